section
-- ===== PART A: goes FIRST, ahead of the names: the tables' words, and 'selects' of the private methods out of them =====
/-- a private method of a class that the tables say can be made, by its rows of tables_1 -/
def lw_okq (q : MethodName × Nat) : Prop := (q.1.cls ≠ "java/lang/invoke/MethodHandle" ∧ q.1.cls ≠ "java/lang/invoke/VarHandle") ∧ Cond.instantiable q.1.cls q.2 ∈ tables_1 ∧ Cond.privateMethod q.1 ∈ tables_1 ∧ Cond.instanceMethod q.1 ∈ tables_1
theorem lw_p0 : lw_okq (⟨"InkPress", "printSheet", "()V"⟩, 8) := ⟨⟨by decide +kernel, by decide +kernel⟩, List.mem_of_getElem? (i := 12) (by decide +kernel), List.mem_of_getElem? (i := 328) (by decide +kernel), List.mem_of_getElem? (i := 329) (by decide +kernel)⟩
theorem lw_p1 : lw_okq (⟨"InkPress", "isSteeringDue", "()Z"⟩, 8) := ⟨⟨by decide +kernel, by decide +kernel⟩, List.mem_of_getElem? (i := 12) (by decide +kernel), List.mem_of_getElem? (i := 370) (by decide +kernel), List.mem_of_getElem? (i := 371) (by decide +kernel)⟩
theorem lw_p2 : lw_okq (⟨"InkPress", "steerKeys", "()V"⟩, 8) := ⟨⟨by decide +kernel, by decide +kernel⟩, List.mem_of_getElem? (i := 12) (by decide +kernel), List.mem_of_getElem? (i := 374) (by decide +kernel), List.mem_of_getElem? (i := 375) (by decide +kernel)⟩
theorem lw_p3 : lw_okq (⟨"InkPress$Marks", "spread", "()J"⟩, 12) := ⟨⟨by decide +kernel, by decide +kernel⟩, List.mem_of_getElem? (i := 148) (by decide +kernel), List.mem_of_getElem? (i := 481) (by decide +kernel), List.mem_of_getElem? (i := 482) (by decide +kernel)⟩
theorem lw_p4 : lw_okq (⟨"InkPress$Marks", "stretch", "()J"⟩, 12) := ⟨⟨by decide +kernel, by decide +kernel⟩, List.mem_of_getElem? (i := 148) (by decide +kernel), List.mem_of_getElem? (i := 490) (by decide +kernel), List.mem_of_getElem? (i := 491) (by decide +kernel)⟩
theorem lw_p5 : lw_okq (⟨"InkPress$Marks", "turn", "()J"⟩, 12) := ⟨⟨by decide +kernel, by decide +kernel⟩, List.mem_of_getElem? (i := 148) (by decide +kernel), List.mem_of_getElem? (i := 494) (by decide +kernel), List.mem_of_getElem? (i := 495) (by decide +kernel)⟩
theorem lw_p6 : lw_okq (⟨"InkPress$Marks", "across", "()J"⟩, 12) := ⟨⟨by decide +kernel, by decide +kernel⟩, List.mem_of_getElem? (i := 148) (by decide +kernel), List.mem_of_getElem? (i := 498) (by decide +kernel), List.mem_of_getElem? (i := 499) (by decide +kernel)⟩
theorem lw_p7 : lw_okq (⟨"InkPress$Marks", "up", "()J"⟩, 12) := ⟨⟨by decide +kernel, by decide +kernel⟩, List.mem_of_getElem? (i := 148) (by decide +kernel), List.mem_of_getElem? (i := 502) (by decide +kernel), List.mem_of_getElem? (i := 503) (by decide +kernel)⟩
theorem lw_p8 : lw_okq (⟨"InkPress$Marks", "inThousandths", "(IJ)I"⟩, 12) := ⟨⟨by decide +kernel, by decide +kernel⟩, List.mem_of_getElem? (i := 148) (by decide +kernel), List.mem_of_getElem? (i := 529) (by decide +kernel), List.mem_of_getElem? (i := 530) (by decide +kernel)⟩
theorem lw_p9 : lw_okq (⟨"InkPress$Jobs", "plan", "()V"⟩, 7) := ⟨⟨by decide +kernel, by decide +kernel⟩, List.mem_of_getElem? (i := 191) (by decide +kernel), List.mem_of_getElem? (i := 584) (by decide +kernel), List.mem_of_getElem? (i := 585) (by decide +kernel)⟩
theorem lw_p10 : lw_okq (⟨"InkPress$Jobs", "weigh", "(II)V"⟩, 7) := ⟨⟨by decide +kernel, by decide +kernel⟩, List.mem_of_getElem? (i := 191) (by decide +kernel), List.mem_of_getElem? (i := 591) (by decide +kernel), List.mem_of_getElem? (i := 592) (by decide +kernel)⟩
theorem lw_p11 : lw_okq (⟨"InkPress$Jobs", "bestNext", "(II)I"⟩, 7) := ⟨⟨by decide +kernel, by decide +kernel⟩, List.mem_of_getElem? (i := 191) (by decide +kernel), List.mem_of_getElem? (i := 595) (by decide +kernel), List.mem_of_getElem? (i := 596) (by decide +kernel)⟩
theorem lw_p12 : lw_okq (⟨"InkPress$Jobs", "costsBy", "(III)I"⟩, 7) := ⟨⟨by decide +kernel, by decide +kernel⟩, List.mem_of_getElem? (i := 191) (by decide +kernel), List.mem_of_getElem? (i := 599) (by decide +kernel), List.mem_of_getElem? (i := 600) (by decide +kernel)⟩
theorem lw_p13 : lw_okq (⟨"InkPress$Jobs", "walk", "()V"⟩, 7) := ⟨⟨by decide +kernel, by decide +kernel⟩, List.mem_of_getElem? (i := 191) (by decide +kernel), List.mem_of_getElem? (i := 603) (by decide +kernel), List.mem_of_getElem? (i := 604) (by decide +kernel)⟩
theorem lw_p14 : lw_okq (⟨"InkPressModel", "begin", "()V"⟩, 37) := ⟨⟨by decide +kernel, by decide +kernel⟩, List.mem_of_getElem? (i := 619) (by decide +kernel), List.mem_of_getElem? (i := 625) (by decide +kernel), List.mem_of_getElem? (i := 626) (by decide +kernel)⟩
theorem lw_p15 : lw_okq (⟨"InkPressModel", "isZone", "(I)Z"⟩, 37) := ⟨⟨by decide +kernel, by decide +kernel⟩, List.mem_of_getElem? (i := 619) (by decide +kernel), List.mem_of_getElem? (i := 764) (by decide +kernel), List.mem_of_getElem? (i := 765) (by decide +kernel)⟩
def lw_privs_1 : List (MethodName × Nat) := [(⟨"InkPress", "printSheet", "()V"⟩, 8), (⟨"InkPress", "isSteeringDue", "()Z"⟩, 8), (⟨"InkPress", "steerKeys", "()V"⟩, 8), (⟨"InkPress$Marks", "spread", "()J"⟩, 12), (⟨"InkPress$Marks", "stretch", "()J"⟩, 12), (⟨"InkPress$Marks", "turn", "()J"⟩, 12), (⟨"InkPress$Marks", "across", "()J"⟩, 12), (⟨"InkPress$Marks", "up", "()J"⟩, 12), (⟨"InkPress$Marks", "inThousandths", "(IJ)I"⟩, 12), (⟨"InkPress$Jobs", "plan", "()V"⟩, 7), (⟨"InkPress$Jobs", "weigh", "(II)V"⟩, 7), (⟨"InkPress$Jobs", "bestNext", "(II)I"⟩, 7), (⟨"InkPress$Jobs", "costsBy", "(III)I"⟩, 7), (⟨"InkPress$Jobs", "walk", "()V"⟩, 7), (⟨"InkPressModel", "begin", "()V"⟩, 37), (⟨"InkPressModel", "isZone", "(I)Z"⟩, 37)]
theorem lw_r1 : ∀ q ∈ lw_privs_1, lw_okq q := List.forall_mem_cons.mpr ⟨lw_p0, List.forall_mem_cons.mpr ⟨lw_p1, List.forall_mem_cons.mpr ⟨lw_p2, List.forall_mem_cons.mpr ⟨lw_p3, List.forall_mem_cons.mpr ⟨lw_p4, List.forall_mem_cons.mpr ⟨lw_p5, List.forall_mem_cons.mpr ⟨lw_p6, List.forall_mem_cons.mpr ⟨lw_p7, List.forall_mem_cons.mpr ⟨lw_p8, List.forall_mem_cons.mpr ⟨lw_p9, List.forall_mem_cons.mpr ⟨lw_p10, List.forall_mem_cons.mpr ⟨lw_p11, List.forall_mem_cons.mpr ⟨lw_p12, List.forall_mem_cons.mpr ⟨lw_p13, List.forall_mem_cons.mpr ⟨lw_p14, List.forall_mem_cons.mpr ⟨lw_p15, fun _ h => absurd h List.not_mem_nil⟩⟩⟩⟩⟩⟩⟩⟩⟩⟩⟩⟩⟩⟩⟩⟩
theorem lw_p16 : lw_okq (⟨"InkPressModel", "densityOf", "(II)I"⟩, 37) := ⟨⟨by decide +kernel, by decide +kernel⟩, List.mem_of_getElem? (i := 619) (by decide +kernel), List.mem_of_getElem? (i := 774) (by decide +kernel), List.mem_of_getElem? (i := 775) (by decide +kernel)⟩
theorem lw_p17 : lw_okq (⟨"InkPressModel", "sheet", "()V"⟩, 37) := ⟨⟨by decide +kernel, by decide +kernel⟩, List.mem_of_getElem? (i := 619) (by decide +kernel), List.mem_of_getElem? (i := 787) (by decide +kernel), List.mem_of_getElem? (i := 788) (by decide +kernel)⟩
theorem lw_p18 : lw_okq (⟨"InkPressModel", "drift", "(I)V"⟩, 37) := ⟨⟨by decide +kernel, by decide +kernel⟩, List.mem_of_getElem? (i := 619) (by decide +kernel), List.mem_of_getElem? (i := 791) (by decide +kernel), List.mem_of_getElem? (i := 792) (by decide +kernel)⟩
theorem lw_p19 : lw_okq (⟨"InkPressModel", "steerKeys", "()V"⟩, 37) := ⟨⟨by decide +kernel, by decide +kernel⟩, List.mem_of_getElem? (i := 619) (by decide +kernel), List.mem_of_getElem? (i := 796) (by decide +kernel), List.mem_of_getElem? (i := 797) (by decide +kernel)⟩
theorem lw_p20 : lw_okq (⟨"InkPressModel", "presetOf", "(I)I"⟩, 37) := ⟨⟨by decide +kernel, by decide +kernel⟩, List.mem_of_getElem? (i := 619) (by decide +kernel), List.mem_of_getElem? (i := 823) (by decide +kernel), List.mem_of_getElem? (i := 824) (by decide +kernel)⟩
theorem lw_p21 : lw_okq (⟨"InkPressModel", "findFit", "()Z"⟩, 37) := ⟨⟨by decide +kernel, by decide +kernel⟩, List.mem_of_getElem? (i := 619) (by decide +kernel), List.mem_of_getElem? (i := 852) (by decide +kernel), List.mem_of_getElem? (i := 853) (by decide +kernel)⟩
theorem lw_p22 : lw_okq (⟨"InkPressModel", "layRow", "(II)V"⟩, 37) := ⟨⟨by decide +kernel, by decide +kernel⟩, List.mem_of_getElem? (i := 619) (by decide +kernel), List.mem_of_getElem? (i := 881) (by decide +kernel), List.mem_of_getElem? (i := 882) (by decide +kernel)⟩
theorem lw_p23 : lw_okq (⟨"InkPressModel", "costOf", "()I"⟩, 37) := ⟨⟨by decide +kernel, by decide +kernel⟩, List.mem_of_getElem? (i := 619) (by decide +kernel), List.mem_of_getElem? (i := 885) (by decide +kernel), List.mem_of_getElem? (i := 886) (by decide +kernel)⟩
def lw_privs_2 : List (MethodName × Nat) := [(⟨"InkPressModel", "densityOf", "(II)I"⟩, 37), (⟨"InkPressModel", "sheet", "()V"⟩, 37), (⟨"InkPressModel", "drift", "(I)V"⟩, 37), (⟨"InkPressModel", "steerKeys", "()V"⟩, 37), (⟨"InkPressModel", "presetOf", "(I)I"⟩, 37), (⟨"InkPressModel", "findFit", "()Z"⟩, 37), (⟨"InkPressModel", "layRow", "(II)V"⟩, 37), (⟨"InkPressModel", "costOf", "()I"⟩, 37)]
theorem lw_r2 : ∀ q ∈ lw_privs_2, lw_okq q := List.forall_mem_cons.mpr ⟨lw_p16, List.forall_mem_cons.mpr ⟨lw_p17, List.forall_mem_cons.mpr ⟨lw_p18, List.forall_mem_cons.mpr ⟨lw_p19, List.forall_mem_cons.mpr ⟨lw_p20, List.forall_mem_cons.mpr ⟨lw_p21, List.forall_mem_cons.mpr ⟨lw_p22, List.forall_mem_cons.mpr ⟨lw_p23, fun _ h => absurd h List.not_mem_nil⟩⟩⟩⟩⟩⟩⟩⟩
def lw_privs : List (MethodName × Nat) := lw_privs_1 ++ (lw_privs_2)
def lw_tbl : List Cond := k2_sels lw_privs ++ tables_1
theorem lw_privs_ok : ∀ q ∈ lw_privs, lw_okq q := by
  show ∀ q ∈ lw_privs_1 ++ (lw_privs_2), lw_okq q
  exact List.forall_mem_append.mpr ⟨lw_r1, lw_r2⟩
/-! ===== BEGIN words of one list among another's, by their places ===== -/
theorem goodIn_r {big : List Cond} (ws : List Cond) (ps : List Nat) (hp : ws = ps.filterMap (fun i => big[i]?)) (h : ws.all goodWord = true) : GoodIn big ws := by
  intro w hw
  have h1 := List.all_eq_true.mp h w hw
  rw [hp] at hw
  obtain ⟨i, -, hi⟩ := List.mem_filterMap.mp hw
  have hm : w ∈ big := by first | exact List.mem_of_getElem? hi | exact List.getElem?_mem hi
  exact ⟨hm, good_of_word h1⟩
theorem goodIn_app {big a b : List Cond} (ha : GoodIn big a) (hb : GoodIn big b) : GoodIn big (a ++ b) := fun w h => (List.mem_append.mp h).elim (ha w) (hb w)
theorem goodIn_ca {big a b : List Cond} {c : Cond} (ha : GoodIn big (c :: a)) (hb : GoodIn big b) : GoodIn big (c :: (a ++ b)) := fun w h => (List.mem_cons.mp h).elim (fun e => ha w (List.mem_cons.mpr (Or.inl e))) (fun h => (List.mem_append.mp h).elim (fun h => ha w (List.mem_cons.mpr (Or.inr h))) (hb w))
theorem goodIn_sub {big ws : List Cond} (hm : ∀ w ∈ ws, w ∈ big) (h : ws.all goodWord = true) : GoodIn big ws := fun w hw => ⟨hm w hw, good_of_word (List.all_eq_true.mp h w hw)⟩
/-! ===== END ===== -/

/-! ===== BEGIN printed: names, fields, word lists, decode rows ===== -/
def RX0 : String := "InkPress$Jobs"
def TX0 : u_T := fun k => match k with
  | 0 => ("InkPress$Jobs", "colours", "[I", true)
  | 1 => ("InkPress$Jobs", "papers", "[I", true)
  | 2 => ("InkPress$Jobs", "washes", "[I", true)
  | 3 => ("InkPress$Jobs", "costsToCome", "[I", true)
  | 4 => ("InkPress$Jobs", "best", "[I", true)
  | 5 => ("InkPress$Jobs", "count", "I", false)
  | _ => ("InkPress$Jobs", "isPlanned", "Z", false)
def tyX0 : Nat → FieldType := fun k => match k with
  | 0 => .array .int
  | 1 => .array .int
  | 2 => .array .int
  | 3 => .array .int
  | 4 => .array .int
  | 5 => .int
  | _ => .boolean
abbrev wsX00 : List Cond := u_ws RX0 TX0 7
theorem nmX0 : ∀ a, a < 7 → ∀ b, b < 7 → a ≠ b → (TX0 a).2.1 ≠ (TX0 b).2.1 := by decide +kernel
theorem tyX0_ok : ∀ k, k < 7 → parseFieldDescriptor (TX0 k).2.2.1 = some (tyX0 k) := by decide +kernel
abbrev cX0_init : ByteArray := prog_2_method_1_code
def yX0_init : MethodName := ⟨RX0, "<init>", "()V"⟩
abbrev cX0_isColour : ByteArray := prog_2_method_2_code
def yX0_isColour : MethodName := ⟨RX0, "isColour", "(I)Z"⟩
abbrev cX0_isPaper : ByteArray := prog_2_method_3_code
def yX0_isPaper : MethodName := ⟨RX0, "isPaper", "(I)Z"⟩
abbrev cX0_isWashCost : ByteArray := prog_2_method_4_code
def yX0_isWashCost : MethodName := ⟨RX0, "isWashCost", "(I)Z"⟩
abbrev cX0_has : ByteArray := prog_2_method_5_code
def yX0_has : MethodName := ⟨RX0, "has", "(I)Z"⟩
abbrev cX0_isFull : ByteArray := prog_2_method_6_code
def yX0_isFull : MethodName := ⟨RX0, "isFull", "()Z"⟩
abbrev cX0_add : ByteArray := prog_2_method_7_code
def yX0_add : MethodName := ⟨RX0, "add", "(II)I"⟩
abbrev cX0_removeAll : ByteArray := prog_2_method_8_code
def yX0_removeAll : MethodName := ⟨RX0, "removeAll", "()I"⟩
abbrev cX0_changeWash : ByteArray := prog_2_method_9_code
def yX0_changeWash : MethodName := ⟨RX0, "changeWash", "(III)I"⟩
abbrev cX0_leastCosts : ByteArray := prog_2_method_10_code
def yX0_leastCosts : MethodName := ⟨RX0, "leastCosts", "()I"⟩
abbrev cX0_inOrder : ByteArray := prog_2_method_11_code
def yX0_inOrder : MethodName := ⟨RX0, "inOrder", "(I)I"⟩
abbrev cX0_plan : ByteArray := prog_2_method_12_code
def yX0_plan : MethodName := ⟨RX0, "plan", "()V"⟩
abbrev cX0_weigh : ByteArray := prog_2_method_13_code
def yX0_weigh : MethodName := ⟨RX0, "weigh", "(II)V"⟩
abbrev cX0_walk : ByteArray := prog_2_method_14_code
def yX0_walk : MethodName := ⟨RX0, "walk", "()V"⟩
abbrev cX0_bestNext : ByteArray := prog_2_method_15_code
def yX0_bestNext : MethodName := ⟨RX0, "bestNext", "(II)I"⟩
abbrev cX0_costsBy : ByteArray := prog_2_method_16_code
def yX0_costsBy : MethodName := ⟨RX0, "costsBy", "(III)I"⟩
abbrev cX0_holds : ByteArray := prog_2_method_17_code
def yX0_holds : MethodName := ⟨RX0, "holds", "(II)Z"⟩
def RX1 : String := "InkPress$Marks"
def TX1 : u_T := fun k => match k with
  | 0 => ("InkPress$Marks", "x", "[I", true)
  | 1 => ("InkPress$Marks", "y", "[I", true)
  | 2 => ("InkPress$Marks", "dx", "[I", true)
  | 3 => ("InkPress$Marks", "dy", "[I", true)
  | 4 => ("InkPress$Marks", "count", "I", false)
  | 5 => ("InkPress$Marks", "sumX", "J", false)
  | 6 => ("InkPress$Marks", "sumY", "J", false)
  | 7 => ("InkPress$Marks", "sumDx", "J", false)
  | 8 => ("InkPress$Marks", "sumDy", "J", false)
  | 9 => ("InkPress$Marks", "sumSquares", "J", false)
  | 10 => ("InkPress$Marks", "sumOutward", "J", false)
  | _ => ("InkPress$Marks", "sumAround", "J", false)
def tyX1 : Nat → FieldType := fun k => match k with
  | 0 => .array .int
  | 1 => .array .int
  | 2 => .array .int
  | 3 => .array .int
  | 4 => .int
  | 5 => .long
  | 6 => .long
  | 7 => .long
  | 8 => .long
  | 9 => .long
  | 10 => .long
  | _ => .long
abbrev wsX10 : List Cond := u_ws RX1 TX1 12
theorem nmX1 : ∀ a, a < 12 → ∀ b, b < 12 → a ≠ b → (TX1 a).2.1 ≠ (TX1 b).2.1 := by decide +kernel
theorem tyX1_ok : ∀ k, k < 12 → parseFieldDescriptor (TX1 k).2.2.1 = some (tyX1 k) := by decide +kernel
abbrev cX1_init : ByteArray := prog_3_method_1_code
def yX1_init : MethodName := ⟨RX1, "<init>", "()V"⟩
abbrev cX1_isPlace : ByteArray := prog_3_method_2_code
def yX1_isPlace : MethodName := ⟨RX1, "isPlace", "(I)Z"⟩
abbrev cX1_isOffset : ByteArray := prog_3_method_3_code
def yX1_isOffset : MethodName := ⟨RX1, "isOffset", "(I)Z"⟩
abbrev cX1_has : ByteArray := prog_3_method_4_code
def yX1_has : MethodName := ⟨RX1, "has", "(I)Z"⟩
abbrev cX1_isFull : ByteArray := prog_3_method_5_code
def yX1_isFull : MethodName := ⟨RX1, "isFull", "()Z"⟩
abbrev cX1_add : ByteArray := prog_3_method_6_code
def yX1_add : MethodName := ⟨RX1, "add", "(IIII)I"⟩
abbrev cX1_removeAll : ByteArray := prog_3_method_7_code
def yX1_removeAll : MethodName := ⟨RX1, "removeAll", "()I"⟩
abbrev cX1_isTold : ByteArray := prog_3_method_8_code
def yX1_isTold : MethodName := ⟨RX1, "isTold", "()Z"⟩
abbrev cX1_upper : ByteArray := prog_3_method_9_code
def yX1_upper : MethodName := ⟨RX1, "upper", "(I)J"⟩
abbrev cX1_lower : ByteArray := prog_3_method_10_code
def yX1_lower : MethodName := ⟨RX1, "lower", "(I)J"⟩
abbrev cX1_offAcross : ByteArray := prog_3_method_11_code
def yX1_offAcross : MethodName := ⟨RX1, "offAcross", "(I)I"⟩
abbrev cX1_offUp : ByteArray := prog_3_method_12_code
def yX1_offUp : MethodName := ⟨RX1, "offUp", "(I)I"⟩
abbrev cX1_inThousandths : ByteArray := prog_3_method_13_code
def yX1_inThousandths : MethodName := ⟨RX1, "inThousandths", "(IJ)I"⟩
abbrev cX1_spread : ByteArray := prog_3_method_14_code
def yX1_spread : MethodName := ⟨RX1, "spread", "()J"⟩
abbrev cX1_stretch : ByteArray := prog_3_method_15_code
def yX1_stretch : MethodName := ⟨RX1, "stretch", "()J"⟩
abbrev cX1_turn : ByteArray := prog_3_method_16_code
def yX1_turn : MethodName := ⟨RX1, "turn", "()J"⟩
abbrev cX1_across : ByteArray := prog_3_method_17_code
def yX1_across : MethodName := ⟨RX1, "across", "()J"⟩
abbrev cX1_up : ByteArray := prog_3_method_18_code
def yX1_up : MethodName := ⟨RX1, "up", "()J"⟩
def RX2 : String := "InkPress$PastJobs"
def TX2 : u_T := fun k => match k with
  | 0 => ("InkPress$PastJobs", "count", "I", false)
  | 1 => ("InkPress$PastJobs", "covers", "J", false)
  | 2 => ("InkPress$PastJobs", "keys", "J", false)
  | 3 => ("InkPress$PastJobs", "coversSquared", "J", false)
  | _ => ("InkPress$PastJobs", "coversByKeys", "J", false)
def tyX2 : Nat → FieldType := fun k => match k with
  | 0 => .int
  | 1 => .long
  | 2 => .long
  | 3 => .long
  | _ => .long
abbrev wsX20 : List Cond := u_ws RX2 TX2 5
theorem nmX2 : ∀ a, a < 5 → ∀ b, b < 5 → a ≠ b → (TX2 a).2.1 ≠ (TX2 b).2.1 := by decide +kernel
theorem tyX2_ok : ∀ k, k < 5 → parseFieldDescriptor (TX2 k).2.2.1 = some (tyX2 k) := by decide +kernel
abbrev cX2_init : ByteArray := prog_4_method_1_code
def yX2_init : MethodName := ⟨RX2, "<init>", "()V"⟩
abbrev cX2_isEmpty : ByteArray := prog_4_method_2_code
def yX2_isEmpty : MethodName := ⟨RX2, "isEmpty", "()Z"⟩
abbrev cX2_isFull : ByteArray := prog_4_method_3_code
def yX2_isFull : MethodName := ⟨RX2, "isFull", "()Z"⟩
abbrev cX2_add : ByteArray := prog_4_method_4_code
def yX2_add : MethodName := ⟨RX2, "add", "(II)I"⟩
abbrev cX2_keyFor : ByteArray := prog_4_method_5_code
def yX2_keyFor : MethodName := ⟨RX2, "keyFor", "(I)I"⟩
def RX3 : String := "InkPress$Rules"
def TX3 : u_T := fun k => match k with
  | _ => ("InkPress$Rules", "values", "[I", true)
def tyX3 : Nat → FieldType := fun k => match k with
  | _ => .array .int
abbrev wsX30 : List Cond := u_ws RX3 TX3 1
theorem nmX3 : ∀ a, a < 1 → ∀ b, b < 1 → a ≠ b → (TX3 a).2.1 ≠ (TX3 b).2.1 := by decide +kernel
theorem tyX3_ok : ∀ k, k < 1 → parseFieldDescriptor (TX3 k).2.2.1 = some (tyX3 k) := by decide +kernel
abbrev cX3_init : ByteArray := prog_5_method_1_code
def yX3_init : MethodName := ⟨RX3, "<init>", "()V"⟩
abbrev cX3_has : ByteArray := prog_5_method_2_code
def yX3_has : MethodName := ⟨RX3, "has", "(I)Z"⟩
abbrev cX3_allows : ByteArray := prog_5_method_3_code
def yX3_allows : MethodName := ⟨RX3, "allows", "(II)Z"⟩
abbrev cX3_valueOf : ByteArray := prog_5_method_4_code
def yX3_valueOf : MethodName := ⟨RX3, "valueOf", "(I)I"⟩
abbrev cX3_change : ByteArray := prog_5_method_5_code
def yX3_change : MethodName := ⟨RX3, "change", "(II)I"⟩
def RX4 : String := "InkPress$SheetLog"
def TX4 : u_T := fun k => match k with
  | 0 => ("InkPress$SheetLog", "densities", "[I", true)
  | 1 => ("InkPress$SheetLog", "good", "[Z", true)
  | 2 => ("InkPress$SheetLog", "count", "I", false)
  | 3 => ("InkPress$SheetLog", "goodCount", "I", false)
  | 4 => ("InkPress$SheetLog", "goodInARow", "I", false)
  | _ => ("InkPress$SheetLog", "start", "I", false)
def tyX4 : Nat → FieldType := fun k => match k with
  | 0 => .array .int
  | 1 => .array .boolean
  | 2 => .int
  | 3 => .int
  | 4 => .int
  | _ => .int
abbrev wsX40 : List Cond := u_ws RX4 TX4 6
theorem nmX4 : ∀ a, a < 6 → ∀ b, b < 6 → a ≠ b → (TX4 a).2.1 ≠ (TX4 b).2.1 := by decide +kernel
theorem tyX4_ok : ∀ k, k < 6 → parseFieldDescriptor (TX4 k).2.2.1 = some (tyX4 k) := by decide +kernel
abbrev cX4_init : ByteArray := prog_6_method_1_code
def yX4_init : MethodName := ⟨RX4, "<init>", "()V"⟩
abbrev cX4_restart : ByteArray := prog_6_method_2_code
def yX4_restart : MethodName := ⟨RX4, "restart", "()V"⟩
abbrev cX4_has : ByteArray := prog_6_method_3_code
def yX4_has : MethodName := ⟨RX4, "has", "(I)Z"⟩
abbrev cX4_begin : ByteArray := prog_6_method_4_code
def yX4_begin : MethodName := ⟨RX4, "begin", "()V"⟩
abbrev cX4_note : ByteArray := prog_6_method_5_code
def yX4_note : MethodName := ⟨RX4, "note", "(II)V"⟩
abbrev cX4_judge : ByteArray := prog_6_method_6_code
def yX4_judge : MethodName := ⟨RX4, "judge", "(ZI)V"⟩
abbrev cX4_wasGood : ByteArray := prog_6_method_7_code
def yX4_wasGood : MethodName := ⟨RX4, "wasGood", "(I)Z"⟩
abbrev cX4_densityOn : ByteArray := prog_6_method_8_code
def yX4_densityOn : MethodName := ⟨RX4, "densityOn", "(II)I"⟩
abbrev cX4_latestDensity : ByteArray := prog_6_method_9_code
def yX4_latestDensity : MethodName := ⟨RX4, "latestDensity", "(I)I"⟩
def RX5 : String := "InkPress$Train"
def TX5 : u_T := fun k => match k with
  | 0 => ("InkPress$Train", "ink", "[I", true)
  | 1 => ("InkPress$Train", "zones", "I", false)
  | 2 => ("InkPress$Train", "rollers", "I", false)
  | 3 => ("InkPress$Train", "fed", "I", false)
  | 4 => ("InkPress$Train", "onPaper", "I", false)
  | _ => ("InkPress$Train", "onBars", "I", false)
def tyX5 : Nat → FieldType := fun k => match k with
  | 0 => .array .int
  | 1 => .int
  | 2 => .int
  | 3 => .int
  | 4 => .int
  | _ => .int
abbrev wsX50 : List Cond := u_ws RX5 TX5 6
theorem nmX5 : ∀ a, a < 6 → ∀ b, b < 6 → a ≠ b → (TX5 a).2.1 ≠ (TX5 b).2.1 := by decide +kernel
theorem tyX5_ok : ∀ k, k < 6 → parseFieldDescriptor (TX5 k).2.2.1 = some (tyX5 k) := by decide +kernel
abbrev cX5_init : ByteArray := prog_7_method_1_code
def yX5_init : MethodName := ⟨RX5, "<init>", "()V"⟩
abbrev cX5_restart : ByteArray := prog_7_method_2_code
def yX5_restart : MethodName := ⟨RX5, "restart", "(II)V"⟩
abbrev cX5_has : ByteArray := prog_7_method_3_code
def yX5_has : MethodName := ⟨RX5, "has", "(I)Z"⟩
abbrev cX5_inkAt : ByteArray := prog_7_method_4_code
def yX5_inkAt : MethodName := ⟨RX5, "inkAt", "(II)I"⟩
abbrev cX5_inkOn : ByteArray := prog_7_method_5_code
def yX5_inkOn : MethodName := ⟨RX5, "inkOn", "()I"⟩
abbrev cX5_feedZone : ByteArray := prog_7_method_6_code
def yX5_feedZone : MethodName := ⟨RX5, "feedZone", "(II)V"⟩
abbrev cX5_passOn : ByteArray := prog_7_method_7_code
def yX5_passOn : MethodName := ⟨RX5, "passOn", "(I)V"⟩
abbrev cX5_driftAside : ByteArray := prog_7_method_8_code
def yX5_driftAside : MethodName := ⟨RX5, "driftAside", "(I)V"⟩
abbrev cX5_takeOff : ByteArray := prog_7_method_9_code
def yX5_takeOff : MethodName := ⟨RX5, "takeOff", "(III)I"⟩
abbrev cX5_share : ByteArray := prog_7_method_10_code
def yX5_share : MethodName := ⟨RX5, "share", "(III)I"⟩
def RX6 : String := "InkPress$Zones"
def TX6 : u_T := fun k => match k with
  | 0 => ("InkPress$Zones", "values", "[I", true)
  | _ => ("InkPress$Zones", "count", "I", false)
def tyX6 : Nat → FieldType := fun k => match k with
  | 0 => .array .int
  | _ => .int
abbrev wsX60 : List Cond := u_ws RX6 TX6 2
theorem nmX6 : ∀ a, a < 2 → ∀ b, b < 2 → a ≠ b → (TX6 a).2.1 ≠ (TX6 b).2.1 := by decide +kernel
theorem tyX6_ok : ∀ k, k < 2 → parseFieldDescriptor (TX6 k).2.2.1 = some (tyX6 k) := by decide +kernel
abbrev cX6_init : ByteArray := prog_8_method_1_code
def yX6_init : MethodName := ⟨RX6, "<init>", "()V"⟩
abbrev cX6_restart : ByteArray := prog_8_method_2_code
def yX6_restart : MethodName := ⟨RX6, "restart", "(I)V"⟩
abbrev cX6_has : ByteArray := prog_8_method_3_code
def yX6_has : MethodName := ⟨RX6, "has", "(I)Z"⟩
abbrev cX6_allows : ByteArray := prog_8_method_4_code
def yX6_allows : MethodName := ⟨RX6, "allows", "(II)Z"⟩
abbrev cX6_valueOf : ByteArray := prog_8_method_5_code
def yX6_valueOf : MethodName := ⟨RX6, "valueOf", "(II)I"⟩
abbrev cX6_change : ByteArray := prog_8_method_6_code
def yX6_change : MethodName := ⟨RX6, "change", "(III)I"⟩
def RX7 : String := "InkPress"
def TX7 : u_T := fun k => match k with
  | 0 => ("InkPress", "rules", "LInkPress$Rules;", true)
  | 1 => ("InkPress", "zones", "LInkPress$Zones;", true)
  | 2 => ("InkPress", "train", "LInkPress$Train;", true)
  | 3 => ("InkPress", "sheets", "LInkPress$SheetLog;", true)
  | 4 => ("InkPress", "pastJobs", "LInkPress$PastJobs;", true)
  | 5 => ("InkPress", "marks", "LInkPress$Marks;", true)
  | 6 => ("InkPress", "jobs", "LInkPress$Jobs;", true)
  | _ => ("InkPress", "steering", "Z", false)
def tyX7 : Nat → FieldType := fun k => match k with
  | 0 => .object "InkPress$Rules"
  | 1 => .object "InkPress$Zones"
  | 2 => .object "InkPress$Train"
  | 3 => .object "InkPress$SheetLog"
  | 4 => .object "InkPress$PastJobs"
  | 5 => .object "InkPress$Marks"
  | 6 => .object "InkPress$Jobs"
  | _ => .boolean
abbrev wsX70 : List Cond := u_ws RX7 TX7 8
theorem nmX7 : ∀ a, a < 8 → ∀ b, b < 8 → a ≠ b → (TX7 a).2.1 ≠ (TX7 b).2.1 := by decide +kernel
theorem tyX7_ok : ∀ k, k < 8 → parseFieldDescriptor (TX7 k).2.2.1 = some (tyX7 k) := by decide +kernel
abbrev cX7_init : ByteArray := prog_1_method_1_code
def yX7_init : MethodName := ⟨RX7, "<init>", "()V"⟩
abbrev cX7_press : ByteArray := prog_1_method_2_code
def yX7_press : MethodName := ⟨RX7, "press", "(II)I"⟩
abbrev cX7_rule : ByteArray := prog_1_method_3_code
def yX7_rule : MethodName := ⟨RX7, "rule", "(II)I"⟩
abbrev cX7_set : ByteArray := prog_1_method_4_code
def yX7_set : MethodName := ⟨RX7, "set", "(III)I"⟩
abbrev cX7_zone : ByteArray := prog_1_method_5_code
def yX7_zone : MethodName := ⟨RX7, "zone", "(II)I"⟩
abbrev cX7_ink : ByteArray := prog_1_method_6_code
def yX7_ink : MethodName := ⟨RX7, "ink", "(II)I"⟩
abbrev cX7_print : ByteArray := prog_1_method_7_code
def yX7_print : MethodName := ⟨RX7, "print", "(I)I"⟩
abbrev cX7_steer : ByteArray := prog_1_method_8_code
def yX7_steer : MethodName := ⟨RX7, "steer", "(Z)I"⟩
abbrev cX7_good : ByteArray := prog_1_method_9_code
def yX7_good : MethodName := ⟨RX7, "good", "(I)I"⟩
abbrev cX7_density : ByteArray := prog_1_method_10_code
def yX7_density : MethodName := ⟨RX7, "density", "(II)I"⟩
abbrev cX7_past : ByteArray := prog_1_method_11_code
def yX7_past : MethodName := ⟨RX7, "past", "(II)I"⟩
abbrev cX7_preset : ByteArray := prog_1_method_12_code
def yX7_preset : MethodName := ⟨RX7, "preset", "(I)I"⟩
abbrev cX7_presets : ByteArray := prog_1_method_13_code
def yX7_presets : MethodName := ⟨RX7, "presets", "()I"⟩
abbrev cX7_told : ByteArray := prog_1_method_14_code
def yX7_told : MethodName := ⟨RX7, "told", "(I)I"⟩
abbrev cX7_mark : ByteArray := prog_1_method_15_code
def yX7_mark : MethodName := ⟨RX7, "mark", "(IIII)I"⟩
abbrev cX7_clear : ByteArray := prog_1_method_16_code
def yX7_clear : MethodName := ⟨RX7, "clear", "()I"⟩
abbrev cX7_fit : ByteArray := prog_1_method_17_code
def yX7_fit : MethodName := ⟨RX7, "fit", "(II)J"⟩
abbrev cX7_off : ByteArray := prog_1_method_18_code
def yX7_off : MethodName := ⟨RX7, "off", "(II)I"⟩
abbrev cX7_job : ByteArray := prog_1_method_19_code
def yX7_job : MethodName := ⟨RX7, "job", "(II)I"⟩
abbrev cX7_forget : ByteArray := prog_1_method_20_code
def yX7_forget : MethodName := ⟨RX7, "forget", "()I"⟩
abbrev cX7_wash : ByteArray := prog_1_method_21_code
def yX7_wash : MethodName := ⟨RX7, "wash", "(III)I"⟩
abbrev cX7_order : ByteArray := prog_1_method_22_code
def yX7_order : MethodName := ⟨RX7, "order", "()I"⟩
abbrev cX7_orderAt : ByteArray := prog_1_method_23_code
def yX7_orderAt : MethodName := ⟨RX7, "orderAt", "(I)I"⟩
abbrev cX7_printSheet : ByteArray := prog_1_method_24_code
def yX7_printSheet : MethodName := ⟨RX7, "printSheet", "()V"⟩
abbrev cX7_isSteeringDue : ByteArray := prog_1_method_25_code
def yX7_isSteeringDue : MethodName := ⟨RX7, "isSteeringDue", "()Z"⟩
abbrev cX7_steerKeys : ByteArray := prog_1_method_26_code
def yX7_steerKeys : MethodName := ⟨RX7, "steerKeys", "()V"⟩
abbrev cX7_within : ByteArray := prog_1_method_27_code
def yX7_within : MethodName := ⟨RX7, "within", "(III)Z"⟩
abbrev cX7_held : ByteArray := prog_1_method_28_code
def yX7_held : MethodName := ⟨RX7, "held", "(JII)I"⟩
abbrev cX7_commonDivisor : ByteArray := prog_1_method_29_code
def yX7_commonDivisor : MethodName := ⟨RX7, "commonDivisor", "(JJ)J"⟩
def RX8 : String := "InkPressModel"
def TX8 : u_T := fun k => match k with
  | 0 => ("InkPressModel", "zones", "I", false)
  | 1 => ("InkPressModel", "rollers", "I", false)
  | 2 => ("InkPressModel", "rules", "[I", true)
  | 3 => ("InkPressModel", "key", "[I", true)
  | 4 => ("InkPressModel", "cover", "[I", true)
  | 5 => ("InkPressModel", "target", "[I", true)
  | 6 => ("InkPressModel", "ink", "[I", true)
  | 7 => ("InkPressModel", "density", "[I", true)
  | 8 => ("InkPressModel", "isGood", "[Z", true)
  | 9 => ("InkPressModel", "sheets", "I", false)
  | 10 => ("InkPressModel", "goodMany", "I", false)
  | 11 => ("InkPressModel", "together", "I", false)
  | 12 => ("InkPressModel", "start", "I", false)
  | 13 => ("InkPressModel", "fed", "I", false)
  | 14 => ("InkPressModel", "paper", "I", false)
  | 15 => ("InkPressModel", "bars", "I", false)
  | 16 => ("InkPressModel", "steers", "Z", false)
  | 17 => ("InkPressModel", "aside", "[I", true)
  | 18 => ("InkPressModel", "pastCover", "[I", true)
  | 19 => ("InkPressModel", "pastKey", "[I", true)
  | 20 => ("InkPressModel", "pastMany", "I", false)
  | 21 => ("InkPressModel", "markX", "[I", true)
  | 22 => ("InkPressModel", "markY", "[I", true)
  | 23 => ("InkPressModel", "markDx", "[I", true)
  | 24 => ("InkPressModel", "markDy", "[I", true)
  | 25 => ("InkPressModel", "marks", "I", false)
  | 26 => ("InkPressModel", "all", "J", false)
  | 27 => ("InkPressModel", "stretch", "J", false)
  | 28 => ("InkPressModel", "turn", "J", false)
  | 29 => ("InkPressModel", "across", "J", false)
  | 30 => ("InkPressModel", "above", "J", false)
  | 31 => ("InkPressModel", "colour", "[I", true)
  | 32 => ("InkPressModel", "sheetOf", "[I", true)
  | 33 => ("InkPressModel", "washes", "[I", true)
  | 34 => ("InkPressModel", "jobs", "I", false)
  | 35 => ("InkPressModel", "row", "[I", true)
  | _ => ("InkPressModel", "best", "[I", true)
def tyX8 : Nat → FieldType := fun k => match k with
  | 0 => .int
  | 1 => .int
  | 2 => .array .int
  | 3 => .array .int
  | 4 => .array .int
  | 5 => .array .int
  | 6 => .array .int
  | 7 => .array .int
  | 8 => .array .boolean
  | 9 => .int
  | 10 => .int
  | 11 => .int
  | 12 => .int
  | 13 => .int
  | 14 => .int
  | 15 => .int
  | 16 => .boolean
  | 17 => .array .int
  | 18 => .array .int
  | 19 => .array .int
  | 20 => .int
  | 21 => .array .int
  | 22 => .array .int
  | 23 => .array .int
  | 24 => .array .int
  | 25 => .int
  | 26 => .long
  | 27 => .long
  | 28 => .long
  | 29 => .long
  | 30 => .long
  | 31 => .array .int
  | 32 => .array .int
  | 33 => .array .int
  | 34 => .int
  | 35 => .array .int
  | _ => .array .int
abbrev wsX80 : List Cond := u_ws RX8 TX8 37
theorem nmX8 : ∀ a, a < 37 → ∀ b, b < 37 → a ≠ b → (TX8 a).2.1 ≠ (TX8 b).2.1 := by decide +kernel
theorem tyX8_ok : ∀ k, k < 37 → parseFieldDescriptor (TX8 k).2.2.1 = some (tyX8 k) := by decide +kernel
abbrev cX8_init : ByteArray := prog_10_method_1_code
def yX8_init : MethodName := ⟨RX8, "<init>", "()V"⟩
abbrev cX8_in : ByteArray := prog_10_method_3_code
def yX8_in : MethodName := ⟨RX8, "in", "(JJJ)Z"⟩
abbrev cX8_begin : ByteArray := prog_10_method_4_code
def yX8_begin : MethodName := ⟨RX8, "begin", "()V"⟩
abbrev cX8_isZone : ByteArray := prog_10_method_5_code
def yX8_isZone : MethodName := ⟨RX8, "isZone", "(I)Z"⟩
abbrev cX8_press : ByteArray := prog_10_method_6_code
def yX8_press : MethodName := ⟨RX8, "press", "(II)I"⟩
abbrev cX8_mostOf : ByteArray := prog_10_method_7_code
def yX8_mostOf : MethodName := ⟨RX8, "mostOf", "(I)I"⟩
abbrev cX8_rule : ByteArray := prog_10_method_8_code
def yX8_rule : MethodName := ⟨RX8, "rule", "(II)I"⟩
abbrev cX8_set : ByteArray := prog_10_method_9_code
def yX8_set : MethodName := ⟨RX8, "set", "(III)I"⟩
abbrev cX8_densityOf : ByteArray := prog_10_method_10_code
def yX8_densityOf : MethodName := ⟨RX8, "densityOf", "(II)I"⟩
abbrev cX8_zone : ByteArray := prog_10_method_11_code
def yX8_zone : MethodName := ⟨RX8, "zone", "(II)I"⟩
abbrev cX8_ink : ByteArray := prog_10_method_12_code
def yX8_ink : MethodName := ⟨RX8, "ink", "(II)I"⟩
abbrev cX8_drift : ByteArray := prog_10_method_13_code
def yX8_drift : MethodName := ⟨RX8, "drift", "(I)V"⟩
abbrev cX8_sheet : ByteArray := prog_10_method_14_code
def yX8_sheet : MethodName := ⟨RX8, "sheet", "()V"⟩
abbrev cX8_held : ByteArray := prog_10_method_15_code
def yX8_held : MethodName := ⟨RX8, "held", "(III)I"⟩
abbrev cX8_steerKeys : ByteArray := prog_10_method_16_code
def yX8_steerKeys : MethodName := ⟨RX8, "steerKeys", "()V"⟩
abbrev cX8_print : ByteArray := prog_10_method_17_code
def yX8_print : MethodName := ⟨RX8, "print", "(I)I"⟩
abbrev cX8_steer : ByteArray := prog_10_method_18_code
def yX8_steer : MethodName := ⟨RX8, "steer", "(Z)I"⟩
abbrev cX8_good : ByteArray := prog_10_method_19_code
def yX8_good : MethodName := ⟨RX8, "good", "(I)I"⟩
abbrev cX8_density : ByteArray := prog_10_method_20_code
def yX8_density : MethodName := ⟨RX8, "density", "(II)I"⟩
abbrev cX8_past : ByteArray := prog_10_method_21_code
def yX8_past : MethodName := ⟨RX8, "past", "(II)I"⟩
abbrev cX8_presetOf : ByteArray := prog_10_method_22_code
def yX8_presetOf : MethodName := ⟨RX8, "presetOf", "(I)I"⟩
abbrev cX8_preset : ByteArray := prog_10_method_23_code
def yX8_preset : MethodName := ⟨RX8, "preset", "(I)I"⟩
abbrev cX8_presets : ByteArray := prog_10_method_24_code
def yX8_presets : MethodName := ⟨RX8, "presets", "()I"⟩
abbrev cX8_told : ByteArray := prog_10_method_25_code
def yX8_told : MethodName := ⟨RX8, "told", "(I)I"⟩
abbrev cX8_isPlace : ByteArray := prog_10_method_26_code
def yX8_isPlace : MethodName := ⟨RX8, "isPlace", "(III)Z"⟩
abbrev cX8_mark : ByteArray := prog_10_method_27_code
def yX8_mark : MethodName := ⟨RX8, "mark", "(IIII)I"⟩
abbrev cX8_clear : ByteArray := prog_10_method_28_code
def yX8_clear : MethodName := ⟨RX8, "clear", "()I"⟩
abbrev cX8_findFit : ByteArray := prog_10_method_29_code
def yX8_findFit : MethodName := ⟨RX8, "findFit", "()Z"⟩
abbrev cX8_lowest : ByteArray := prog_10_method_30_code
def yX8_lowest : MethodName := ⟨RX8, "lowest", "(JJI)J"⟩
abbrev cX8_fit : ByteArray := prog_10_method_31_code
def yX8_fit : MethodName := ⟨RX8, "fit", "(II)J"⟩
abbrev cX8_off : ByteArray := prog_10_method_32_code
def yX8_off : MethodName := ⟨RX8, "off", "(II)I"⟩
abbrev cX8_job : ByteArray := prog_10_method_33_code
def yX8_job : MethodName := ⟨RX8, "job", "(II)I"⟩
abbrev cX8_forget : ByteArray := prog_10_method_34_code
def yX8_forget : MethodName := ⟨RX8, "forget", "()I"⟩
abbrev cX8_wash : ByteArray := prog_10_method_35_code
def yX8_wash : MethodName := ⟨RX8, "wash", "(III)I"⟩
abbrev cX8_layRow : ByteArray := prog_10_method_36_code
def yX8_layRow : MethodName := ⟨RX8, "layRow", "(II)V"⟩
abbrev cX8_costOf : ByteArray := prog_10_method_37_code
def yX8_costOf : MethodName := ⟨RX8, "costOf", "()I"⟩
abbrev cX8_order : ByteArray := prog_10_method_38_code
def yX8_order : MethodName := ⟨RX8, "order", "()I"⟩
abbrev cX8_orderAt : ByteArray := prog_10_method_39_code
def yX8_orderAt : MethodName := ⟨RX8, "orderAt", "(I)I"⟩
def RJx8e188 : String := "java/lang/Cloneable"
def TJx8e188 : u_T := fun k => match k with
  | _ => ("", "", "", false)
def tyJx8e188 : Nat → FieldType := fun k => match k with
  | _ => .int
abbrev wsJx8e1880 : List Cond := u_ws RJx8e188 TJx8e188 0
theorem nmJx8e188 : ∀ a, a < 0 → ∀ b, b < 0 → a ≠ b → (TJx8e188 a).2.1 ≠ (TJx8e188 b).2.1 := by decide +kernel
theorem tyJx8e188_ok : ∀ k, k < 0 → parseFieldDescriptor (TJx8e188 k).2.2.1 = some (tyJx8e188 k) := by decide +kernel
def RJ9 : String := "java/lang/Math"
def TJ9 : u_T := fun k => match k with
  | _ => ("", "", "", false)
def tyJ9 : Nat → FieldType := fun k => match k with
  | _ => .int
abbrev wsJ90 : List Cond := u_ws RJ9 TJ9 0
theorem nmJ9 : ∀ a, a < 0 → ∀ b, b < 0 → a ≠ b → (TJ9 a).2.1 ≠ (TJ9 b).2.1 := by decide +kernel
theorem tyJ9_ok : ∀ k, k < 0 → parseFieldDescriptor (TJ9 k).2.2.1 = some (tyJ9 k) := by decide +kernel
abbrev cJ9_abs_0f7a4 : ByteArray := prog_12_method_59_code
def yJ9_abs_0f7a4 : MethodName := ⟨RJ9, "abs", "(I)I"⟩
abbrev cJ9_abs_067f4 : ByteArray := prog_12_method_61_code
def yJ9_abs_067f4 : MethodName := ⟨RJ9, "abs", "(J)J"⟩
abbrev cJ9_max_f86c9 : ByteArray := prog_12_method_66_code
def yJ9_max_f86c9 : MethodName := ⟨RJ9, "max", "(JJ)J"⟩
abbrev cJ9_min_f86c9 : ByteArray := prog_12_method_70_code
def yJ9_min_f86c9 : MethodName := ⟨RJ9, "min", "(JJ)J"⟩
def RL : String := "InkPressLaw"
abbrev cL_law : ByteArray := code
def yL_law : MethodName := ⟨RL, "law", "([I)Z"⟩
def wsX0_init : List Cond := .code yX0_init cX0_init 2 none :: ([.methodLink RX0 5 objectInit, .instanceMethod objectInit, .code objectInit ⟨#[0xb1]⟩ 1 none, .arrayClass .int, .fieldLink RX0 11 "InkPress$Jobs" "colours" "[I", .fieldLink RX0 15 "InkPress$Jobs" "papers" "[I", .fieldLink RX0 18 "InkPress$Jobs" "washes" "[I", .fieldLink RX0 21 "InkPress$Jobs" "costsToCome" "[I", .fieldLink RX0 24 "InkPress$Jobs" "best" "[I"] ++ wsX00)
def wsX0_isColour : List Cond := .code yX0_isColour cX0_isColour 1 (some .boolean) :: ([])
def wsX0_isPaper : List Cond := .code yX0_isPaper cX0_isPaper 1 (some .boolean) :: ([])
def wsX7_within : List Cond := .code yX7_within cX7_within 3 (some .boolean) :: ([])
def wsX0_isWashCost : List Cond := .code yX0_isWashCost cX0_isWashCost 1 (some .boolean) :: ([.static yX7_within, .initialized RX7, .code yX7_within cX7_within 3 (some .boolean)])
def wsX0_has : List Cond := .code yX0_has cX0_has 2 (some .boolean) :: ([.fieldLink RX0 31 "InkPress$Jobs" "count" "I"] ++ wsX00)
def wsX0_isFull : List Cond := .code yX0_isFull cX0_isFull 1 (some .boolean) :: ([.fieldLink RX0 31 "InkPress$Jobs" "count" "I"] ++ wsX00)
def wsX0_add : List Cond := .code yX0_add cX0_add 3 (some .int) :: ([.fieldLink RX0 11 "InkPress$Jobs" "colours" "[I", .fieldLink RX0 31 "InkPress$Jobs" "count" "I", .fieldLink RX0 15 "InkPress$Jobs" "papers" "[I", .fieldLink RX0 35 "InkPress$Jobs" "isPlanned" "Z"] ++ wsX00)
def wsX0_removeAll : List Cond := .code yX0_removeAll cX0_removeAll 2 (some .int) :: ([.fieldLink RX0 31 "InkPress$Jobs" "count" "I", .fieldLink RX0 35 "InkPress$Jobs" "isPlanned" "Z"] ++ wsX00)
def wsX0_changeWash : List Cond := .code yX0_changeWash cX0_changeWash 6 (some .int) :: ([.fieldLink RX0 18 "InkPress$Jobs" "washes" "[I", .fieldLink RX0 35 "InkPress$Jobs" "isPlanned" "Z"] ++ wsX00)
def wsX0_holds : List Cond := .code yX0_holds cX0_holds 2 (some .boolean) :: ([])
def wsX0_costsBy : List Cond := .code yX0_costsBy cX0_costsBy 6 (some .int) :: ([.fieldLink RX0 18 "InkPress$Jobs" "washes" "[I", .fieldLink RX0 11 "InkPress$Jobs" "colours" "[I", .fieldLink RX0 15 "InkPress$Jobs" "papers" "[I", .fieldLink RX0 21 "InkPress$Jobs" "costsToCome" "[I"] ++ wsX00)
def wsX0_bestNext : List Cond := .code yX0_bestNext cX0_bestNext 7 (some .int) :: ([.fieldLink RX0 31 "InkPress$Jobs" "count" "I", .methodLink RX0 42 yX0_holds, .static yX0_holds, .initialized RX0, .code yX0_holds cX0_holds 2 (some .boolean), .methodLink RX0 57 yX0_costsBy, .instanceMethod yX0_costsBy, .selects RX0 yX0_costsBy yX0_costsBy, .code yX0_costsBy cX0_costsBy 6 (some .int), .fieldLink RX0 18 "InkPress$Jobs" "washes" "[I", .fieldLink RX0 11 "InkPress$Jobs" "colours" "[I", .fieldLink RX0 15 "InkPress$Jobs" "papers" "[I", .fieldLink RX0 21 "InkPress$Jobs" "costsToCome" "[I"] ++ wsX00)
def wsX0_weigh : List Cond := .code yX0_weigh cX0_weigh 4 none :: ([.fieldLink RX0 21 "InkPress$Jobs" "costsToCome" "[I", .methodLink RX0 53 yX0_bestNext, .instanceMethod yX0_bestNext, .selects RX0 yX0_bestNext yX0_bestNext, .initialized RX0, .code yX0_bestNext cX0_bestNext 7 (some .int), .fieldLink RX0 31 "InkPress$Jobs" "count" "I", .methodLink RX0 42 yX0_holds, .static yX0_holds, .code yX0_holds cX0_holds 2 (some .boolean), .methodLink RX0 57 yX0_costsBy, .instanceMethod yX0_costsBy, .selects RX0 yX0_costsBy yX0_costsBy, .code yX0_costsBy cX0_costsBy 6 (some .int), .fieldLink RX0 18 "InkPress$Jobs" "washes" "[I", .fieldLink RX0 11 "InkPress$Jobs" "colours" "[I", .fieldLink RX0 15 "InkPress$Jobs" "papers" "[I"] ++ wsX00)
def wsX0_walk : List Cond := .code yX0_walk cX0_walk 5 none :: ([.fieldLink RX0 31 "InkPress$Jobs" "count" "I", .fieldLink RX0 24 "InkPress$Jobs" "best" "[I", .methodLink RX0 53 yX0_bestNext, .instanceMethod yX0_bestNext, .selects RX0 yX0_bestNext yX0_bestNext, .initialized RX0, .code yX0_bestNext cX0_bestNext 7 (some .int), .methodLink RX0 42 yX0_holds, .static yX0_holds, .code yX0_holds cX0_holds 2 (some .boolean), .methodLink RX0 57 yX0_costsBy, .instanceMethod yX0_costsBy, .selects RX0 yX0_costsBy yX0_costsBy, .code yX0_costsBy cX0_costsBy 6 (some .int), .fieldLink RX0 18 "InkPress$Jobs" "washes" "[I", .fieldLink RX0 11 "InkPress$Jobs" "colours" "[I", .fieldLink RX0 15 "InkPress$Jobs" "papers" "[I", .fieldLink RX0 21 "InkPress$Jobs" "costsToCome" "[I"] ++ wsX00)
def wsX0_plan_r1 : List Cond := [Cond.fieldLink RX0 35 "InkPress$Jobs" "isPlanned" "Z", Cond.fieldLink RX0 31 "InkPress$Jobs" "count" "I", Cond.methodLink RX0 42 yX0_holds, Cond.static yX0_holds, Cond.initialized RX0, Cond.code yX0_holds cX0_holds 2 (some .boolean), Cond.methodLink RX0 46 yX0_weigh, Cond.instanceMethod yX0_weigh, Cond.selects RX0 yX0_weigh yX0_weigh, Cond.code yX0_weigh cX0_weigh 4 none, Cond.fieldLink RX0 21 "InkPress$Jobs" "costsToCome" "[I", Cond.methodLink RX0 53 yX0_bestNext, Cond.instanceMethod yX0_bestNext, Cond.selects RX0 yX0_bestNext yX0_bestNext, Cond.code yX0_bestNext cX0_bestNext 7 (some .int), Cond.methodLink RX0 57 yX0_costsBy, Cond.instanceMethod yX0_costsBy, Cond.selects RX0 yX0_costsBy yX0_costsBy, Cond.code yX0_costsBy cX0_costsBy 6 (some .int), Cond.fieldLink RX0 18 "InkPress$Jobs" "washes" "[I", Cond.fieldLink RX0 11 "InkPress$Jobs" "colours" "[I", Cond.fieldLink RX0 15 "InkPress$Jobs" "papers" "[I", Cond.methodLink RX0 50 yX0_walk, Cond.instanceMethod yX0_walk]
def wsX0_plan_r2 : List Cond := [Cond.selects RX0 yX0_walk yX0_walk, Cond.code yX0_walk cX0_walk 5 none, Cond.fieldLink RX0 24 "InkPress$Jobs" "best" "[I"]
def wsX0_plan : List Cond := .code yX0_plan cX0_plan 3 none :: ((wsX0_plan_r1 ++ wsX0_plan_r2) ++ wsX00)
def wsX0_leastCosts_r1 : List Cond := [Cond.fieldLink RX0 21 "InkPress$Jobs" "costsToCome" "[I", Cond.methodLink RX0 39 yX0_plan, Cond.instanceMethod yX0_plan, Cond.selects RX0 yX0_plan yX0_plan, Cond.initialized RX0, Cond.code yX0_plan cX0_plan 3 none, Cond.fieldLink RX0 35 "InkPress$Jobs" "isPlanned" "Z", Cond.fieldLink RX0 31 "InkPress$Jobs" "count" "I", Cond.methodLink RX0 42 yX0_holds, Cond.static yX0_holds, Cond.code yX0_holds cX0_holds 2 (some .boolean), Cond.methodLink RX0 46 yX0_weigh, Cond.instanceMethod yX0_weigh, Cond.selects RX0 yX0_weigh yX0_weigh, Cond.code yX0_weigh cX0_weigh 4 none, Cond.methodLink RX0 53 yX0_bestNext, Cond.instanceMethod yX0_bestNext, Cond.selects RX0 yX0_bestNext yX0_bestNext, Cond.code yX0_bestNext cX0_bestNext 7 (some .int), Cond.methodLink RX0 57 yX0_costsBy, Cond.instanceMethod yX0_costsBy, Cond.selects RX0 yX0_costsBy yX0_costsBy, Cond.code yX0_costsBy cX0_costsBy 6 (some .int), Cond.fieldLink RX0 18 "InkPress$Jobs" "washes" "[I"]
def wsX0_leastCosts_r2 : List Cond := [Cond.fieldLink RX0 11 "InkPress$Jobs" "colours" "[I", Cond.fieldLink RX0 15 "InkPress$Jobs" "papers" "[I", Cond.methodLink RX0 50 yX0_walk, Cond.instanceMethod yX0_walk, Cond.selects RX0 yX0_walk yX0_walk, Cond.code yX0_walk cX0_walk 5 none, Cond.fieldLink RX0 24 "InkPress$Jobs" "best" "[I"]
def wsX0_leastCosts : List Cond := .code yX0_leastCosts cX0_leastCosts 1 (some .int) :: ((wsX0_leastCosts_r1 ++ wsX0_leastCosts_r2) ++ wsX00)
def wsX0_inOrder_r1 : List Cond := [Cond.fieldLink RX0 24 "InkPress$Jobs" "best" "[I", Cond.methodLink RX0 39 yX0_plan, Cond.instanceMethod yX0_plan, Cond.selects RX0 yX0_plan yX0_plan, Cond.initialized RX0, Cond.code yX0_plan cX0_plan 3 none, Cond.fieldLink RX0 35 "InkPress$Jobs" "isPlanned" "Z", Cond.fieldLink RX0 31 "InkPress$Jobs" "count" "I", Cond.methodLink RX0 42 yX0_holds, Cond.static yX0_holds, Cond.code yX0_holds cX0_holds 2 (some .boolean), Cond.methodLink RX0 46 yX0_weigh, Cond.instanceMethod yX0_weigh, Cond.selects RX0 yX0_weigh yX0_weigh, Cond.code yX0_weigh cX0_weigh 4 none, Cond.fieldLink RX0 21 "InkPress$Jobs" "costsToCome" "[I", Cond.methodLink RX0 53 yX0_bestNext, Cond.instanceMethod yX0_bestNext, Cond.selects RX0 yX0_bestNext yX0_bestNext, Cond.code yX0_bestNext cX0_bestNext 7 (some .int), Cond.methodLink RX0 57 yX0_costsBy, Cond.instanceMethod yX0_costsBy, Cond.selects RX0 yX0_costsBy yX0_costsBy, Cond.code yX0_costsBy cX0_costsBy 6 (some .int)]
def wsX0_inOrder_r2 : List Cond := [Cond.fieldLink RX0 18 "InkPress$Jobs" "washes" "[I", Cond.fieldLink RX0 11 "InkPress$Jobs" "colours" "[I", Cond.fieldLink RX0 15 "InkPress$Jobs" "papers" "[I", Cond.methodLink RX0 50 yX0_walk, Cond.instanceMethod yX0_walk, Cond.selects RX0 yX0_walk yX0_walk, Cond.code yX0_walk cX0_walk 5 none]
def wsX0_inOrder : List Cond := .code yX0_inOrder cX0_inOrder 2 (some .int) :: ((wsX0_inOrder_r1 ++ wsX0_inOrder_r2) ++ wsX00)
def wsX1_init : List Cond := .code yX1_init cX1_init 1 none :: ([.methodLink RX1 3 objectInit, .instanceMethod objectInit, .code objectInit ⟨#[0xb1]⟩ 1 none, .arrayClass .int, .fieldLink RX1 11 "InkPress$Marks" "x" "[I", .fieldLink RX1 15 "InkPress$Marks" "y" "[I", .fieldLink RX1 18 "InkPress$Marks" "dx" "[I", .fieldLink RX1 21 "InkPress$Marks" "dy" "[I"] ++ wsX10)
def wsX1_isPlace : List Cond := .code yX1_isPlace cX1_isPlace 1 (some .boolean) :: ([.static yX7_within, .initialized RX7, .code yX7_within cX7_within 3 (some .boolean)])
def wsX1_isOffset : List Cond := .code yX1_isOffset cX1_isOffset 1 (some .boolean) :: ([.static yX7_within, .initialized RX7, .code yX7_within cX7_within 3 (some .boolean)])
def wsX1_has : List Cond := .code yX1_has cX1_has 2 (some .boolean) :: ([.fieldLink RX1 28 "InkPress$Marks" "count" "I"] ++ wsX10)
def wsX1_isFull : List Cond := .code yX1_isFull cX1_isFull 1 (some .boolean) :: ([.fieldLink RX1 28 "InkPress$Marks" "count" "I"] ++ wsX10)
def wsX1_add : List Cond := .code yX1_add cX1_add 5 (some .int) :: ([.fieldLink RX1 11 "InkPress$Marks" "x" "[I", .fieldLink RX1 28 "InkPress$Marks" "count" "I", .fieldLink RX1 15 "InkPress$Marks" "y" "[I", .fieldLink RX1 18 "InkPress$Marks" "dx" "[I", .fieldLink RX1 21 "InkPress$Marks" "dy" "[I", .fieldLink RX1 32 "InkPress$Marks" "sumX" "J", .fieldLink RX1 36 "InkPress$Marks" "sumY" "J", .fieldLink RX1 39 "InkPress$Marks" "sumDx" "J", .fieldLink RX1 42 "InkPress$Marks" "sumDy" "J", .fieldLink RX1 45 "InkPress$Marks" "sumSquares" "J", .fieldLink RX1 48 "InkPress$Marks" "sumOutward" "J", .fieldLink RX1 51 "InkPress$Marks" "sumAround" "J"] ++ wsX10)
def wsX1_removeAll : List Cond := .code yX1_removeAll cX1_removeAll 2 (some .int) :: ([.fieldLink RX1 28 "InkPress$Marks" "count" "I", .fieldLink RX1 32 "InkPress$Marks" "sumX" "J", .fieldLink RX1 36 "InkPress$Marks" "sumY" "J", .fieldLink RX1 39 "InkPress$Marks" "sumDx" "J", .fieldLink RX1 42 "InkPress$Marks" "sumDy" "J", .fieldLink RX1 45 "InkPress$Marks" "sumSquares" "J", .fieldLink RX1 48 "InkPress$Marks" "sumOutward" "J", .fieldLink RX1 51 "InkPress$Marks" "sumAround" "J"] ++ wsX10)
def wsX1_spread : List Cond := .code yX1_spread cX1_spread 1 (some .long) :: ([.fieldLink RX1 28 "InkPress$Marks" "count" "I", .fieldLink RX1 45 "InkPress$Marks" "sumSquares" "J", .fieldLink RX1 32 "InkPress$Marks" "sumX" "J", .fieldLink RX1 36 "InkPress$Marks" "sumY" "J"] ++ wsX10)
def wsX1_isTold : List Cond := .code yX1_isTold cX1_isTold 1 (some .boolean) :: ([.methodLink RX1 54 yX1_spread, .instanceMethod yX1_spread, .selects RX1 yX1_spread yX1_spread, .initialized RX1, .code yX1_spread cX1_spread 1 (some .long), .fieldLink RX1 28 "InkPress$Marks" "count" "I", .fieldLink RX1 45 "InkPress$Marks" "sumSquares" "J", .fieldLink RX1 32 "InkPress$Marks" "sumX" "J", .fieldLink RX1 36 "InkPress$Marks" "sumY" "J"] ++ wsX10)
def wsX1_stretch : List Cond := .code yX1_stretch cX1_stretch 1 (some .long) :: ([.fieldLink RX1 28 "InkPress$Marks" "count" "I", .fieldLink RX1 48 "InkPress$Marks" "sumOutward" "J", .fieldLink RX1 32 "InkPress$Marks" "sumX" "J", .fieldLink RX1 39 "InkPress$Marks" "sumDx" "J", .fieldLink RX1 36 "InkPress$Marks" "sumY" "J", .fieldLink RX1 42 "InkPress$Marks" "sumDy" "J"] ++ wsX10)
def wsX1_turn : List Cond := .code yX1_turn cX1_turn 1 (some .long) :: ([.fieldLink RX1 28 "InkPress$Marks" "count" "I", .fieldLink RX1 51 "InkPress$Marks" "sumAround" "J", .fieldLink RX1 32 "InkPress$Marks" "sumX" "J", .fieldLink RX1 42 "InkPress$Marks" "sumDy" "J", .fieldLink RX1 36 "InkPress$Marks" "sumY" "J", .fieldLink RX1 39 "InkPress$Marks" "sumDx" "J"] ++ wsX10)
def wsX1_across : List Cond := .code yX1_across cX1_across 1 (some .long) :: ([.fieldLink RX1 39 "InkPress$Marks" "sumDx" "J", .fieldLink RX1 32 "InkPress$Marks" "sumX" "J", .fieldLink RX1 36 "InkPress$Marks" "sumY" "J", .methodLink RX1 54 yX1_spread, .instanceMethod yX1_spread, .selects RX1 yX1_spread yX1_spread, .initialized RX1, .code yX1_spread cX1_spread 1 (some .long), .fieldLink RX1 28 "InkPress$Marks" "count" "I", .fieldLink RX1 45 "InkPress$Marks" "sumSquares" "J", .methodLink RX1 58 yX1_stretch, .instanceMethod yX1_stretch, .selects RX1 yX1_stretch yX1_stretch, .code yX1_stretch cX1_stretch 1 (some .long), .fieldLink RX1 48 "InkPress$Marks" "sumOutward" "J", .fieldLink RX1 42 "InkPress$Marks" "sumDy" "J", .methodLink RX1 61 yX1_turn, .instanceMethod yX1_turn, .selects RX1 yX1_turn yX1_turn, .code yX1_turn cX1_turn 1 (some .long), .fieldLink RX1 51 "InkPress$Marks" "sumAround" "J"] ++ wsX10)
def wsX1_up : List Cond := .code yX1_up cX1_up 1 (some .long) :: ([.fieldLink RX1 42 "InkPress$Marks" "sumDy" "J", .fieldLink RX1 36 "InkPress$Marks" "sumY" "J", .fieldLink RX1 32 "InkPress$Marks" "sumX" "J", .methodLink RX1 54 yX1_spread, .instanceMethod yX1_spread, .selects RX1 yX1_spread yX1_spread, .initialized RX1, .code yX1_spread cX1_spread 1 (some .long), .fieldLink RX1 28 "InkPress$Marks" "count" "I", .fieldLink RX1 45 "InkPress$Marks" "sumSquares" "J", .methodLink RX1 58 yX1_stretch, .instanceMethod yX1_stretch, .selects RX1 yX1_stretch yX1_stretch, .code yX1_stretch cX1_stretch 1 (some .long), .fieldLink RX1 48 "InkPress$Marks" "sumOutward" "J", .fieldLink RX1 39 "InkPress$Marks" "sumDx" "J", .methodLink RX1 61 yX1_turn, .instanceMethod yX1_turn, .selects RX1 yX1_turn yX1_turn, .code yX1_turn cX1_turn 1 (some .long), .fieldLink RX1 51 "InkPress$Marks" "sumAround" "J"] ++ wsX10)
def wsX1_upper_r1 : List Cond := [Cond.methodLink RX1 58 yX1_stretch, Cond.instanceMethod yX1_stretch, Cond.selects RX1 yX1_stretch yX1_stretch, Cond.initialized RX1, Cond.code yX1_stretch cX1_stretch 1 (some .long), Cond.fieldLink RX1 28 "InkPress$Marks" "count" "I", Cond.fieldLink RX1 48 "InkPress$Marks" "sumOutward" "J", Cond.fieldLink RX1 32 "InkPress$Marks" "sumX" "J", Cond.fieldLink RX1 39 "InkPress$Marks" "sumDx" "J", Cond.fieldLink RX1 36 "InkPress$Marks" "sumY" "J", Cond.fieldLink RX1 42 "InkPress$Marks" "sumDy" "J", Cond.methodLink RX1 61 yX1_turn, Cond.instanceMethod yX1_turn, Cond.selects RX1 yX1_turn yX1_turn, Cond.code yX1_turn cX1_turn 1 (some .long), Cond.fieldLink RX1 51 "InkPress$Marks" "sumAround" "J", Cond.methodLink RX1 64 yX1_across, Cond.instanceMethod yX1_across, Cond.selects RX1 yX1_across yX1_across, Cond.code yX1_across cX1_across 1 (some .long), Cond.methodLink RX1 54 yX1_spread, Cond.instanceMethod yX1_spread, Cond.selects RX1 yX1_spread yX1_spread, Cond.code yX1_spread cX1_spread 1 (some .long)]
def wsX1_upper_r2 : List Cond := [Cond.fieldLink RX1 45 "InkPress$Marks" "sumSquares" "J", Cond.methodLink RX1 67 yX1_up, Cond.instanceMethod yX1_up, Cond.selects RX1 yX1_up yX1_up, Cond.code yX1_up cX1_up 1 (some .long)]
def wsX1_upper : List Cond := .code yX1_upper cX1_upper 2 (some .long) :: ((wsX1_upper_r1 ++ wsX1_upper_r2) ++ wsX10)
def wsX1_lower : List Cond := .code yX1_lower cX1_lower 2 (some .long) :: ([.fieldLink RX1 28 "InkPress$Marks" "count" "I", .methodLink RX1 54 yX1_spread, .instanceMethod yX1_spread, .selects RX1 yX1_spread yX1_spread, .initialized RX1, .code yX1_spread cX1_spread 1 (some .long), .fieldLink RX1 45 "InkPress$Marks" "sumSquares" "J", .fieldLink RX1 32 "InkPress$Marks" "sumX" "J", .fieldLink RX1 36 "InkPress$Marks" "sumY" "J"] ++ wsX10)
def wsX1_inThousandths : List Cond := .code yX1_inThousandths cX1_inThousandths 6 (some .int) :: ([.fieldLink RX1 28 "InkPress$Marks" "count" "I", .constantLong RX1 74 (1000), .methodLink RX1 54 yX1_spread, .instanceMethod yX1_spread, .selects RX1 yX1_spread yX1_spread, .initialized RX1, .code yX1_spread cX1_spread 1 (some .long), .fieldLink RX1 45 "InkPress$Marks" "sumSquares" "J", .fieldLink RX1 32 "InkPress$Marks" "sumX" "J", .fieldLink RX1 36 "InkPress$Marks" "sumY" "J"] ++ wsX10)
def wsX1_offAcross_r1 : List Cond := [Cond.fieldLink RX1 28 "InkPress$Marks" "count" "I", Cond.fieldLink RX1 11 "InkPress$Marks" "x" "[I", Cond.fieldLink RX1 15 "InkPress$Marks" "y" "[I", Cond.fieldLink RX1 18 "InkPress$Marks" "dx" "[I", Cond.methodLink RX1 58 yX1_stretch, Cond.instanceMethod yX1_stretch, Cond.selects RX1 yX1_stretch yX1_stretch, Cond.initialized RX1, Cond.code yX1_stretch cX1_stretch 1 (some .long), Cond.fieldLink RX1 48 "InkPress$Marks" "sumOutward" "J", Cond.fieldLink RX1 32 "InkPress$Marks" "sumX" "J", Cond.fieldLink RX1 39 "InkPress$Marks" "sumDx" "J", Cond.fieldLink RX1 36 "InkPress$Marks" "sumY" "J", Cond.fieldLink RX1 42 "InkPress$Marks" "sumDy" "J", Cond.methodLink RX1 61 yX1_turn, Cond.instanceMethod yX1_turn, Cond.selects RX1 yX1_turn yX1_turn, Cond.code yX1_turn cX1_turn 1 (some .long), Cond.fieldLink RX1 51 "InkPress$Marks" "sumAround" "J", Cond.methodLink RX1 64 yX1_across, Cond.instanceMethod yX1_across, Cond.selects RX1 yX1_across yX1_across, Cond.code yX1_across cX1_across 1 (some .long), Cond.methodLink RX1 54 yX1_spread]
def wsX1_offAcross_r2 : List Cond := [Cond.instanceMethod yX1_spread, Cond.selects RX1 yX1_spread yX1_spread, Cond.code yX1_spread cX1_spread 1 (some .long), Cond.fieldLink RX1 45 "InkPress$Marks" "sumSquares" "J", Cond.methodLink RX1 70 yX1_inThousandths, Cond.instanceMethod yX1_inThousandths, Cond.selects RX1 yX1_inThousandths yX1_inThousandths, Cond.code yX1_inThousandths cX1_inThousandths 6 (some .int), Cond.constantLong RX1 74 (1000)]
def wsX1_offAcross : List Cond := .code yX1_offAcross cX1_offAcross 4 (some .int) :: ((wsX1_offAcross_r1 ++ wsX1_offAcross_r2) ++ wsX10)
def wsX1_offUp_r1 : List Cond := [Cond.fieldLink RX1 28 "InkPress$Marks" "count" "I", Cond.fieldLink RX1 15 "InkPress$Marks" "y" "[I", Cond.fieldLink RX1 11 "InkPress$Marks" "x" "[I", Cond.fieldLink RX1 21 "InkPress$Marks" "dy" "[I", Cond.methodLink RX1 58 yX1_stretch, Cond.instanceMethod yX1_stretch, Cond.selects RX1 yX1_stretch yX1_stretch, Cond.initialized RX1, Cond.code yX1_stretch cX1_stretch 1 (some .long), Cond.fieldLink RX1 48 "InkPress$Marks" "sumOutward" "J", Cond.fieldLink RX1 32 "InkPress$Marks" "sumX" "J", Cond.fieldLink RX1 39 "InkPress$Marks" "sumDx" "J", Cond.fieldLink RX1 36 "InkPress$Marks" "sumY" "J", Cond.fieldLink RX1 42 "InkPress$Marks" "sumDy" "J", Cond.methodLink RX1 61 yX1_turn, Cond.instanceMethod yX1_turn, Cond.selects RX1 yX1_turn yX1_turn, Cond.code yX1_turn cX1_turn 1 (some .long), Cond.fieldLink RX1 51 "InkPress$Marks" "sumAround" "J", Cond.methodLink RX1 67 yX1_up, Cond.instanceMethod yX1_up, Cond.selects RX1 yX1_up yX1_up, Cond.code yX1_up cX1_up 1 (some .long), Cond.methodLink RX1 54 yX1_spread]
def wsX1_offUp_r2 : List Cond := [Cond.instanceMethod yX1_spread, Cond.selects RX1 yX1_spread yX1_spread, Cond.code yX1_spread cX1_spread 1 (some .long), Cond.fieldLink RX1 45 "InkPress$Marks" "sumSquares" "J", Cond.methodLink RX1 70 yX1_inThousandths, Cond.instanceMethod yX1_inThousandths, Cond.selects RX1 yX1_inThousandths yX1_inThousandths, Cond.code yX1_inThousandths cX1_inThousandths 6 (some .int), Cond.constantLong RX1 74 (1000)]
def wsX1_offUp : List Cond := .code yX1_offUp cX1_offUp 4 (some .int) :: ((wsX1_offUp_r1 ++ wsX1_offUp_r2) ++ wsX10)
def wsX2_init : List Cond := .code yX2_init cX2_init 1 none :: ([.methodLink RX2 3 objectInit, .instanceMethod objectInit, .code objectInit ⟨#[0xb1]⟩ 1 none, .fieldLink RX2 9 "InkPress$PastJobs" "count" "I"] ++ wsX20)
def wsX2_isEmpty : List Cond := .code yX2_isEmpty cX2_isEmpty 1 (some .boolean) :: ([.fieldLink RX2 9 "InkPress$PastJobs" "count" "I"] ++ wsX20)
def wsX2_isFull : List Cond := .code yX2_isFull cX2_isFull 1 (some .boolean) :: ([.fieldLink RX2 9 "InkPress$PastJobs" "count" "I"] ++ wsX20)
def wsX2_add : List Cond := .code yX2_add cX2_add 3 (some .int) :: ([.fieldLink RX2 9 "InkPress$PastJobs" "count" "I", .fieldLink RX2 15 "InkPress$PastJobs" "covers" "J", .fieldLink RX2 19 "InkPress$PastJobs" "keys" "J", .fieldLink RX2 22 "InkPress$PastJobs" "coversSquared" "J", .fieldLink RX2 25 "InkPress$PastJobs" "coversByKeys" "J"] ++ wsX20)
def wsX7_held : List Cond := .code yX7_held cX7_held 4 (some .int) :: ([.methodLink RX7 253 Lib.MathLoose.min_long.x, .static Lib.MathLoose.min_long.x, .initialized "java/lang/Math", .code Lib.MathLoose.min_long.x Lib.MathLoose.min_long.code 4 (some .long), .methodLink RX7 256 Lib.MathLoose.max_long.x, .static Lib.MathLoose.max_long.x, .code Lib.MathLoose.max_long.x Lib.MathLoose.max_long.code 4 (some .long)])
def wsX2_keyFor : List Cond := .code yX2_keyFor cX2_keyFor 8 (some .int) :: ([.fieldLink RX2 9 "InkPress$PastJobs" "count" "I", .fieldLink RX2 22 "InkPress$PastJobs" "coversSquared" "J", .fieldLink RX2 15 "InkPress$PastJobs" "covers" "J", .fieldLink RX2 19 "InkPress$PastJobs" "keys" "J", .fieldLink RX2 25 "InkPress$PastJobs" "coversByKeys" "J", .static yX7_held, .initialized RX7, .code yX7_held cX7_held 4 (some .int), .methodLink RX7 253 Lib.MathLoose.min_long.x, .static Lib.MathLoose.min_long.x, .initialized "java/lang/Math", .code Lib.MathLoose.min_long.x Lib.MathLoose.min_long.code 4 (some .long), .methodLink RX7 256 Lib.MathLoose.max_long.x, .static Lib.MathLoose.max_long.x, .code Lib.MathLoose.max_long.x Lib.MathLoose.max_long.code 4 (some .long)] ++ wsX20)
def wsX3_init : List Cond := .code yX3_init cX3_init 1 none :: ([.methodLink RX3 1 objectInit, .instanceMethod objectInit, .code objectInit ⟨#[0xb1]⟩ 1 none, .fieldLink RX3 7 "InkPress$Rules" "FIRST" "[I", .methodLink RX3 13 ⟨"[I", "clone", "()Ljava/lang/Object;"⟩, .sameMethod "[I" "java/lang/Object" "clone" "()Ljava/lang/Object;", .native ⟨"java/lang/Object", "clone", "()Ljava/lang/Object;"⟩, .instanceMethod ⟨"java/lang/Object", "clone", "()Ljava/lang/Object;"⟩, .selects "[I" ⟨"[I", "clone", "()Ljava/lang/Object;"⟩ ⟨"java/lang/Object", "clone", "()Ljava/lang/Object;"⟩, .classLink RX3 14 "[I", .fieldLink RX3 18 "InkPress$Rules" "values" "[I"] ++ wsX30)
def wsX3_has : List Cond := .code yX3_has cX3_has 2 (some .boolean) :: ([.fieldLink RX3 18 "InkPress$Rules" "values" "[I"] ++ wsX30)
def wsX3_allows : List Cond := .code yX3_allows cX3_allows 3 (some .boolean) :: ([.fieldLink RX3 21 "InkPress$Rules" "LEAST" "[I", .fieldLink RX3 24 "InkPress$Rules" "MOST" "[I", .static yX7_within, .initialized RX7, .code yX7_within cX7_within 3 (some .boolean)])
def wsX3_valueOf : List Cond := .code yX3_valueOf cX3_valueOf 2 (some .int) :: ([.fieldLink RX3 18 "InkPress$Rules" "values" "[I"] ++ wsX30)
def wsX3_change : List Cond := .code yX3_change cX3_change 4 (some .int) :: ([.fieldLink RX3 18 "InkPress$Rules" "values" "[I"] ++ wsX30)
def wsX4_restart : List Cond := .code yX4_restart cX4_restart 1 none :: ([.fieldLink RX4 22 "InkPress$SheetLog" "count" "I", .fieldLink RX4 26 "InkPress$SheetLog" "goodCount" "I", .fieldLink RX4 29 "InkPress$SheetLog" "goodInARow" "I", .fieldLink RX4 32 "InkPress$SheetLog" "start" "I"] ++ wsX40)
def wsX4_init : List Cond := .code yX4_init cX4_init 1 none :: ([.methodLink RX4 3 objectInit, .instanceMethod objectInit, .code objectInit ⟨#[0xb1]⟩ 1 none, .arrayClass .int, .fieldLink RX4 9 "InkPress$SheetLog" "densities" "[I", .arrayClass .boolean, .fieldLink RX4 15 "InkPress$SheetLog" "good" "[Z", .methodLink RX4 19 yX4_restart, .instanceMethod yX4_restart, .selects RX4 yX4_restart yX4_restart, .initialized RX4, .code yX4_restart cX4_restart 1 none, .fieldLink RX4 22 "InkPress$SheetLog" "count" "I", .fieldLink RX4 26 "InkPress$SheetLog" "goodCount" "I", .fieldLink RX4 29 "InkPress$SheetLog" "goodInARow" "I", .fieldLink RX4 32 "InkPress$SheetLog" "start" "I"] ++ wsX40)
def wsX4_has : List Cond := .code yX4_has cX4_has 2 (some .boolean) :: ([.fieldLink RX4 22 "InkPress$SheetLog" "count" "I"] ++ wsX40)
def wsX4_begin : List Cond := .code yX4_begin cX4_begin 1 none :: ([.fieldLink RX4 22 "InkPress$SheetLog" "count" "I"] ++ wsX40)
def wsX4_note : List Cond := .code yX4_note cX4_note 3 none :: ([.fieldLink RX4 9 "InkPress$SheetLog" "densities" "[I", .fieldLink RX4 22 "InkPress$SheetLog" "count" "I"] ++ wsX40)
def wsX4_judge : List Cond := .code yX4_judge cX4_judge 3 none :: ([.fieldLink RX4 15 "InkPress$SheetLog" "good" "[Z", .fieldLink RX4 22 "InkPress$SheetLog" "count" "I", .fieldLink RX4 29 "InkPress$SheetLog" "goodInARow" "I", .fieldLink RX4 26 "InkPress$SheetLog" "goodCount" "I", .fieldLink RX4 32 "InkPress$SheetLog" "start" "I"] ++ wsX40)
def wsX4_wasGood : List Cond := .code yX4_wasGood cX4_wasGood 2 (some .boolean) :: ([.fieldLink RX4 15 "InkPress$SheetLog" "good" "[Z"] ++ wsX40)
def wsX4_densityOn : List Cond := .code yX4_densityOn cX4_densityOn 3 (some .int) :: ([.fieldLink RX4 9 "InkPress$SheetLog" "densities" "[I"] ++ wsX40)
def wsX4_latestDensity : List Cond := .code yX4_latestDensity cX4_latestDensity 2 (some .int) :: ([.fieldLink RX4 22 "InkPress$SheetLog" "count" "I", .methodLink RX4 35 yX4_densityOn, .instanceMethod yX4_densityOn, .selects RX4 yX4_densityOn yX4_densityOn, .initialized RX4, .code yX4_densityOn cX4_densityOn 3 (some .int), .fieldLink RX4 9 "InkPress$SheetLog" "densities" "[I"] ++ wsX40)
def wsX5_restart : List Cond := .code yX5_restart cX5_restart 4 none :: ([.fieldLink RX5 19 "InkPress$Train" "zones" "I", .fieldLink RX5 23 "InkPress$Train" "rollers" "I", .fieldLink RX5 26 "InkPress$Train" "fed" "I", .fieldLink RX5 29 "InkPress$Train" "onPaper" "I", .fieldLink RX5 32 "InkPress$Train" "onBars" "I", .fieldLink RX5 9 "InkPress$Train" "ink" "[I"] ++ wsX50)
def wsX5_init : List Cond := .code yX5_init cX5_init 1 none :: ([.methodLink RX5 3 objectInit, .instanceMethod objectInit, .code objectInit ⟨#[0xb1]⟩ 1 none, .arrayClass .int, .fieldLink RX5 9 "InkPress$Train" "ink" "[I", .methodLink RX5 15 yX5_restart, .instanceMethod yX5_restart, .selects RX5 yX5_restart yX5_restart, .initialized RX5, .code yX5_restart cX5_restart 4 none, .fieldLink RX5 19 "InkPress$Train" "zones" "I", .fieldLink RX5 23 "InkPress$Train" "rollers" "I", .fieldLink RX5 26 "InkPress$Train" "fed" "I", .fieldLink RX5 29 "InkPress$Train" "onPaper" "I", .fieldLink RX5 32 "InkPress$Train" "onBars" "I"] ++ wsX50)
def wsX5_has : List Cond := .code yX5_has cX5_has 2 (some .boolean) :: ([.fieldLink RX5 23 "InkPress$Train" "rollers" "I"] ++ wsX50)
def wsX5_inkAt : List Cond := .code yX5_inkAt cX5_inkAt 3 (some .int) :: ([.fieldLink RX5 9 "InkPress$Train" "ink" "[I"] ++ wsX50)
def wsX5_inkOn : List Cond := .code yX5_inkOn cX5_inkOn 3 (some .int) :: ([.fieldLink RX5 9 "InkPress$Train" "ink" "[I"] ++ wsX50)
def wsX5_feedZone : List Cond := .code yX5_feedZone cX5_feedZone 3 none :: ([.fieldLink RX5 9 "InkPress$Train" "ink" "[I", .fieldLink RX5 26 "InkPress$Train" "fed" "I"] ++ wsX50)
def wsX5_share : List Cond := .code yX5_share cX5_share 3 (some .int) :: ([])
def wsX5_passOn : List Cond := .code yX5_passOn cX5_passOn 6 none :: ([.fieldLink RX5 23 "InkPress$Train" "rollers" "I", .fieldLink RX5 19 "InkPress$Train" "zones" "I", .fieldLink RX5 9 "InkPress$Train" "ink" "[I", .methodLink RX5 35 yX5_share, .static yX5_share, .initialized RX5, .code yX5_share cX5_share 3 (some .int)] ++ wsX50)
def wsX5_driftAside : List Cond := .code yX5_driftAside cX5_driftAside 7 none :: ([.fieldLink RX5 23 "InkPress$Train" "rollers" "I", .fieldLink RX5 9 "InkPress$Train" "ink" "[I", .fieldLink RX5 19 "InkPress$Train" "zones" "I", .methodLink RX5 35 yX5_share, .static yX5_share, .initialized RX5, .code yX5_share cX5_share 3 (some .int)] ++ wsX50)
def wsX5_takeOff : List Cond := .code yX5_takeOff cX5_takeOff 7 (some .int) :: ([.fieldLink RX5 23 "InkPress$Train" "rollers" "I", .fieldLink RX5 9 "InkPress$Train" "ink" "[I", .fieldLink RX5 29 "InkPress$Train" "onPaper" "I", .fieldLink RX5 32 "InkPress$Train" "onBars" "I", .methodLink RX5 35 yX5_share, .static yX5_share, .initialized RX5, .code yX5_share cX5_share 3 (some .int)] ++ wsX50)
def wsX6_restart : List Cond := .code yX6_restart cX6_restart 3 none :: ([.fieldLink RX6 22 "InkPress$Zones" "count" "I", .fieldLink RX6 15 "InkPress$Zones" "values" "[I", .fieldLink RX6 9 "InkPress$Zones" "FIRST" "[I"] ++ wsX60)
def wsX6_init : List Cond := .code yX6_init cX6_init 1 none :: ([.methodLink RX6 3 objectInit, .instanceMethod objectInit, .code objectInit ⟨#[0xb1]⟩ 1 none, .fieldLink RX6 9 "InkPress$Zones" "FIRST" "[I", .arrayClass .int, .fieldLink RX6 15 "InkPress$Zones" "values" "[I", .methodLink RX6 18 yX6_restart, .instanceMethod yX6_restart, .selects RX6 yX6_restart yX6_restart, .initialized RX6, .code yX6_restart cX6_restart 3 none, .fieldLink RX6 22 "InkPress$Zones" "count" "I"] ++ wsX60)
def wsX6_has : List Cond := .code yX6_has cX6_has 2 (some .boolean) :: ([.fieldLink RX6 22 "InkPress$Zones" "count" "I"] ++ wsX60)
def wsX6_allows : List Cond := .code yX6_allows cX6_allows 3 (some .boolean) :: ([.fieldLink RX6 26 "InkPress$Zones" "MOST" "[I", .static yX7_within, .initialized RX7, .code yX7_within cX7_within 3 (some .boolean)])
def wsX6_valueOf : List Cond := .code yX6_valueOf cX6_valueOf 3 (some .int) :: ([.fieldLink RX6 15 "InkPress$Zones" "values" "[I"] ++ wsX60)
def wsX6_change : List Cond := .code yX6_change cX6_change 6 (some .int) :: ([.fieldLink RX6 15 "InkPress$Zones" "values" "[I"] ++ wsX60)
def wsX7_init_r1 : List Cond := [Cond.methodLink RX7 1 objectInit, Cond.instanceMethod objectInit, Cond.code objectInit ⟨#[0xb1]⟩ 1 none, Cond.classLink RX7 7 RX3, Cond.instantiable RX3 1, Cond.initialized RX3, Cond.fieldLink RX7 10 "InkPress" "rules" "LInkPress$Rules;", Cond.classLink RX7 16 RX6, Cond.instantiable RX6 2, Cond.initialized RX6, Cond.fieldLink RX7 19 "InkPress" "zones" "LInkPress$Zones;", Cond.classLink RX7 23 RX5, Cond.instantiable RX5 6, Cond.initialized RX5, Cond.fieldLink RX7 26 "InkPress" "train" "LInkPress$Train;", Cond.classLink RX7 30 RX4, Cond.instantiable RX4 6, Cond.initialized RX4, Cond.fieldLink RX7 33 "InkPress" "sheets" "LInkPress$SheetLog;", Cond.classLink RX7 37 RX2, Cond.instantiable RX2 5, Cond.initialized RX2, Cond.fieldLink RX7 40 "InkPress" "pastJobs" "LInkPress$PastJobs;", Cond.classLink RX7 44 RX1]
def wsX7_init_r2 : List Cond := [Cond.instantiable RX1 12, Cond.initialized RX1, Cond.fieldLink RX7 47 "InkPress" "marks" "LInkPress$Marks;", Cond.classLink RX7 51 RX0, Cond.instantiable RX0 7, Cond.initialized RX0, Cond.fieldLink RX7 54 "InkPress" "jobs" "LInkPress$Jobs;", Cond.fieldLink RX7 58 "InkPress" "steering" "Z", Cond.methodLink RX7 9 yX3_init, Cond.instanceMethod yX3_init, Cond.code yX3_init cX3_init 1 none, Cond.methodLink RX3 1 objectInit, Cond.fieldLink RX3 7 "InkPress$Rules" "FIRST" "[I", Cond.methodLink RX3 13 ⟨"[I", "clone", "()Ljava/lang/Object;"⟩, Cond.sameMethod "[I" "java/lang/Object" "clone" "()Ljava/lang/Object;", Cond.native ⟨"java/lang/Object", "clone", "()Ljava/lang/Object;"⟩, Cond.instanceMethod ⟨"java/lang/Object", "clone", "()Ljava/lang/Object;"⟩, Cond.selects "[I" ⟨"[I", "clone", "()Ljava/lang/Object;"⟩ ⟨"java/lang/Object", "clone", "()Ljava/lang/Object;"⟩, Cond.classLink RX3 14 "[I", Cond.fieldLink RX3 18 "InkPress$Rules" "values" "[I", Cond.methodLink RX7 18 yX6_init, Cond.instanceMethod yX6_init, Cond.code yX6_init cX6_init 1 none, Cond.methodLink RX6 3 objectInit]
def wsX7_init_r3 : List Cond := [Cond.fieldLink RX6 9 "InkPress$Zones" "FIRST" "[I", Cond.arrayClass .int, Cond.fieldLink RX6 15 "InkPress$Zones" "values" "[I", Cond.methodLink RX6 18 yX6_restart, Cond.instanceMethod yX6_restart, Cond.selects RX6 yX6_restart yX6_restart, Cond.code yX6_restart cX6_restart 3 none, Cond.fieldLink RX6 22 "InkPress$Zones" "count" "I", Cond.methodLink RX7 25 yX5_init, Cond.instanceMethod yX5_init, Cond.code yX5_init cX5_init 1 none, Cond.methodLink RX5 3 objectInit, Cond.fieldLink RX5 9 "InkPress$Train" "ink" "[I", Cond.methodLink RX5 15 yX5_restart, Cond.instanceMethod yX5_restart, Cond.selects RX5 yX5_restart yX5_restart, Cond.code yX5_restart cX5_restart 4 none, Cond.fieldLink RX5 19 "InkPress$Train" "zones" "I", Cond.fieldLink RX5 23 "InkPress$Train" "rollers" "I", Cond.fieldLink RX5 26 "InkPress$Train" "fed" "I", Cond.fieldLink RX5 29 "InkPress$Train" "onPaper" "I", Cond.fieldLink RX5 32 "InkPress$Train" "onBars" "I", Cond.methodLink RX7 32 yX4_init, Cond.instanceMethod yX4_init]
def wsX7_init_r4 : List Cond := [Cond.code yX4_init cX4_init 1 none, Cond.methodLink RX4 3 objectInit, Cond.fieldLink RX4 9 "InkPress$SheetLog" "densities" "[I", Cond.arrayClass .boolean, Cond.fieldLink RX4 15 "InkPress$SheetLog" "good" "[Z", Cond.methodLink RX4 19 yX4_restart, Cond.instanceMethod yX4_restart, Cond.selects RX4 yX4_restart yX4_restart, Cond.code yX4_restart cX4_restart 1 none, Cond.fieldLink RX4 22 "InkPress$SheetLog" "count" "I", Cond.fieldLink RX4 26 "InkPress$SheetLog" "goodCount" "I", Cond.fieldLink RX4 29 "InkPress$SheetLog" "goodInARow" "I", Cond.fieldLink RX4 32 "InkPress$SheetLog" "start" "I", Cond.methodLink RX7 39 yX2_init, Cond.instanceMethod yX2_init, Cond.code yX2_init cX2_init 1 none, Cond.methodLink RX2 3 objectInit, Cond.fieldLink RX2 9 "InkPress$PastJobs" "count" "I", Cond.methodLink RX7 46 yX1_init, Cond.instanceMethod yX1_init, Cond.code yX1_init cX1_init 1 none, Cond.methodLink RX1 3 objectInit, Cond.fieldLink RX1 11 "InkPress$Marks" "x" "[I", Cond.fieldLink RX1 15 "InkPress$Marks" "y" "[I"]
def wsX7_init_r5 : List Cond := [Cond.fieldLink RX1 18 "InkPress$Marks" "dx" "[I", Cond.fieldLink RX1 21 "InkPress$Marks" "dy" "[I", Cond.methodLink RX7 53 yX0_init, Cond.instanceMethod yX0_init, Cond.code yX0_init cX0_init 2 none, Cond.methodLink RX0 5 objectInit, Cond.fieldLink RX0 11 "InkPress$Jobs" "colours" "[I", Cond.fieldLink RX0 15 "InkPress$Jobs" "papers" "[I", Cond.fieldLink RX0 18 "InkPress$Jobs" "washes" "[I", Cond.fieldLink RX0 21 "InkPress$Jobs" "costsToCome" "[I", Cond.fieldLink RX0 24 "InkPress$Jobs" "best" "[I"]
def wsX7_init : List Cond := .code yX7_init cX7_init 1 none :: ((wsX7_init_r1 ++ (wsX7_init_r2 ++ (wsX7_init_r3 ++ (wsX7_init_r4 ++ wsX7_init_r5)))) ++ wsX30 ++ wsX70 ++ wsX60 ++ wsX50 ++ wsX40 ++ wsX20 ++ wsX10 ++ wsX00)
def wsX7_press_r1 : List Cond := [Cond.fieldLink RX7 19 "InkPress" "zones" "LInkPress$Zones;", Cond.fieldLink RX7 26 "InkPress" "train" "LInkPress$Train;", Cond.fieldLink RX7 33 "InkPress" "sheets" "LInkPress$SheetLog;", Cond.fieldLink RX7 58 "InkPress" "steering" "Z", Cond.methodLink RX7 62 yX7_within, Cond.static yX7_within, Cond.initialized RX7, Cond.code yX7_within cX7_within 3 (some .boolean), Cond.methodLink RX7 66 yX6_restart, Cond.instanceMethod yX6_restart, Cond.selects RX6 yX6_restart yX6_restart, Cond.initialized RX6, Cond.code yX6_restart cX6_restart 3 none, Cond.fieldLink RX6 22 "InkPress$Zones" "count" "I", Cond.fieldLink RX6 15 "InkPress$Zones" "values" "[I", Cond.fieldLink RX6 9 "InkPress$Zones" "FIRST" "[I", Cond.methodLink RX7 70 yX5_restart, Cond.instanceMethod yX5_restart, Cond.selects RX5 yX5_restart yX5_restart, Cond.initialized RX5, Cond.code yX5_restart cX5_restart 4 none, Cond.fieldLink RX5 19 "InkPress$Train" "zones" "I", Cond.fieldLink RX5 23 "InkPress$Train" "rollers" "I", Cond.fieldLink RX5 26 "InkPress$Train" "fed" "I"]
def wsX7_press_r2 : List Cond := [Cond.fieldLink RX5 29 "InkPress$Train" "onPaper" "I", Cond.fieldLink RX5 32 "InkPress$Train" "onBars" "I", Cond.fieldLink RX5 9 "InkPress$Train" "ink" "[I", Cond.methodLink RX7 73 yX4_restart, Cond.instanceMethod yX4_restart, Cond.selects RX4 yX4_restart yX4_restart, Cond.initialized RX4, Cond.code yX4_restart cX4_restart 1 none, Cond.fieldLink RX4 22 "InkPress$SheetLog" "count" "I", Cond.fieldLink RX4 26 "InkPress$SheetLog" "goodCount" "I", Cond.fieldLink RX4 29 "InkPress$SheetLog" "goodInARow" "I", Cond.fieldLink RX4 32 "InkPress$SheetLog" "start" "I"]
def wsX7_press : List Cond := .code yX7_press cX7_press 3 (some .int) :: ((wsX7_press_r1 ++ wsX7_press_r2) ++ wsX70 ++ wsX60 ++ wsX50 ++ wsX40)
def wsX7_rule : List Cond := .code yX7_rule cX7_rule 3 (some .int) :: ([.fieldLink RX7 10 "InkPress" "rules" "LInkPress$Rules;", .constant RX7 79 (-1000001), .constant RX7 84 (-1000002), .methodLink RX7 75 yX3_has, .instanceMethod yX3_has, .selects RX3 yX3_has yX3_has, .initialized RX3, .code yX3_has cX3_has 2 (some .boolean), .fieldLink RX3 18 "InkPress$Rules" "values" "[I", .methodLink RX7 80 yX3_allows, .instanceMethod yX3_allows, .selects RX3 yX3_allows yX3_allows, .code yX3_allows cX3_allows 3 (some .boolean), .fieldLink RX3 21 "InkPress$Rules" "LEAST" "[I", .fieldLink RX3 24 "InkPress$Rules" "MOST" "[I", .static yX7_within, .initialized RX7, .code yX7_within cX7_within 3 (some .boolean), .methodLink RX7 85 yX3_change, .instanceMethod yX3_change, .selects RX3 yX3_change yX3_change, .code yX3_change cX3_change 4 (some .int)] ++ wsX70 ++ wsX30)
def wsX7_set : List Cond := .code yX7_set cX7_set 4 (some .int) :: ([.fieldLink RX7 19 "InkPress" "zones" "LInkPress$Zones;", .methodLink RX7 89 yX6_has, .instanceMethod yX6_has, .selects RX6 yX6_has yX6_has, .initialized RX6, .code yX6_has cX6_has 2 (some .boolean), .fieldLink RX6 22 "InkPress$Zones" "count" "I", .methodLink RX7 62 yX7_within, .static yX7_within, .initialized RX7, .code yX7_within cX7_within 3 (some .boolean), .methodLink RX7 90 yX6_allows, .instanceMethod yX6_allows, .selects RX6 yX6_allows yX6_allows, .code yX6_allows cX6_allows 3 (some .boolean), .fieldLink RX6 26 "InkPress$Zones" "MOST" "[I", .methodLink RX7 91 yX6_change, .instanceMethod yX6_change, .selects RX6 yX6_change yX6_change, .code yX6_change cX6_change 6 (some .int), .fieldLink RX6 15 "InkPress$Zones" "values" "[I"] ++ wsX70 ++ wsX60)
def wsX7_zone_r1 : List Cond := [Cond.fieldLink RX7 19 "InkPress" "zones" "LInkPress$Zones;", Cond.fieldLink RX7 33 "InkPress" "sheets" "LInkPress$SheetLog;", Cond.methodLink RX7 89 yX6_has, Cond.instanceMethod yX6_has, Cond.selects RX6 yX6_has yX6_has, Cond.initialized RX6, Cond.code yX6_has cX6_has 2 (some .boolean), Cond.fieldLink RX6 22 "InkPress$Zones" "count" "I", Cond.methodLink RX7 62 yX7_within, Cond.static yX7_within, Cond.initialized RX7, Cond.code yX7_within cX7_within 3 (some .boolean), Cond.methodLink RX7 94 yX4_latestDensity, Cond.instanceMethod yX4_latestDensity, Cond.selects RX4 yX4_latestDensity yX4_latestDensity, Cond.initialized RX4, Cond.code yX4_latestDensity cX4_latestDensity 2 (some .int), Cond.fieldLink RX4 22 "InkPress$SheetLog" "count" "I", Cond.methodLink RX4 35 yX4_densityOn, Cond.instanceMethod yX4_densityOn, Cond.selects RX4 yX4_densityOn yX4_densityOn, Cond.code yX4_densityOn cX4_densityOn 3 (some .int), Cond.fieldLink RX4 9 "InkPress$SheetLog" "densities" "[I", Cond.methodLink RX7 98 yX6_valueOf]
def wsX7_zone_r2 : List Cond := [Cond.instanceMethod yX6_valueOf, Cond.selects RX6 yX6_valueOf yX6_valueOf, Cond.code yX6_valueOf cX6_valueOf 3 (some .int), Cond.fieldLink RX6 15 "InkPress$Zones" "values" "[I"]
def wsX7_zone : List Cond := .code yX7_zone cX7_zone 3 (some .int) :: ((wsX7_zone_r1 ++ wsX7_zone_r2) ++ wsX70 ++ wsX60 ++ wsX40)
def wsX7_ink : List Cond := .code yX7_ink cX7_ink 3 (some .int) :: ([.fieldLink RX7 26 "InkPress" "train" "LInkPress$Train;", .fieldLink RX7 19 "InkPress" "zones" "LInkPress$Zones;", .methodLink RX7 101 yX5_has, .instanceMethod yX5_has, .selects RX5 yX5_has yX5_has, .initialized RX5, .code yX5_has cX5_has 2 (some .boolean), .fieldLink RX5 23 "InkPress$Train" "rollers" "I", .methodLink RX7 89 yX6_has, .instanceMethod yX6_has, .selects RX6 yX6_has yX6_has, .initialized RX6, .code yX6_has cX6_has 2 (some .boolean), .fieldLink RX6 22 "InkPress$Zones" "count" "I", .methodLink RX7 102 yX5_inkAt, .instanceMethod yX5_inkAt, .selects RX5 yX5_inkAt yX5_inkAt, .code yX5_inkAt cX5_inkAt 3 (some .int), .fieldLink RX5 9 "InkPress$Train" "ink" "[I"] ++ wsX70 ++ wsX50 ++ wsX60)
def wsX7_printSheet_r1 : List Cond := [Cond.fieldLink RX7 19 "InkPress" "zones" "LInkPress$Zones;", Cond.fieldLink RX7 26 "InkPress" "train" "LInkPress$Train;", Cond.fieldLink RX7 10 "InkPress" "rules" "LInkPress$Rules;", Cond.fieldLink RX7 33 "InkPress" "sheets" "LInkPress$SheetLog;", Cond.methodLink RX7 240 Lib.Math.abs.name, Cond.static Lib.Math.abs.name, Cond.initialized "java/lang/Math", Cond.code Lib.Math.abs.name Lib.Math.abs.code 1 (some .int), Cond.methodLink RX7 98 yX6_valueOf, Cond.instanceMethod yX6_valueOf, Cond.selects RX6 yX6_valueOf yX6_valueOf, Cond.initialized RX6, Cond.code yX6_valueOf cX6_valueOf 3 (some .int), Cond.fieldLink RX6 15 "InkPress$Zones" "values" "[I", Cond.methodLink RX7 220 yX3_valueOf, Cond.instanceMethod yX3_valueOf, Cond.selects RX3 yX3_valueOf yX3_valueOf, Cond.initialized RX3, Cond.code yX3_valueOf cX3_valueOf 2 (some .int), Cond.fieldLink RX3 18 "InkPress$Rules" "values" "[I", Cond.methodLink RX7 222 yX5_feedZone, Cond.instanceMethod yX5_feedZone, Cond.selects RX5 yX5_feedZone yX5_feedZone, Cond.initialized RX5]
def wsX7_printSheet_r2 : List Cond := [Cond.code yX5_feedZone cX5_feedZone 3 none, Cond.fieldLink RX5 9 "InkPress$Train" "ink" "[I", Cond.fieldLink RX5 26 "InkPress$Train" "fed" "I", Cond.methodLink RX7 225 yX5_passOn, Cond.instanceMethod yX5_passOn, Cond.selects RX5 yX5_passOn yX5_passOn, Cond.code yX5_passOn cX5_passOn 6 none, Cond.fieldLink RX5 23 "InkPress$Train" "rollers" "I", Cond.fieldLink RX5 19 "InkPress$Train" "zones" "I", Cond.methodLink RX5 35 yX5_share, Cond.static yX5_share, Cond.code yX5_share cX5_share 3 (some .int), Cond.methodLink RX7 228 yX5_driftAside, Cond.instanceMethod yX5_driftAside, Cond.selects RX5 yX5_driftAside yX5_driftAside, Cond.code yX5_driftAside cX5_driftAside 7 none, Cond.methodLink RX7 231 yX4_begin, Cond.instanceMethod yX4_begin, Cond.selects RX4 yX4_begin yX4_begin, Cond.initialized RX4, Cond.code yX4_begin cX4_begin 1 none, Cond.fieldLink RX4 22 "InkPress$SheetLog" "count" "I", Cond.methodLink RX7 234 yX5_takeOff, Cond.instanceMethod yX5_takeOff]
def wsX7_printSheet_r3 : List Cond := [Cond.selects RX5 yX5_takeOff yX5_takeOff, Cond.code yX5_takeOff cX5_takeOff 7 (some .int), Cond.fieldLink RX5 29 "InkPress$Train" "onPaper" "I", Cond.fieldLink RX5 32 "InkPress$Train" "onBars" "I", Cond.methodLink RX7 237 yX4_note, Cond.instanceMethod yX4_note, Cond.selects RX4 yX4_note yX4_note, Cond.code yX4_note cX4_note 3 none, Cond.fieldLink RX4 9 "InkPress$SheetLog" "densities" "[I", Cond.methodLink RX7 245 yX4_judge, Cond.instanceMethod yX4_judge, Cond.selects RX4 yX4_judge yX4_judge, Cond.code yX4_judge cX4_judge 3 none, Cond.fieldLink RX4 15 "InkPress$SheetLog" "good" "[Z", Cond.fieldLink RX4 29 "InkPress$SheetLog" "goodInARow" "I", Cond.fieldLink RX4 26 "InkPress$SheetLog" "goodCount" "I", Cond.fieldLink RX4 32 "InkPress$SheetLog" "start" "I"]
def wsX7_printSheet : List Cond := .code yX7_printSheet cX7_printSheet 5 none :: ((wsX7_printSheet_r1 ++ (wsX7_printSheet_r2 ++ wsX7_printSheet_r3)) ++ wsX70 ++ wsX60 ++ wsX30 ++ wsX50 ++ wsX40)
def wsX7_isSteeringDue : List Cond := .code yX7_isSteeringDue cX7_isSteeringDue 2 (some .boolean) :: ([.fieldLink RX7 10 "InkPress" "rules" "LInkPress$Rules;", .fieldLink RX7 33 "InkPress" "sheets" "LInkPress$SheetLog;", .methodLink RX7 220 yX3_valueOf, .instanceMethod yX3_valueOf, .selects RX3 yX3_valueOf yX3_valueOf, .initialized RX3, .code yX3_valueOf cX3_valueOf 2 (some .int), .fieldLink RX3 18 "InkPress$Rules" "values" "[I"] ++ wsX70 ++ wsX40 ++ wsX30)
def wsX7_steerKeys_r1 : List Cond := [Cond.fieldLink RX7 10 "InkPress" "rules" "LInkPress$Rules;", Cond.fieldLink RX7 19 "InkPress" "zones" "LInkPress$Zones;", Cond.fieldLink RX7 33 "InkPress" "sheets" "LInkPress$SheetLog;", Cond.methodLink RX7 220 yX3_valueOf, Cond.instanceMethod yX3_valueOf, Cond.selects RX3 yX3_valueOf yX3_valueOf, Cond.initialized RX3, Cond.code yX3_valueOf cX3_valueOf 2 (some .int), Cond.fieldLink RX3 18 "InkPress$Rules" "values" "[I", Cond.methodLink RX7 98 yX6_valueOf, Cond.instanceMethod yX6_valueOf, Cond.selects RX6 yX6_valueOf yX6_valueOf, Cond.initialized RX6, Cond.code yX6_valueOf cX6_valueOf 3 (some .int), Cond.fieldLink RX6 15 "InkPress$Zones" "values" "[I", Cond.methodLink RX7 94 yX4_latestDensity, Cond.instanceMethod yX4_latestDensity, Cond.selects RX4 yX4_latestDensity yX4_latestDensity, Cond.initialized RX4, Cond.code yX4_latestDensity cX4_latestDensity 2 (some .int), Cond.fieldLink RX4 22 "InkPress$SheetLog" "count" "I", Cond.methodLink RX4 35 yX4_densityOn, Cond.instanceMethod yX4_densityOn, Cond.selects RX4 yX4_densityOn yX4_densityOn]
def wsX7_steerKeys_r2 : List Cond := [Cond.code yX4_densityOn cX4_densityOn 3 (some .int), Cond.fieldLink RX4 9 "InkPress$SheetLog" "densities" "[I", Cond.methodLink RX7 249 yX7_held, Cond.static yX7_held, Cond.initialized RX7, Cond.code yX7_held cX7_held 4 (some .int), Cond.methodLink RX7 253 Lib.MathLoose.min_long.x, Cond.static Lib.MathLoose.min_long.x, Cond.initialized "java/lang/Math", Cond.code Lib.MathLoose.min_long.x Lib.MathLoose.min_long.code 4 (some .long), Cond.methodLink RX7 256 Lib.MathLoose.max_long.x, Cond.static Lib.MathLoose.max_long.x, Cond.code Lib.MathLoose.max_long.x Lib.MathLoose.max_long.code 4 (some .long), Cond.methodLink RX7 91 yX6_change, Cond.instanceMethod yX6_change, Cond.selects RX6 yX6_change yX6_change, Cond.code yX6_change cX6_change 6 (some .int)]
def wsX7_steerKeys : List Cond := .code yX7_steerKeys cX7_steerKeys 5 none :: ((wsX7_steerKeys_r1 ++ wsX7_steerKeys_r2) ++ wsX70 ++ wsX60 ++ wsX30 ++ wsX40)
def wsX7_print_r1 : List Cond := [Cond.fieldLink RX7 33 "InkPress" "sheets" "LInkPress$SheetLog;", Cond.fieldLink RX7 58 "InkPress" "steering" "Z", Cond.methodLink RX7 62 yX7_within, Cond.static yX7_within, Cond.initialized RX7, Cond.code yX7_within cX7_within 3 (some .boolean), Cond.methodLink RX7 109 yX7_printSheet, Cond.instanceMethod yX7_printSheet, Cond.selects RX7 yX7_printSheet yX7_printSheet, Cond.code yX7_printSheet cX7_printSheet 5 none, Cond.fieldLink RX7 19 "InkPress" "zones" "LInkPress$Zones;", Cond.fieldLink RX7 26 "InkPress" "train" "LInkPress$Train;", Cond.fieldLink RX7 10 "InkPress" "rules" "LInkPress$Rules;", Cond.methodLink RX7 240 Lib.Math.abs.name, Cond.static Lib.Math.abs.name, Cond.initialized "java/lang/Math", Cond.code Lib.Math.abs.name Lib.Math.abs.code 1 (some .int), Cond.methodLink RX7 98 yX6_valueOf, Cond.instanceMethod yX6_valueOf, Cond.selects RX6 yX6_valueOf yX6_valueOf, Cond.initialized RX6, Cond.code yX6_valueOf cX6_valueOf 3 (some .int), Cond.fieldLink RX6 15 "InkPress$Zones" "values" "[I", Cond.methodLink RX7 220 yX3_valueOf]
def wsX7_print_r2 : List Cond := [Cond.instanceMethod yX3_valueOf, Cond.selects RX3 yX3_valueOf yX3_valueOf, Cond.initialized RX3, Cond.code yX3_valueOf cX3_valueOf 2 (some .int), Cond.fieldLink RX3 18 "InkPress$Rules" "values" "[I", Cond.methodLink RX7 222 yX5_feedZone, Cond.instanceMethod yX5_feedZone, Cond.selects RX5 yX5_feedZone yX5_feedZone, Cond.initialized RX5, Cond.code yX5_feedZone cX5_feedZone 3 none, Cond.fieldLink RX5 9 "InkPress$Train" "ink" "[I", Cond.fieldLink RX5 26 "InkPress$Train" "fed" "I", Cond.methodLink RX7 225 yX5_passOn, Cond.instanceMethod yX5_passOn, Cond.selects RX5 yX5_passOn yX5_passOn, Cond.code yX5_passOn cX5_passOn 6 none, Cond.fieldLink RX5 23 "InkPress$Train" "rollers" "I", Cond.fieldLink RX5 19 "InkPress$Train" "zones" "I", Cond.methodLink RX5 35 yX5_share, Cond.static yX5_share, Cond.code yX5_share cX5_share 3 (some .int), Cond.methodLink RX7 228 yX5_driftAside, Cond.instanceMethod yX5_driftAside, Cond.selects RX5 yX5_driftAside yX5_driftAside]
def wsX7_print_r3 : List Cond := [Cond.code yX5_driftAside cX5_driftAside 7 none, Cond.methodLink RX7 231 yX4_begin, Cond.instanceMethod yX4_begin, Cond.selects RX4 yX4_begin yX4_begin, Cond.initialized RX4, Cond.code yX4_begin cX4_begin 1 none, Cond.fieldLink RX4 22 "InkPress$SheetLog" "count" "I", Cond.methodLink RX7 234 yX5_takeOff, Cond.instanceMethod yX5_takeOff, Cond.selects RX5 yX5_takeOff yX5_takeOff, Cond.code yX5_takeOff cX5_takeOff 7 (some .int), Cond.fieldLink RX5 29 "InkPress$Train" "onPaper" "I", Cond.fieldLink RX5 32 "InkPress$Train" "onBars" "I", Cond.methodLink RX7 237 yX4_note, Cond.instanceMethod yX4_note, Cond.selects RX4 yX4_note yX4_note, Cond.code yX4_note cX4_note 3 none, Cond.fieldLink RX4 9 "InkPress$SheetLog" "densities" "[I", Cond.methodLink RX7 245 yX4_judge, Cond.instanceMethod yX4_judge, Cond.selects RX4 yX4_judge yX4_judge, Cond.code yX4_judge cX4_judge 3 none, Cond.fieldLink RX4 15 "InkPress$SheetLog" "good" "[Z", Cond.fieldLink RX4 29 "InkPress$SheetLog" "goodInARow" "I"]
def wsX7_print_r4 : List Cond := [Cond.fieldLink RX4 26 "InkPress$SheetLog" "goodCount" "I", Cond.fieldLink RX4 32 "InkPress$SheetLog" "start" "I", Cond.methodLink RX7 112 yX7_isSteeringDue, Cond.instanceMethod yX7_isSteeringDue, Cond.selects RX7 yX7_isSteeringDue yX7_isSteeringDue, Cond.code yX7_isSteeringDue cX7_isSteeringDue 2 (some .boolean), Cond.methodLink RX7 116 yX7_steerKeys, Cond.instanceMethod yX7_steerKeys, Cond.selects RX7 yX7_steerKeys yX7_steerKeys, Cond.code yX7_steerKeys cX7_steerKeys 5 none, Cond.methodLink RX7 94 yX4_latestDensity, Cond.instanceMethod yX4_latestDensity, Cond.selects RX4 yX4_latestDensity yX4_latestDensity, Cond.code yX4_latestDensity cX4_latestDensity 2 (some .int), Cond.methodLink RX4 35 yX4_densityOn, Cond.instanceMethod yX4_densityOn, Cond.selects RX4 yX4_densityOn yX4_densityOn, Cond.code yX4_densityOn cX4_densityOn 3 (some .int), Cond.methodLink RX7 249 yX7_held, Cond.static yX7_held, Cond.code yX7_held cX7_held 4 (some .int), Cond.methodLink RX7 253 Lib.MathLoose.min_long.x, Cond.static Lib.MathLoose.min_long.x, Cond.code Lib.MathLoose.min_long.x Lib.MathLoose.min_long.code 4 (some .long)]
def wsX7_print_r5 : List Cond := [Cond.methodLink RX7 256 Lib.MathLoose.max_long.x, Cond.static Lib.MathLoose.max_long.x, Cond.code Lib.MathLoose.max_long.x Lib.MathLoose.max_long.code 4 (some .long), Cond.methodLink RX7 91 yX6_change, Cond.instanceMethod yX6_change, Cond.selects RX6 yX6_change yX6_change, Cond.code yX6_change cX6_change 6 (some .int)]
def wsX7_print : List Cond := .code yX7_print cX7_print 3 (some .int) :: ((wsX7_print_r1 ++ (wsX7_print_r2 ++ (wsX7_print_r3 ++ (wsX7_print_r4 ++ wsX7_print_r5)))) ++ wsX70 ++ wsX40 ++ wsX60 ++ wsX30 ++ wsX50)
def wsX7_steer : List Cond := .code yX7_steer cX7_steer 3 (some .int) :: ([.fieldLink RX7 58 "InkPress" "steering" "Z"] ++ wsX70)
def wsX7_good : List Cond := .code yX7_good cX7_good 2 (some .int) :: ([.fieldLink RX7 33 "InkPress" "sheets" "LInkPress$SheetLog;", .methodLink RX7 119 yX4_has, .instanceMethod yX4_has, .selects RX4 yX4_has yX4_has, .initialized RX4, .code yX4_has cX4_has 2 (some .boolean), .fieldLink RX4 22 "InkPress$SheetLog" "count" "I", .methodLink RX7 120 yX4_wasGood, .instanceMethod yX4_wasGood, .selects RX4 yX4_wasGood yX4_wasGood, .code yX4_wasGood cX4_wasGood 2 (some .boolean), .fieldLink RX4 15 "InkPress$SheetLog" "good" "[Z"] ++ wsX70 ++ wsX40)
def wsX7_density : List Cond := .code yX7_density cX7_density 3 (some .int) :: ([.fieldLink RX7 33 "InkPress" "sheets" "LInkPress$SheetLog;", .fieldLink RX7 19 "InkPress" "zones" "LInkPress$Zones;", .methodLink RX7 119 yX4_has, .instanceMethod yX4_has, .selects RX4 yX4_has yX4_has, .initialized RX4, .code yX4_has cX4_has 2 (some .boolean), .fieldLink RX4 22 "InkPress$SheetLog" "count" "I", .methodLink RX7 89 yX6_has, .instanceMethod yX6_has, .selects RX6 yX6_has yX6_has, .initialized RX6, .code yX6_has cX6_has 2 (some .boolean), .fieldLink RX6 22 "InkPress$Zones" "count" "I", .methodLink RX7 123 yX4_densityOn, .instanceMethod yX4_densityOn, .selects RX4 yX4_densityOn yX4_densityOn, .code yX4_densityOn cX4_densityOn 3 (some .int), .fieldLink RX4 9 "InkPress$SheetLog" "densities" "[I"] ++ wsX70 ++ wsX40 ++ wsX60)
def wsX7_past : List Cond := .code yX7_past cX7_past 3 (some .int) :: ([.fieldLink RX7 40 "InkPress" "pastJobs" "LInkPress$PastJobs;", .methodLink RX7 62 yX7_within, .static yX7_within, .initialized RX7, .code yX7_within cX7_within 3 (some .boolean), .methodLink RX7 126 yX2_isFull, .instanceMethod yX2_isFull, .selects RX2 yX2_isFull yX2_isFull, .initialized RX2, .code yX2_isFull cX2_isFull 1 (some .boolean), .fieldLink RX2 9 "InkPress$PastJobs" "count" "I", .methodLink RX7 129 yX2_add, .instanceMethod yX2_add, .selects RX2 yX2_add yX2_add, .code yX2_add cX2_add 3 (some .int), .fieldLink RX2 15 "InkPress$PastJobs" "covers" "J", .fieldLink RX2 19 "InkPress$PastJobs" "keys" "J", .fieldLink RX2 22 "InkPress$PastJobs" "coversSquared" "J", .fieldLink RX2 25 "InkPress$PastJobs" "coversByKeys" "J"] ++ wsX70 ++ wsX20)
def wsX7_preset_r1 : List Cond := [Cond.fieldLink RX7 40 "InkPress" "pastJobs" "LInkPress$PastJobs;", Cond.methodLink RX7 62 yX7_within, Cond.static yX7_within, Cond.initialized RX7, Cond.code yX7_within cX7_within 3 (some .boolean), Cond.methodLink RX7 132 yX2_isEmpty, Cond.instanceMethod yX2_isEmpty, Cond.selects RX2 yX2_isEmpty yX2_isEmpty, Cond.initialized RX2, Cond.code yX2_isEmpty cX2_isEmpty 1 (some .boolean), Cond.fieldLink RX2 9 "InkPress$PastJobs" "count" "I", Cond.methodLink RX7 135 yX2_keyFor, Cond.instanceMethod yX2_keyFor, Cond.selects RX2 yX2_keyFor yX2_keyFor, Cond.code yX2_keyFor cX2_keyFor 8 (some .int), Cond.fieldLink RX2 22 "InkPress$PastJobs" "coversSquared" "J", Cond.fieldLink RX2 15 "InkPress$PastJobs" "covers" "J", Cond.fieldLink RX2 19 "InkPress$PastJobs" "keys" "J", Cond.fieldLink RX2 25 "InkPress$PastJobs" "coversByKeys" "J", Cond.static yX7_held, Cond.code yX7_held cX7_held 4 (some .int), Cond.methodLink RX7 253 Lib.MathLoose.min_long.x, Cond.static Lib.MathLoose.min_long.x, Cond.initialized "java/lang/Math"]
def wsX7_preset_r2 : List Cond := [Cond.code Lib.MathLoose.min_long.x Lib.MathLoose.min_long.code 4 (some .long), Cond.methodLink RX7 256 Lib.MathLoose.max_long.x, Cond.static Lib.MathLoose.max_long.x, Cond.code Lib.MathLoose.max_long.x Lib.MathLoose.max_long.code 4 (some .long)]
def wsX7_preset : List Cond := .code yX7_preset cX7_preset 2 (some .int) :: ((wsX7_preset_r1 ++ wsX7_preset_r2) ++ wsX70 ++ wsX20)
def wsX7_presets_r1 : List Cond := [Cond.fieldLink RX7 40 "InkPress" "pastJobs" "LInkPress$PastJobs;", Cond.fieldLink RX7 19 "InkPress" "zones" "LInkPress$Zones;", Cond.methodLink RX7 132 yX2_isEmpty, Cond.instanceMethod yX2_isEmpty, Cond.selects RX2 yX2_isEmpty yX2_isEmpty, Cond.initialized RX2, Cond.code yX2_isEmpty cX2_isEmpty 1 (some .boolean), Cond.fieldLink RX2 9 "InkPress$PastJobs" "count" "I", Cond.methodLink RX7 98 yX6_valueOf, Cond.instanceMethod yX6_valueOf, Cond.selects RX6 yX6_valueOf yX6_valueOf, Cond.initialized RX6, Cond.code yX6_valueOf cX6_valueOf 3 (some .int), Cond.fieldLink RX6 15 "InkPress$Zones" "values" "[I", Cond.methodLink RX7 135 yX2_keyFor, Cond.instanceMethod yX2_keyFor, Cond.selects RX2 yX2_keyFor yX2_keyFor, Cond.code yX2_keyFor cX2_keyFor 8 (some .int), Cond.fieldLink RX2 22 "InkPress$PastJobs" "coversSquared" "J", Cond.fieldLink RX2 15 "InkPress$PastJobs" "covers" "J", Cond.fieldLink RX2 19 "InkPress$PastJobs" "keys" "J", Cond.fieldLink RX2 25 "InkPress$PastJobs" "coversByKeys" "J", Cond.static yX7_held, Cond.initialized RX7]
def wsX7_presets_r2 : List Cond := [Cond.code yX7_held cX7_held 4 (some .int), Cond.methodLink RX7 253 Lib.MathLoose.min_long.x, Cond.static Lib.MathLoose.min_long.x, Cond.initialized "java/lang/Math", Cond.code Lib.MathLoose.min_long.x Lib.MathLoose.min_long.code 4 (some .long), Cond.methodLink RX7 256 Lib.MathLoose.max_long.x, Cond.static Lib.MathLoose.max_long.x, Cond.code Lib.MathLoose.max_long.x Lib.MathLoose.max_long.code 4 (some .long), Cond.methodLink RX7 91 yX6_change, Cond.instanceMethod yX6_change, Cond.selects RX6 yX6_change yX6_change, Cond.code yX6_change cX6_change 6 (some .int)]
def wsX7_presets : List Cond := .code yX7_presets cX7_presets 4 (some .int) :: ((wsX7_presets_r1 ++ wsX7_presets_r2) ++ wsX70 ++ wsX60 ++ wsX20)
def wsX7_told : List Cond := .code yX7_told cX7_told 2 (some .int) :: ([.fieldLink RX7 33 "InkPress" "sheets" "LInkPress$SheetLog;", .fieldLink RX7 26 "InkPress" "train" "LInkPress$Train;", .fieldLink RX7 58 "InkPress" "steering" "Z", .fieldLink RX7 40 "InkPress" "pastJobs" "LInkPress$PastJobs;", .constant RX7 84 (-1000002), .methodLink RX7 148 yX5_inkOn, .instanceMethod yX5_inkOn, .selects RX5 yX5_inkOn yX5_inkOn, .initialized RX5, .code yX5_inkOn cX5_inkOn 3 (some .int), .fieldLink RX5 9 "InkPress$Train" "ink" "[I"] ++ wsX70 ++ wsX40 ++ wsX50 ++ wsX20)
def wsX7_mark_r1 : List Cond := [Cond.fieldLink RX7 47 "InkPress" "marks" "LInkPress$Marks;", Cond.methodLink RX7 159 yX1_isPlace, Cond.static yX1_isPlace, Cond.initialized RX1, Cond.code yX1_isPlace cX1_isPlace 1 (some .boolean), Cond.static yX7_within, Cond.initialized RX7, Cond.code yX7_within cX7_within 3 (some .boolean), Cond.methodLink RX7 162 yX1_isOffset, Cond.static yX1_isOffset, Cond.code yX1_isOffset cX1_isOffset 1 (some .boolean), Cond.methodLink RX7 165 yX1_isFull, Cond.instanceMethod yX1_isFull, Cond.selects RX1 yX1_isFull yX1_isFull, Cond.code yX1_isFull cX1_isFull 1 (some .boolean), Cond.fieldLink RX1 28 "InkPress$Marks" "count" "I", Cond.methodLink RX7 166 yX1_add, Cond.instanceMethod yX1_add, Cond.selects RX1 yX1_add yX1_add, Cond.code yX1_add cX1_add 5 (some .int), Cond.fieldLink RX1 11 "InkPress$Marks" "x" "[I", Cond.fieldLink RX1 15 "InkPress$Marks" "y" "[I", Cond.fieldLink RX1 18 "InkPress$Marks" "dx" "[I", Cond.fieldLink RX1 21 "InkPress$Marks" "dy" "[I"]
def wsX7_mark_r2 : List Cond := [Cond.fieldLink RX1 32 "InkPress$Marks" "sumX" "J", Cond.fieldLink RX1 36 "InkPress$Marks" "sumY" "J", Cond.fieldLink RX1 39 "InkPress$Marks" "sumDx" "J", Cond.fieldLink RX1 42 "InkPress$Marks" "sumDy" "J", Cond.fieldLink RX1 45 "InkPress$Marks" "sumSquares" "J", Cond.fieldLink RX1 48 "InkPress$Marks" "sumOutward" "J", Cond.fieldLink RX1 51 "InkPress$Marks" "sumAround" "J"]
def wsX7_mark : List Cond := .code yX7_mark cX7_mark 5 (some .int) :: ((wsX7_mark_r1 ++ wsX7_mark_r2) ++ wsX70 ++ wsX10)
def wsX7_clear : List Cond := .code yX7_clear cX7_clear 1 (some .int) :: ([.fieldLink RX7 47 "InkPress" "marks" "LInkPress$Marks;", .methodLink RX7 169 yX1_removeAll, .instanceMethod yX1_removeAll, .selects RX1 yX1_removeAll yX1_removeAll, .initialized RX1, .code yX1_removeAll cX1_removeAll 2 (some .int), .fieldLink RX1 28 "InkPress$Marks" "count" "I", .fieldLink RX1 32 "InkPress$Marks" "sumX" "J", .fieldLink RX1 36 "InkPress$Marks" "sumY" "J", .fieldLink RX1 39 "InkPress$Marks" "sumDx" "J", .fieldLink RX1 42 "InkPress$Marks" "sumDy" "J", .fieldLink RX1 45 "InkPress$Marks" "sumSquares" "J", .fieldLink RX1 48 "InkPress$Marks" "sumOutward" "J", .fieldLink RX1 51 "InkPress$Marks" "sumAround" "J"] ++ wsX70 ++ wsX10)
def wsX7_commonDivisor : List Cond := .code yX7_commonDivisor cX7_commonDivisor 11 (some .long) :: ([.methodLink RX7 259 Lib.MathLoose.abs_long.x, .static Lib.MathLoose.abs_long.x, .initialized "java/lang/Math", .code Lib.MathLoose.abs_long.x Lib.MathLoose.abs_long.code 2 (some .long)])
def wsX7_fit_r1 : List Cond := [Cond.constantLong RX7 172 (-1000002), Cond.fieldLink RX7 47 "InkPress" "marks" "LInkPress$Marks;", Cond.constantLong RX7 177 (-1000005), Cond.methodLink RX7 62 yX7_within, Cond.static yX7_within, Cond.initialized RX7, Cond.code yX7_within cX7_within 3 (some .boolean), Cond.methodLink RX7 174 yX1_isTold, Cond.instanceMethod yX1_isTold, Cond.selects RX1 yX1_isTold yX1_isTold, Cond.initialized RX1, Cond.code yX1_isTold cX1_isTold 1 (some .boolean), Cond.methodLink RX1 54 yX1_spread, Cond.instanceMethod yX1_spread, Cond.selects RX1 yX1_spread yX1_spread, Cond.code yX1_spread cX1_spread 1 (some .long), Cond.fieldLink RX1 28 "InkPress$Marks" "count" "I", Cond.fieldLink RX1 45 "InkPress$Marks" "sumSquares" "J", Cond.fieldLink RX1 32 "InkPress$Marks" "sumX" "J", Cond.fieldLink RX1 36 "InkPress$Marks" "sumY" "J", Cond.methodLink RX7 179 yX1_upper, Cond.instanceMethod yX1_upper, Cond.selects RX1 yX1_upper yX1_upper, Cond.code yX1_upper cX1_upper 2 (some .long)]
def wsX7_fit_r2 : List Cond := [Cond.methodLink RX1 58 yX1_stretch, Cond.instanceMethod yX1_stretch, Cond.selects RX1 yX1_stretch yX1_stretch, Cond.code yX1_stretch cX1_stretch 1 (some .long), Cond.fieldLink RX1 48 "InkPress$Marks" "sumOutward" "J", Cond.fieldLink RX1 39 "InkPress$Marks" "sumDx" "J", Cond.fieldLink RX1 42 "InkPress$Marks" "sumDy" "J", Cond.methodLink RX1 61 yX1_turn, Cond.instanceMethod yX1_turn, Cond.selects RX1 yX1_turn yX1_turn, Cond.code yX1_turn cX1_turn 1 (some .long), Cond.fieldLink RX1 51 "InkPress$Marks" "sumAround" "J", Cond.methodLink RX1 64 yX1_across, Cond.instanceMethod yX1_across, Cond.selects RX1 yX1_across yX1_across, Cond.code yX1_across cX1_across 1 (some .long), Cond.methodLink RX1 67 yX1_up, Cond.instanceMethod yX1_up, Cond.selects RX1 yX1_up yX1_up, Cond.code yX1_up cX1_up 1 (some .long), Cond.methodLink RX7 183 yX1_lower, Cond.instanceMethod yX1_lower, Cond.selects RX1 yX1_lower yX1_lower, Cond.code yX1_lower cX1_lower 2 (some .long)]
def wsX7_fit_r3 : List Cond := [Cond.methodLink RX7 186 yX7_commonDivisor, Cond.static yX7_commonDivisor, Cond.code yX7_commonDivisor cX7_commonDivisor 11 (some .long), Cond.methodLink RX7 259 Lib.MathLoose.abs_long.x, Cond.static Lib.MathLoose.abs_long.x, Cond.initialized "java/lang/Math", Cond.code Lib.MathLoose.abs_long.x Lib.MathLoose.abs_long.code 2 (some .long)]
def wsX7_fit : List Cond := .code yX7_fit cX7_fit 11 (some .long) :: ((wsX7_fit_r1 ++ (wsX7_fit_r2 ++ wsX7_fit_r3)) ++ wsX70 ++ wsX10)
def wsX7_off_r1 : List Cond := [Cond.fieldLink RX7 47 "InkPress" "marks" "LInkPress$Marks;", Cond.constant RX7 79 (-1000001), Cond.constant RX7 84 (-1000002), Cond.constant RX7 191 (-1000005), Cond.methodLink RX7 190 yX1_has, Cond.instanceMethod yX1_has, Cond.selects RX1 yX1_has yX1_has, Cond.initialized RX1, Cond.code yX1_has cX1_has 2 (some .boolean), Cond.fieldLink RX1 28 "InkPress$Marks" "count" "I", Cond.methodLink RX7 62 yX7_within, Cond.static yX7_within, Cond.initialized RX7, Cond.code yX7_within cX7_within 3 (some .boolean), Cond.methodLink RX7 174 yX1_isTold, Cond.instanceMethod yX1_isTold, Cond.selects RX1 yX1_isTold yX1_isTold, Cond.code yX1_isTold cX1_isTold 1 (some .boolean), Cond.methodLink RX1 54 yX1_spread, Cond.instanceMethod yX1_spread, Cond.selects RX1 yX1_spread yX1_spread, Cond.code yX1_spread cX1_spread 1 (some .long), Cond.fieldLink RX1 45 "InkPress$Marks" "sumSquares" "J", Cond.fieldLink RX1 32 "InkPress$Marks" "sumX" "J"]
def wsX7_off_r2 : List Cond := [Cond.fieldLink RX1 36 "InkPress$Marks" "sumY" "J", Cond.methodLink RX7 192 yX1_offAcross, Cond.instanceMethod yX1_offAcross, Cond.selects RX1 yX1_offAcross yX1_offAcross, Cond.code yX1_offAcross cX1_offAcross 4 (some .int), Cond.fieldLink RX1 11 "InkPress$Marks" "x" "[I", Cond.fieldLink RX1 15 "InkPress$Marks" "y" "[I", Cond.fieldLink RX1 18 "InkPress$Marks" "dx" "[I", Cond.methodLink RX1 58 yX1_stretch, Cond.instanceMethod yX1_stretch, Cond.selects RX1 yX1_stretch yX1_stretch, Cond.code yX1_stretch cX1_stretch 1 (some .long), Cond.fieldLink RX1 48 "InkPress$Marks" "sumOutward" "J", Cond.fieldLink RX1 39 "InkPress$Marks" "sumDx" "J", Cond.fieldLink RX1 42 "InkPress$Marks" "sumDy" "J", Cond.methodLink RX1 61 yX1_turn, Cond.instanceMethod yX1_turn, Cond.selects RX1 yX1_turn yX1_turn, Cond.code yX1_turn cX1_turn 1 (some .long), Cond.fieldLink RX1 51 "InkPress$Marks" "sumAround" "J", Cond.methodLink RX1 64 yX1_across, Cond.instanceMethod yX1_across, Cond.selects RX1 yX1_across yX1_across, Cond.code yX1_across cX1_across 1 (some .long)]
def wsX7_off_r3 : List Cond := [Cond.methodLink RX1 70 yX1_inThousandths, Cond.instanceMethod yX1_inThousandths, Cond.selects RX1 yX1_inThousandths yX1_inThousandths, Cond.code yX1_inThousandths cX1_inThousandths 6 (some .int), Cond.constantLong RX1 74 (1000), Cond.methodLink RX7 195 yX1_offUp, Cond.instanceMethod yX1_offUp, Cond.selects RX1 yX1_offUp yX1_offUp, Cond.code yX1_offUp cX1_offUp 4 (some .int), Cond.fieldLink RX1 21 "InkPress$Marks" "dy" "[I", Cond.methodLink RX1 67 yX1_up, Cond.instanceMethod yX1_up, Cond.selects RX1 yX1_up yX1_up, Cond.code yX1_up cX1_up 1 (some .long)]
def wsX7_off : List Cond := .code yX7_off cX7_off 3 (some .int) :: ((wsX7_off_r1 ++ (wsX7_off_r2 ++ wsX7_off_r3)) ++ wsX70 ++ wsX10)
def wsX7_job : List Cond := .code yX7_job cX7_job 3 (some .int) :: ([.fieldLink RX7 54 "InkPress" "jobs" "LInkPress$Jobs;", .methodLink RX7 198 yX0_isColour, .static yX0_isColour, .initialized RX0, .code yX0_isColour cX0_isColour 1 (some .boolean), .methodLink RX7 201 yX0_isPaper, .static yX0_isPaper, .code yX0_isPaper cX0_isPaper 1 (some .boolean), .methodLink RX7 204 yX0_isFull, .instanceMethod yX0_isFull, .selects RX0 yX0_isFull yX0_isFull, .code yX0_isFull cX0_isFull 1 (some .boolean), .fieldLink RX0 31 "InkPress$Jobs" "count" "I", .methodLink RX7 205 yX0_add, .instanceMethod yX0_add, .selects RX0 yX0_add yX0_add, .code yX0_add cX0_add 3 (some .int), .fieldLink RX0 11 "InkPress$Jobs" "colours" "[I", .fieldLink RX0 15 "InkPress$Jobs" "papers" "[I", .fieldLink RX0 35 "InkPress$Jobs" "isPlanned" "Z"] ++ wsX70 ++ wsX00)
def wsX7_forget : List Cond := .code yX7_forget cX7_forget 1 (some .int) :: ([.fieldLink RX7 54 "InkPress" "jobs" "LInkPress$Jobs;", .methodLink RX7 206 yX0_removeAll, .instanceMethod yX0_removeAll, .selects RX0 yX0_removeAll yX0_removeAll, .initialized RX0, .code yX0_removeAll cX0_removeAll 2 (some .int), .fieldLink RX0 31 "InkPress$Jobs" "count" "I", .fieldLink RX0 35 "InkPress$Jobs" "isPlanned" "Z"] ++ wsX70 ++ wsX00)
def wsX7_wash : List Cond := .code yX7_wash cX7_wash 4 (some .int) :: ([.fieldLink RX7 54 "InkPress" "jobs" "LInkPress$Jobs;", .methodLink RX7 198 yX0_isColour, .static yX0_isColour, .initialized RX0, .code yX0_isColour cX0_isColour 1 (some .boolean), .methodLink RX7 207 yX0_isWashCost, .static yX0_isWashCost, .code yX0_isWashCost cX0_isWashCost 1 (some .boolean), .static yX7_within, .initialized RX7, .code yX7_within cX7_within 3 (some .boolean), .methodLink RX7 210 yX0_changeWash, .instanceMethod yX0_changeWash, .selects RX0 yX0_changeWash yX0_changeWash, .code yX0_changeWash cX0_changeWash 6 (some .int), .fieldLink RX0 18 "InkPress$Jobs" "washes" "[I", .fieldLink RX0 35 "InkPress$Jobs" "isPlanned" "Z"] ++ wsX70 ++ wsX00)
def wsX7_order_r1 : List Cond := [Cond.fieldLink RX7 54 "InkPress" "jobs" "LInkPress$Jobs;", Cond.methodLink RX7 213 yX0_leastCosts, Cond.instanceMethod yX0_leastCosts, Cond.selects RX0 yX0_leastCosts yX0_leastCosts, Cond.initialized RX0, Cond.code yX0_leastCosts cX0_leastCosts 1 (some .int), Cond.fieldLink RX0 21 "InkPress$Jobs" "costsToCome" "[I", Cond.methodLink RX0 39 yX0_plan, Cond.instanceMethod yX0_plan, Cond.selects RX0 yX0_plan yX0_plan, Cond.code yX0_plan cX0_plan 3 none, Cond.fieldLink RX0 35 "InkPress$Jobs" "isPlanned" "Z", Cond.fieldLink RX0 31 "InkPress$Jobs" "count" "I", Cond.methodLink RX0 42 yX0_holds, Cond.static yX0_holds, Cond.code yX0_holds cX0_holds 2 (some .boolean), Cond.methodLink RX0 46 yX0_weigh, Cond.instanceMethod yX0_weigh, Cond.selects RX0 yX0_weigh yX0_weigh, Cond.code yX0_weigh cX0_weigh 4 none, Cond.methodLink RX0 53 yX0_bestNext, Cond.instanceMethod yX0_bestNext, Cond.selects RX0 yX0_bestNext yX0_bestNext, Cond.code yX0_bestNext cX0_bestNext 7 (some .int)]
def wsX7_order_r2 : List Cond := [Cond.methodLink RX0 57 yX0_costsBy, Cond.instanceMethod yX0_costsBy, Cond.selects RX0 yX0_costsBy yX0_costsBy, Cond.code yX0_costsBy cX0_costsBy 6 (some .int), Cond.fieldLink RX0 18 "InkPress$Jobs" "washes" "[I", Cond.fieldLink RX0 11 "InkPress$Jobs" "colours" "[I", Cond.fieldLink RX0 15 "InkPress$Jobs" "papers" "[I", Cond.methodLink RX0 50 yX0_walk, Cond.instanceMethod yX0_walk, Cond.selects RX0 yX0_walk yX0_walk, Cond.code yX0_walk cX0_walk 5 none, Cond.fieldLink RX0 24 "InkPress$Jobs" "best" "[I"]
def wsX7_order : List Cond := .code yX7_order cX7_order 1 (some .int) :: ((wsX7_order_r1 ++ wsX7_order_r2) ++ wsX70 ++ wsX00)
def wsX7_orderAt_r1 : List Cond := [Cond.fieldLink RX7 54 "InkPress" "jobs" "LInkPress$Jobs;", Cond.methodLink RX7 216 yX0_has, Cond.instanceMethod yX0_has, Cond.selects RX0 yX0_has yX0_has, Cond.initialized RX0, Cond.code yX0_has cX0_has 2 (some .boolean), Cond.fieldLink RX0 31 "InkPress$Jobs" "count" "I", Cond.methodLink RX7 217 yX0_inOrder, Cond.instanceMethod yX0_inOrder, Cond.selects RX0 yX0_inOrder yX0_inOrder, Cond.code yX0_inOrder cX0_inOrder 2 (some .int), Cond.fieldLink RX0 24 "InkPress$Jobs" "best" "[I", Cond.methodLink RX0 39 yX0_plan, Cond.instanceMethod yX0_plan, Cond.selects RX0 yX0_plan yX0_plan, Cond.code yX0_plan cX0_plan 3 none, Cond.fieldLink RX0 35 "InkPress$Jobs" "isPlanned" "Z", Cond.methodLink RX0 42 yX0_holds, Cond.static yX0_holds, Cond.code yX0_holds cX0_holds 2 (some .boolean), Cond.methodLink RX0 46 yX0_weigh, Cond.instanceMethod yX0_weigh, Cond.selects RX0 yX0_weigh yX0_weigh, Cond.code yX0_weigh cX0_weigh 4 none]
def wsX7_orderAt_r2 : List Cond := [Cond.fieldLink RX0 21 "InkPress$Jobs" "costsToCome" "[I", Cond.methodLink RX0 53 yX0_bestNext, Cond.instanceMethod yX0_bestNext, Cond.selects RX0 yX0_bestNext yX0_bestNext, Cond.code yX0_bestNext cX0_bestNext 7 (some .int), Cond.methodLink RX0 57 yX0_costsBy, Cond.instanceMethod yX0_costsBy, Cond.selects RX0 yX0_costsBy yX0_costsBy, Cond.code yX0_costsBy cX0_costsBy 6 (some .int), Cond.fieldLink RX0 18 "InkPress$Jobs" "washes" "[I", Cond.fieldLink RX0 11 "InkPress$Jobs" "colours" "[I", Cond.fieldLink RX0 15 "InkPress$Jobs" "papers" "[I", Cond.methodLink RX0 50 yX0_walk, Cond.instanceMethod yX0_walk, Cond.selects RX0 yX0_walk yX0_walk, Cond.code yX0_walk cX0_walk 5 none]
def wsX7_orderAt : List Cond := .code yX7_orderAt cX7_orderAt 2 (some .int) :: ((wsX7_orderAt_r1 ++ wsX7_orderAt_r2) ++ wsX70 ++ wsX00)
def wsX8_begin : List Cond := .code yX8_begin cX8_begin 2 none :: ([.fieldLink RX8 20 "InkPressModel" "key" "[I", .fieldLink RX8 23 "InkPressModel" "cover" "[I", .fieldLink RX8 26 "InkPressModel" "target" "[I", .fieldLink RX8 29 "InkPressModel" "ink" "[I", .fieldLink RX8 81 "InkPressModel" "sheets" "I", .fieldLink RX8 84 "InkPressModel" "goodMany" "I", .fieldLink RX8 87 "InkPressModel" "together" "I", .fieldLink RX8 39 "InkPressModel" "start" "I", .fieldLink RX8 90 "InkPressModel" "fed" "I", .fieldLink RX8 93 "InkPressModel" "paper" "I", .fieldLink RX8 96 "InkPressModel" "bars" "I", .fieldLink RX8 99 "InkPressModel" "steers" "Z"] ++ wsX80)
def wsX8_init_r1 : List Cond := [Cond.methodLink RX8 1 objectInit, Cond.instanceMethod objectInit, Cond.code objectInit ⟨#[0xb1]⟩ 1 none, Cond.fieldLink RX8 7 "InkPressModel" "zones" "I", Cond.fieldLink RX8 13 "InkPressModel" "rollers" "I", Cond.arrayClass .int, Cond.fieldLink RX8 16 "InkPressModel" "rules" "[I", Cond.fieldLink RX8 20 "InkPressModel" "key" "[I", Cond.fieldLink RX8 23 "InkPressModel" "cover" "[I", Cond.fieldLink RX8 26 "InkPressModel" "target" "[I", Cond.fieldLink RX8 29 "InkPressModel" "ink" "[I", Cond.fieldLink RX8 32 "InkPressModel" "density" "[I", Cond.arrayClass .boolean, Cond.fieldLink RX8 35 "InkPressModel" "isGood" "[Z", Cond.fieldLink RX8 39 "InkPressModel" "start" "I", Cond.fieldLink RX8 42 "InkPressModel" "aside" "[I", Cond.fieldLink RX8 45 "InkPressModel" "pastCover" "[I", Cond.fieldLink RX8 48 "InkPressModel" "pastKey" "[I", Cond.fieldLink RX8 51 "InkPressModel" "markX" "[I", Cond.fieldLink RX8 54 "InkPressModel" "markY" "[I", Cond.fieldLink RX8 57 "InkPressModel" "markDx" "[I", Cond.fieldLink RX8 60 "InkPressModel" "markDy" "[I", Cond.fieldLink RX8 63 "InkPressModel" "colour" "[I", Cond.fieldLink RX8 66 "InkPressModel" "sheetOf" "[I"]
def wsX8_init_r2 : List Cond := [Cond.fieldLink RX8 69 "InkPressModel" "washes" "[I", Cond.fieldLink RX8 72 "InkPressModel" "row" "[I", Cond.fieldLink RX8 75 "InkPressModel" "best" "[I", Cond.methodLink RX8 78 yX8_begin, Cond.instanceMethod yX8_begin, Cond.selects RX8 yX8_begin yX8_begin, Cond.initialized RX8, Cond.code yX8_begin cX8_begin 2 none, Cond.fieldLink RX8 81 "InkPressModel" "sheets" "I", Cond.fieldLink RX8 84 "InkPressModel" "goodMany" "I", Cond.fieldLink RX8 87 "InkPressModel" "together" "I", Cond.fieldLink RX8 90 "InkPressModel" "fed" "I", Cond.fieldLink RX8 93 "InkPressModel" "paper" "I", Cond.fieldLink RX8 96 "InkPressModel" "bars" "I", Cond.fieldLink RX8 99 "InkPressModel" "steers" "Z"]
def wsX8_init : List Cond := .code yX8_init cX8_init 3 none :: ((wsX8_init_r1 ++ wsX8_init_r2) ++ wsX80)
def wsX8_in : List Cond := .code yX8_in cX8_in 6 (some .boolean) :: ([])
def wsX8_isZone : List Cond := .code yX8_isZone cX8_isZone 2 (some .boolean) :: ([.fieldLink RX8 7 "InkPressModel" "zones" "I", .methodLink RX8 103 yX8_in, .static yX8_in, .initialized RX8, .code yX8_in cX8_in 6 (some .boolean)] ++ wsX80)
def wsX8_press_r1 : List Cond := [Cond.constantLong RX8 107 (2), Cond.constantLong RX8 109 (8), Cond.constantLong RX8 111 (5), Cond.fieldLink RX8 7 "InkPressModel" "zones" "I", Cond.fieldLink RX8 13 "InkPressModel" "rollers" "I", Cond.methodLink RX8 103 yX8_in, Cond.static yX8_in, Cond.initialized RX8, Cond.code yX8_in cX8_in 6 (some .boolean), Cond.methodLink RX8 78 yX8_begin, Cond.instanceMethod yX8_begin, Cond.selects RX8 yX8_begin yX8_begin, Cond.code yX8_begin cX8_begin 2 none, Cond.fieldLink RX8 20 "InkPressModel" "key" "[I", Cond.fieldLink RX8 23 "InkPressModel" "cover" "[I", Cond.fieldLink RX8 26 "InkPressModel" "target" "[I", Cond.fieldLink RX8 29 "InkPressModel" "ink" "[I", Cond.fieldLink RX8 81 "InkPressModel" "sheets" "I", Cond.fieldLink RX8 84 "InkPressModel" "goodMany" "I", Cond.fieldLink RX8 87 "InkPressModel" "together" "I", Cond.fieldLink RX8 39 "InkPressModel" "start" "I", Cond.fieldLink RX8 90 "InkPressModel" "fed" "I", Cond.fieldLink RX8 93 "InkPressModel" "paper" "I", Cond.fieldLink RX8 96 "InkPressModel" "bars" "I"]
def wsX8_press_r2 : List Cond := [Cond.fieldLink RX8 99 "InkPressModel" "steers" "Z"]
def wsX8_press : List Cond := .code yX8_press cX8_press 3 (some .int) :: ((wsX8_press_r1 ++ wsX8_press_r2) ++ wsX80)
def wsX8_mostOf : List Cond := .code yX8_mostOf cX8_mostOf 1 (some .int) :: ([])
def wsX8_rule : List Cond := .code yX8_rule cX8_rule 4 (some .int) :: ([.constantLong RX8 109 (8), .constant RX8 113 (-1000001), .constant RX8 118 (-1000002), .fieldLink RX8 16 "InkPressModel" "rules" "[I", .methodLink RX8 103 yX8_in, .static yX8_in, .initialized RX8, .code yX8_in cX8_in 6 (some .boolean), .methodLink RX8 114 yX8_mostOf, .static yX8_mostOf, .code yX8_mostOf cX8_mostOf 1 (some .int)] ++ wsX80)
def wsX8_set : List Cond := .code yX8_set cX8_set 5 (some .int) :: ([.constantLong RX8 107 (2), .constantLong RX8 123 (1000), .constantLong RX8 125 (100), .fieldLink RX8 20 "InkPressModel" "key" "[I", .fieldLink RX8 23 "InkPressModel" "cover" "[I", .fieldLink RX8 26 "InkPressModel" "target" "[I", .methodLink RX8 119 yX8_isZone, .instanceMethod yX8_isZone, .selects RX8 yX8_isZone yX8_isZone, .initialized RX8, .code yX8_isZone cX8_isZone 2 (some .boolean), .fieldLink RX8 7 "InkPressModel" "zones" "I", .methodLink RX8 103 yX8_in, .static yX8_in, .code yX8_in cX8_in 6 (some .boolean)] ++ wsX80)
def wsX8_densityOf : List Cond := .code yX8_densityOf cX8_densityOf 3 (some .int) :: ([.fieldLink RX8 32 "InkPressModel" "density" "[I"] ++ wsX80)
def wsX8_zone : List Cond := .code yX8_zone cX8_zone 3 (some .int) :: ([.fieldLink RX8 20 "InkPressModel" "key" "[I", .fieldLink RX8 23 "InkPressModel" "cover" "[I", .fieldLink RX8 26 "InkPressModel" "target" "[I", .fieldLink RX8 81 "InkPressModel" "sheets" "I", .methodLink RX8 119 yX8_isZone, .instanceMethod yX8_isZone, .selects RX8 yX8_isZone yX8_isZone, .initialized RX8, .code yX8_isZone cX8_isZone 2 (some .boolean), .fieldLink RX8 7 "InkPressModel" "zones" "I", .methodLink RX8 103 yX8_in, .static yX8_in, .code yX8_in cX8_in 6 (some .boolean), .methodLink RX8 127 yX8_densityOf, .instanceMethod yX8_densityOf, .selects RX8 yX8_densityOf yX8_densityOf, .code yX8_densityOf cX8_densityOf 3 (some .int), .fieldLink RX8 32 "InkPressModel" "density" "[I"] ++ wsX80)
def wsX8_ink : List Cond := .code yX8_ink cX8_ink 3 (some .int) :: ([.fieldLink RX8 13 "InkPressModel" "rollers" "I", .fieldLink RX8 29 "InkPressModel" "ink" "[I", .methodLink RX8 103 yX8_in, .static yX8_in, .initialized RX8, .code yX8_in cX8_in 6 (some .boolean), .methodLink RX8 119 yX8_isZone, .instanceMethod yX8_isZone, .selects RX8 yX8_isZone yX8_isZone, .code yX8_isZone cX8_isZone 2 (some .boolean), .fieldLink RX8 7 "InkPressModel" "zones" "I"] ++ wsX80)
def wsX8_drift : List Cond := .code yX8_drift cX8_drift 4 none :: ([.fieldLink RX8 7 "InkPressModel" "zones" "I", .fieldLink RX8 42 "InkPressModel" "aside" "[I", .fieldLink RX8 29 "InkPressModel" "ink" "[I", .fieldLink RX8 16 "InkPressModel" "rules" "[I"] ++ wsX80)
def wsX8_held : List Cond := .code yX8_held cX8_held 3 (some .int) :: ([])
def wsX8_steerKeys : List Cond := .code yX8_steerKeys cX8_steerKeys 3 none :: ([.fieldLink RX8 7 "InkPressModel" "zones" "I", .fieldLink RX8 26 "InkPressModel" "target" "[I", .fieldLink RX8 81 "InkPressModel" "sheets" "I", .fieldLink RX8 16 "InkPressModel" "rules" "[I", .fieldLink RX8 20 "InkPressModel" "key" "[I", .methodLink RX8 127 yX8_densityOf, .instanceMethod yX8_densityOf, .selects RX8 yX8_densityOf yX8_densityOf, .initialized RX8, .code yX8_densityOf cX8_densityOf 3 (some .int), .fieldLink RX8 32 "InkPressModel" "density" "[I", .methodLink RX8 140 yX8_held, .static yX8_held, .code yX8_held cX8_held 3 (some .int)] ++ wsX80)
def wsX8_sheet_r1 : List Cond := [Cond.fieldLink RX8 7 "InkPressModel" "zones" "I", Cond.fieldLink RX8 29 "InkPressModel" "ink" "[I", Cond.fieldLink RX8 20 "InkPressModel" "key" "[I", Cond.fieldLink RX8 16 "InkPressModel" "rules" "[I", Cond.fieldLink RX8 90 "InkPressModel" "fed" "I", Cond.fieldLink RX8 13 "InkPressModel" "rollers" "I", Cond.constantLong RX8 125 (100), Cond.fieldLink RX8 23 "InkPressModel" "cover" "[I", Cond.constantLong RX8 135 (10000), Cond.fieldLink RX8 93 "InkPressModel" "paper" "I", Cond.fieldLink RX8 96 "InkPressModel" "bars" "I", Cond.fieldLink RX8 32 "InkPressModel" "density" "[I", Cond.fieldLink RX8 81 "InkPressModel" "sheets" "I", Cond.fieldLink RX8 26 "InkPressModel" "target" "[I", Cond.fieldLink RX8 35 "InkPressModel" "isGood" "[Z", Cond.fieldLink RX8 84 "InkPressModel" "goodMany" "I", Cond.fieldLink RX8 87 "InkPressModel" "together" "I", Cond.fieldLink RX8 39 "InkPressModel" "start" "I", Cond.fieldLink RX8 99 "InkPressModel" "steers" "Z", Cond.methodLink RX8 131 yX8_drift, Cond.instanceMethod yX8_drift, Cond.selects RX8 yX8_drift yX8_drift, Cond.initialized RX8, Cond.code yX8_drift cX8_drift 4 none]
def wsX8_sheet_r2 : List Cond := [Cond.fieldLink RX8 42 "InkPressModel" "aside" "[I", Cond.methodLink RX8 137 yX8_steerKeys, Cond.instanceMethod yX8_steerKeys, Cond.selects RX8 yX8_steerKeys yX8_steerKeys, Cond.code yX8_steerKeys cX8_steerKeys 3 none, Cond.methodLink RX8 127 yX8_densityOf, Cond.instanceMethod yX8_densityOf, Cond.selects RX8 yX8_densityOf yX8_densityOf, Cond.code yX8_densityOf cX8_densityOf 3 (some .int), Cond.methodLink RX8 140 yX8_held, Cond.static yX8_held, Cond.code yX8_held cX8_held 3 (some .int)]
def wsX8_sheet : List Cond := .code yX8_sheet cX8_sheet 8 none :: ((wsX8_sheet_r1 ++ wsX8_sheet_r2) ++ wsX80)
def wsX8_print_r1 : List Cond := [Cond.constantLong RX8 144 (200), Cond.fieldLink RX8 81 "InkPressModel" "sheets" "I", Cond.methodLink RX8 103 yX8_in, Cond.static yX8_in, Cond.initialized RX8, Cond.code yX8_in cX8_in 6 (some .boolean), Cond.methodLink RX8 146 yX8_sheet, Cond.instanceMethod yX8_sheet, Cond.selects RX8 yX8_sheet yX8_sheet, Cond.code yX8_sheet cX8_sheet 8 none, Cond.fieldLink RX8 7 "InkPressModel" "zones" "I", Cond.fieldLink RX8 29 "InkPressModel" "ink" "[I", Cond.fieldLink RX8 20 "InkPressModel" "key" "[I", Cond.fieldLink RX8 16 "InkPressModel" "rules" "[I", Cond.fieldLink RX8 90 "InkPressModel" "fed" "I", Cond.fieldLink RX8 13 "InkPressModel" "rollers" "I", Cond.constantLong RX8 125 (100), Cond.fieldLink RX8 23 "InkPressModel" "cover" "[I", Cond.constantLong RX8 135 (10000), Cond.fieldLink RX8 93 "InkPressModel" "paper" "I", Cond.fieldLink RX8 96 "InkPressModel" "bars" "I", Cond.fieldLink RX8 32 "InkPressModel" "density" "[I", Cond.fieldLink RX8 26 "InkPressModel" "target" "[I", Cond.fieldLink RX8 35 "InkPressModel" "isGood" "[Z"]
def wsX8_print_r2 : List Cond := [Cond.fieldLink RX8 84 "InkPressModel" "goodMany" "I", Cond.fieldLink RX8 87 "InkPressModel" "together" "I", Cond.fieldLink RX8 39 "InkPressModel" "start" "I", Cond.fieldLink RX8 99 "InkPressModel" "steers" "Z", Cond.methodLink RX8 131 yX8_drift, Cond.instanceMethod yX8_drift, Cond.selects RX8 yX8_drift yX8_drift, Cond.code yX8_drift cX8_drift 4 none, Cond.fieldLink RX8 42 "InkPressModel" "aside" "[I", Cond.methodLink RX8 137 yX8_steerKeys, Cond.instanceMethod yX8_steerKeys, Cond.selects RX8 yX8_steerKeys yX8_steerKeys, Cond.code yX8_steerKeys cX8_steerKeys 3 none, Cond.methodLink RX8 127 yX8_densityOf, Cond.instanceMethod yX8_densityOf, Cond.selects RX8 yX8_densityOf yX8_densityOf, Cond.code yX8_densityOf cX8_densityOf 3 (some .int), Cond.methodLink RX8 140 yX8_held, Cond.static yX8_held, Cond.code yX8_held cX8_held 3 (some .int)]
def wsX8_print : List Cond := .code yX8_print cX8_print 3 (some .int) :: ((wsX8_print_r1 ++ wsX8_print_r2) ++ wsX80)
def wsX8_steer : List Cond := .code yX8_steer cX8_steer 3 (some .int) :: ([.fieldLink RX8 99 "InkPressModel" "steers" "Z"] ++ wsX80)
def wsX8_good : List Cond := .code yX8_good cX8_good 2 (some .int) :: ([.fieldLink RX8 81 "InkPressModel" "sheets" "I", .fieldLink RX8 35 "InkPressModel" "isGood" "[Z", .methodLink RX8 103 yX8_in, .static yX8_in, .initialized RX8, .code yX8_in cX8_in 6 (some .boolean)] ++ wsX80)
def wsX8_density : List Cond := .code yX8_density cX8_density 3 (some .int) :: ([.fieldLink RX8 81 "InkPressModel" "sheets" "I", .methodLink RX8 103 yX8_in, .static yX8_in, .initialized RX8, .code yX8_in cX8_in 6 (some .boolean), .methodLink RX8 119 yX8_isZone, .instanceMethod yX8_isZone, .selects RX8 yX8_isZone yX8_isZone, .code yX8_isZone cX8_isZone 2 (some .boolean), .fieldLink RX8 7 "InkPressModel" "zones" "I", .methodLink RX8 127 yX8_densityOf, .instanceMethod yX8_densityOf, .selects RX8 yX8_densityOf yX8_densityOf, .code yX8_densityOf cX8_densityOf 3 (some .int), .fieldLink RX8 32 "InkPressModel" "density" "[I"] ++ wsX80)
def wsX8_past : List Cond := .code yX8_past cX8_past 3 (some .int) :: ([.constantLong RX8 125 (100), .fieldLink RX8 149 "InkPressModel" "pastMany" "I", .fieldLink RX8 45 "InkPressModel" "pastCover" "[I", .fieldLink RX8 48 "InkPressModel" "pastKey" "[I", .methodLink RX8 103 yX8_in, .static yX8_in, .initialized RX8, .code yX8_in cX8_in 6 (some .boolean)] ++ wsX80)
def wsX8_presetOf : List Cond := .code yX8_presetOf cX8_presetOf 14 (some .int) :: ([.fieldLink RX8 149 "InkPressModel" "pastMany" "I", .fieldLink RX8 45 "InkPressModel" "pastCover" "[I", .fieldLink RX8 48 "InkPressModel" "pastKey" "[I", .constantLong RX8 125 (100)] ++ wsX80)
def wsX8_preset : List Cond := .code yX8_preset cX8_preset 2 (some .int) :: ([.constantLong RX8 125 (100), .fieldLink RX8 149 "InkPressModel" "pastMany" "I", .methodLink RX8 103 yX8_in, .static yX8_in, .initialized RX8, .code yX8_in cX8_in 6 (some .boolean), .methodLink RX8 152 yX8_presetOf, .instanceMethod yX8_presetOf, .selects RX8 yX8_presetOf yX8_presetOf, .code yX8_presetOf cX8_presetOf 14 (some .int), .fieldLink RX8 45 "InkPressModel" "pastCover" "[I", .fieldLink RX8 48 "InkPressModel" "pastKey" "[I"] ++ wsX80)
def wsX8_presets : List Cond := .code yX8_presets cX8_presets 4 (some .int) :: ([.fieldLink RX8 149 "InkPressModel" "pastMany" "I", .fieldLink RX8 7 "InkPressModel" "zones" "I", .fieldLink RX8 23 "InkPressModel" "cover" "[I", .fieldLink RX8 20 "InkPressModel" "key" "[I", .methodLink RX8 152 yX8_presetOf, .instanceMethod yX8_presetOf, .selects RX8 yX8_presetOf yX8_presetOf, .initialized RX8, .code yX8_presetOf cX8_presetOf 14 (some .int), .fieldLink RX8 45 "InkPressModel" "pastCover" "[I", .fieldLink RX8 48 "InkPressModel" "pastKey" "[I", .constantLong RX8 125 (100)] ++ wsX80)
def wsX8_told : List Cond := .code yX8_told cX8_told 4 (some .int) :: ([.fieldLink RX8 29 "InkPressModel" "ink" "[I", .fieldLink RX8 81 "InkPressModel" "sheets" "I", .fieldLink RX8 84 "InkPressModel" "goodMany" "I", .fieldLink RX8 39 "InkPressModel" "start" "I", .fieldLink RX8 90 "InkPressModel" "fed" "I", .fieldLink RX8 93 "InkPressModel" "paper" "I", .fieldLink RX8 96 "InkPressModel" "bars" "I", .fieldLink RX8 99 "InkPressModel" "steers" "Z", .fieldLink RX8 149 "InkPressModel" "pastMany" "I", .constant RX8 118 (-1000002)] ++ wsX80)
def wsX8_isPlace : List Cond := .code yX8_isPlace cX8_isPlace 3 (some .boolean) :: ([.methodLink RX8 103 yX8_in, .static yX8_in, .initialized RX8, .code yX8_in cX8_in 6 (some .boolean)])
def wsX8_mark : List Cond := .code yX8_mark cX8_mark 5 (some .int) :: ([.fieldLink RX8 159 "InkPressModel" "marks" "I", .fieldLink RX8 51 "InkPressModel" "markX" "[I", .fieldLink RX8 54 "InkPressModel" "markY" "[I", .fieldLink RX8 57 "InkPressModel" "markDx" "[I", .fieldLink RX8 60 "InkPressModel" "markDy" "[I", .methodLink RX8 155 yX8_isPlace, .static yX8_isPlace, .initialized RX8, .code yX8_isPlace cX8_isPlace 3 (some .boolean), .methodLink RX8 103 yX8_in, .static yX8_in, .code yX8_in cX8_in 6 (some .boolean)] ++ wsX80)
def wsX8_clear : List Cond := .code yX8_clear cX8_clear 2 (some .int) :: ([.fieldLink RX8 159 "InkPressModel" "marks" "I"] ++ wsX80)
def wsX8_findFit : List Cond := .code yX8_findFit cX8_findFit 16 (some .boolean) :: ([.fieldLink RX8 159 "InkPressModel" "marks" "I", .fieldLink RX8 51 "InkPressModel" "markX" "[I", .fieldLink RX8 54 "InkPressModel" "markY" "[I", .fieldLink RX8 57 "InkPressModel" "markDx" "[I", .fieldLink RX8 60 "InkPressModel" "markDy" "[I", .fieldLink RX8 162 "InkPressModel" "all" "J", .fieldLink RX8 166 "InkPressModel" "stretch" "J", .fieldLink RX8 169 "InkPressModel" "turn" "J", .fieldLink RX8 172 "InkPressModel" "across" "J", .fieldLink RX8 175 "InkPressModel" "above" "J"] ++ wsX80)
def wsX8_lowest : List Cond := .code yX8_lowest cX8_lowest 11 (some .long) :: ([])
def wsX8_fit : List Cond := .code yX8_fit cX8_fit 3 (some .long) :: ([.constantLong RX8 178 (3), .constantLong RX8 180 (-1000002), .constantLong RX8 186 (-1000005), .fieldLink RX8 166 "InkPressModel" "stretch" "J", .fieldLink RX8 162 "InkPressModel" "all" "J", .fieldLink RX8 169 "InkPressModel" "turn" "J", .fieldLink RX8 172 "InkPressModel" "across" "J", .fieldLink RX8 159 "InkPressModel" "marks" "I", .fieldLink RX8 175 "InkPressModel" "above" "J", .methodLink RX8 103 yX8_in, .static yX8_in, .initialized RX8, .code yX8_in cX8_in 6 (some .boolean), .methodLink RX8 182 yX8_findFit, .instanceMethod yX8_findFit, .selects RX8 yX8_findFit yX8_findFit, .code yX8_findFit cX8_findFit 16 (some .boolean), .fieldLink RX8 51 "InkPressModel" "markX" "[I", .fieldLink RX8 54 "InkPressModel" "markY" "[I", .fieldLink RX8 57 "InkPressModel" "markDx" "[I", .fieldLink RX8 60 "InkPressModel" "markDy" "[I", .methodLink RX8 188 yX8_lowest, .static yX8_lowest, .code yX8_lowest cX8_lowest 11 (some .long)] ++ wsX80)
def wsX8_off : List Cond := .code yX8_off cX8_off 7 (some .int) :: ([.fieldLink RX8 159 "InkPressModel" "marks" "I", .constant RX8 113 (-1000001), .constant RX8 118 (-1000002), .constant RX8 192 (-1000005), .fieldLink RX8 162 "InkPressModel" "all" "J", .fieldLink RX8 57 "InkPressModel" "markDx" "[I", .fieldLink RX8 166 "InkPressModel" "stretch" "J", .fieldLink RX8 51 "InkPressModel" "markX" "[I", .fieldLink RX8 169 "InkPressModel" "turn" "J", .fieldLink RX8 54 "InkPressModel" "markY" "[I", .fieldLink RX8 172 "InkPressModel" "across" "J", .fieldLink RX8 60 "InkPressModel" "markDy" "[I", .fieldLink RX8 175 "InkPressModel" "above" "J", .constantLong RX8 123 (1000), .methodLink RX8 103 yX8_in, .static yX8_in, .initialized RX8, .code yX8_in cX8_in 6 (some .boolean), .methodLink RX8 182 yX8_findFit, .instanceMethod yX8_findFit, .selects RX8 yX8_findFit yX8_findFit, .code yX8_findFit cX8_findFit 16 (some .boolean)] ++ wsX80)
def wsX8_job : List Cond := .code yX8_job cX8_job 3 (some .int) :: ([.constantLong RX8 178 (3), .constantLong RX8 111 (5), .fieldLink RX8 193 "InkPressModel" "jobs" "I", .fieldLink RX8 63 "InkPressModel" "colour" "[I", .fieldLink RX8 66 "InkPressModel" "sheetOf" "[I", .methodLink RX8 103 yX8_in, .static yX8_in, .initialized RX8, .code yX8_in cX8_in 6 (some .boolean)] ++ wsX80)
def wsX8_forget : List Cond := .code yX8_forget cX8_forget 2 (some .int) :: ([.fieldLink RX8 193 "InkPressModel" "jobs" "I"] ++ wsX80)
def wsX8_wash : List Cond := .code yX8_wash cX8_wash 5 (some .int) :: ([.constantLong RX8 178 (3), .constantLong RX8 125 (100), .fieldLink RX8 69 "InkPressModel" "washes" "[I", .methodLink RX8 103 yX8_in, .static yX8_in, .initialized RX8, .code yX8_in cX8_in 6 (some .boolean)] ++ wsX80)
def wsX8_layRow : List Cond := .code yX8_layRow cX8_layRow 9 none :: ([.fieldLink RX8 193 "InkPressModel" "jobs" "I", .fieldLink RX8 72 "InkPressModel" "row" "[I"] ++ wsX80)
def wsX8_costOf : List Cond := .code yX8_costOf cX8_costOf 5 (some .int) :: ([.fieldLink RX8 193 "InkPressModel" "jobs" "I", .fieldLink RX8 69 "InkPressModel" "washes" "[I", .fieldLink RX8 63 "InkPressModel" "colour" "[I", .fieldLink RX8 72 "InkPressModel" "row" "[I", .fieldLink RX8 66 "InkPressModel" "sheetOf" "[I"] ++ wsX80)
def wsX8_order : List Cond := .code yX8_order cX8_order 6 (some .int) :: ([.fieldLink RX8 193 "InkPressModel" "jobs" "I", .fieldLink RX8 75 "InkPressModel" "best" "[I", .fieldLink RX8 72 "InkPressModel" "row" "[I", .methodLink RX8 196 yX8_layRow, .instanceMethod yX8_layRow, .selects RX8 yX8_layRow yX8_layRow, .initialized RX8, .code yX8_layRow cX8_layRow 9 none, .methodLink RX8 200 yX8_costOf, .instanceMethod yX8_costOf, .selects RX8 yX8_costOf yX8_costOf, .code yX8_costOf cX8_costOf 5 (some .int), .fieldLink RX8 69 "InkPressModel" "washes" "[I", .fieldLink RX8 63 "InkPressModel" "colour" "[I", .fieldLink RX8 66 "InkPressModel" "sheetOf" "[I"] ++ wsX80)
def wsX8_orderAt : List Cond := .code yX8_orderAt cX8_orderAt 3 (some .int) :: ([.fieldLink RX8 193 "InkPressModel" "jobs" "I", .fieldLink RX8 75 "InkPressModel" "best" "[I", .methodLink RX8 103 yX8_in, .static yX8_in, .initialized RX8, .code yX8_in cX8_in 6 (some .boolean), .methodLink RX8 204 yX8_order, .instanceMethod yX8_order, .selects RX8 yX8_order yX8_order, .code yX8_order cX8_order 6 (some .int), .fieldLink RX8 72 "InkPressModel" "row" "[I", .methodLink RX8 196 yX8_layRow, .instanceMethod yX8_layRow, .selects RX8 yX8_layRow yX8_layRow, .code yX8_layRow cX8_layRow 9 none, .methodLink RX8 200 yX8_costOf, .instanceMethod yX8_costOf, .selects RX8 yX8_costOf yX8_costOf, .code yX8_costOf cX8_costOf 5 (some .int), .fieldLink RX8 69 "InkPressModel" "washes" "[I", .fieldLink RX8 63 "InkPressModel" "colour" "[I", .fieldLink RX8 66 "InkPressModel" "sheetOf" "[I"] ++ wsX80)
def wsJ9_abs_0f7a4 : List Cond := .code yJ9_abs_0f7a4 cJ9_abs_0f7a4 1 (some .int) :: ([])
def wsJ9_abs_067f4 : List Cond := .code yJ9_abs_067f4 cJ9_abs_067f4 2 (some .long) :: ([])
def wsJ9_max_f86c9 : List Cond := .code yJ9_max_f86c9 cJ9_max_f86c9 4 (some .long) :: ([])
def wsJ9_min_f86c9 : List Cond := .code yJ9_min_f86c9 cJ9_min_f86c9 4 (some .long) :: ([])
def wsL_law_r1 : List Cond := [Cond.classLink RL 7 RX7, Cond.instantiable RX7 8, Cond.initialized RX7, Cond.classLink RL 10 RX8, Cond.instantiable RX8 37, Cond.initialized RX8, Cond.methodLink RL 9 yX7_init, Cond.instanceMethod yX7_init, Cond.code yX7_init cX7_init 1 none, Cond.methodLink RX7 1 objectInit, Cond.instanceMethod objectInit, Cond.code objectInit ⟨#[0xb1]⟩ 1 none, Cond.classLink RX7 7 RX3, Cond.instantiable RX3 1, Cond.initialized RX3, Cond.fieldLink RX7 10 "InkPress" "rules" "LInkPress$Rules;", Cond.classLink RX7 16 RX6, Cond.instantiable RX6 2, Cond.initialized RX6, Cond.fieldLink RX7 19 "InkPress" "zones" "LInkPress$Zones;", Cond.classLink RX7 23 RX5, Cond.instantiable RX5 6, Cond.initialized RX5, Cond.fieldLink RX7 26 "InkPress" "train" "LInkPress$Train;"]
def wsL_law_r2 : List Cond := [Cond.classLink RX7 30 RX4, Cond.instantiable RX4 6, Cond.initialized RX4, Cond.fieldLink RX7 33 "InkPress" "sheets" "LInkPress$SheetLog;", Cond.classLink RX7 37 RX2, Cond.instantiable RX2 5, Cond.initialized RX2, Cond.fieldLink RX7 40 "InkPress" "pastJobs" "LInkPress$PastJobs;", Cond.classLink RX7 44 RX1, Cond.instantiable RX1 12, Cond.initialized RX1, Cond.fieldLink RX7 47 "InkPress" "marks" "LInkPress$Marks;", Cond.classLink RX7 51 RX0, Cond.instantiable RX0 7, Cond.initialized RX0, Cond.fieldLink RX7 54 "InkPress" "jobs" "LInkPress$Jobs;", Cond.fieldLink RX7 58 "InkPress" "steering" "Z", Cond.methodLink RX7 9 yX3_init, Cond.instanceMethod yX3_init, Cond.code yX3_init cX3_init 1 none, Cond.methodLink RX3 1 objectInit, Cond.fieldLink RX3 7 "InkPress$Rules" "FIRST" "[I", Cond.methodLink RX3 13 ⟨"[I", "clone", "()Ljava/lang/Object;"⟩, Cond.sameMethod "[I" "java/lang/Object" "clone" "()Ljava/lang/Object;"]
def wsL_law_r3 : List Cond := [Cond.native ⟨"java/lang/Object", "clone", "()Ljava/lang/Object;"⟩, Cond.instanceMethod ⟨"java/lang/Object", "clone", "()Ljava/lang/Object;"⟩, Cond.selects "[I" ⟨"[I", "clone", "()Ljava/lang/Object;"⟩ ⟨"java/lang/Object", "clone", "()Ljava/lang/Object;"⟩, Cond.classLink RX3 14 "[I", Cond.fieldLink RX3 18 "InkPress$Rules" "values" "[I", Cond.methodLink RX7 18 yX6_init, Cond.instanceMethod yX6_init, Cond.code yX6_init cX6_init 1 none, Cond.methodLink RX6 3 objectInit, Cond.fieldLink RX6 9 "InkPress$Zones" "FIRST" "[I", Cond.arrayClass .int, Cond.fieldLink RX6 15 "InkPress$Zones" "values" "[I", Cond.methodLink RX6 18 yX6_restart, Cond.instanceMethod yX6_restart, Cond.selects RX6 yX6_restart yX6_restart, Cond.code yX6_restart cX6_restart 3 none, Cond.fieldLink RX6 22 "InkPress$Zones" "count" "I", Cond.methodLink RX7 25 yX5_init, Cond.instanceMethod yX5_init, Cond.code yX5_init cX5_init 1 none, Cond.methodLink RX5 3 objectInit, Cond.fieldLink RX5 9 "InkPress$Train" "ink" "[I", Cond.methodLink RX5 15 yX5_restart, Cond.instanceMethod yX5_restart]
def wsL_law_r4 : List Cond := [Cond.selects RX5 yX5_restart yX5_restart, Cond.code yX5_restart cX5_restart 4 none, Cond.fieldLink RX5 19 "InkPress$Train" "zones" "I", Cond.fieldLink RX5 23 "InkPress$Train" "rollers" "I", Cond.fieldLink RX5 26 "InkPress$Train" "fed" "I", Cond.fieldLink RX5 29 "InkPress$Train" "onPaper" "I", Cond.fieldLink RX5 32 "InkPress$Train" "onBars" "I", Cond.methodLink RX7 32 yX4_init, Cond.instanceMethod yX4_init, Cond.code yX4_init cX4_init 1 none, Cond.methodLink RX4 3 objectInit, Cond.fieldLink RX4 9 "InkPress$SheetLog" "densities" "[I", Cond.arrayClass .boolean, Cond.fieldLink RX4 15 "InkPress$SheetLog" "good" "[Z", Cond.methodLink RX4 19 yX4_restart, Cond.instanceMethod yX4_restart, Cond.selects RX4 yX4_restart yX4_restart, Cond.code yX4_restart cX4_restart 1 none, Cond.fieldLink RX4 22 "InkPress$SheetLog" "count" "I", Cond.fieldLink RX4 26 "InkPress$SheetLog" "goodCount" "I", Cond.fieldLink RX4 29 "InkPress$SheetLog" "goodInARow" "I", Cond.fieldLink RX4 32 "InkPress$SheetLog" "start" "I", Cond.methodLink RX7 39 yX2_init, Cond.instanceMethod yX2_init]
def wsL_law_r5 : List Cond := [Cond.code yX2_init cX2_init 1 none, Cond.methodLink RX2 3 objectInit, Cond.fieldLink RX2 9 "InkPress$PastJobs" "count" "I", Cond.methodLink RX7 46 yX1_init, Cond.instanceMethod yX1_init, Cond.code yX1_init cX1_init 1 none, Cond.methodLink RX1 3 objectInit, Cond.fieldLink RX1 11 "InkPress$Marks" "x" "[I", Cond.fieldLink RX1 15 "InkPress$Marks" "y" "[I", Cond.fieldLink RX1 18 "InkPress$Marks" "dx" "[I", Cond.fieldLink RX1 21 "InkPress$Marks" "dy" "[I", Cond.methodLink RX7 53 yX0_init, Cond.instanceMethod yX0_init, Cond.code yX0_init cX0_init 2 none, Cond.methodLink RX0 5 objectInit, Cond.fieldLink RX0 11 "InkPress$Jobs" "colours" "[I", Cond.fieldLink RX0 15 "InkPress$Jobs" "papers" "[I", Cond.fieldLink RX0 18 "InkPress$Jobs" "washes" "[I", Cond.fieldLink RX0 21 "InkPress$Jobs" "costsToCome" "[I", Cond.fieldLink RX0 24 "InkPress$Jobs" "best" "[I", Cond.methodLink RL 12 yX8_init, Cond.instanceMethod yX8_init, Cond.code yX8_init cX8_init 3 none, Cond.methodLink RX8 1 objectInit]
def wsL_law_r6 : List Cond := [Cond.fieldLink RX8 7 "InkPressModel" "zones" "I", Cond.fieldLink RX8 13 "InkPressModel" "rollers" "I", Cond.fieldLink RX8 16 "InkPressModel" "rules" "[I", Cond.fieldLink RX8 20 "InkPressModel" "key" "[I", Cond.fieldLink RX8 23 "InkPressModel" "cover" "[I", Cond.fieldLink RX8 26 "InkPressModel" "target" "[I", Cond.fieldLink RX8 29 "InkPressModel" "ink" "[I", Cond.fieldLink RX8 32 "InkPressModel" "density" "[I", Cond.fieldLink RX8 35 "InkPressModel" "isGood" "[Z", Cond.fieldLink RX8 39 "InkPressModel" "start" "I", Cond.fieldLink RX8 42 "InkPressModel" "aside" "[I", Cond.fieldLink RX8 45 "InkPressModel" "pastCover" "[I", Cond.fieldLink RX8 48 "InkPressModel" "pastKey" "[I", Cond.fieldLink RX8 51 "InkPressModel" "markX" "[I", Cond.fieldLink RX8 54 "InkPressModel" "markY" "[I", Cond.fieldLink RX8 57 "InkPressModel" "markDx" "[I", Cond.fieldLink RX8 60 "InkPressModel" "markDy" "[I", Cond.fieldLink RX8 63 "InkPressModel" "colour" "[I", Cond.fieldLink RX8 66 "InkPressModel" "sheetOf" "[I", Cond.fieldLink RX8 69 "InkPressModel" "washes" "[I", Cond.fieldLink RX8 72 "InkPressModel" "row" "[I", Cond.fieldLink RX8 75 "InkPressModel" "best" "[I", Cond.methodLink RX8 78 yX8_begin, Cond.instanceMethod yX8_begin]
def wsL_law_r7 : List Cond := [Cond.selects RX8 yX8_begin yX8_begin, Cond.code yX8_begin cX8_begin 2 none, Cond.fieldLink RX8 81 "InkPressModel" "sheets" "I", Cond.fieldLink RX8 84 "InkPressModel" "goodMany" "I", Cond.fieldLink RX8 87 "InkPressModel" "together" "I", Cond.fieldLink RX8 90 "InkPressModel" "fed" "I", Cond.fieldLink RX8 93 "InkPressModel" "paper" "I", Cond.fieldLink RX8 96 "InkPressModel" "bars" "I", Cond.fieldLink RX8 99 "InkPressModel" "steers" "Z", Cond.methodLink RL 13 yX7_press, Cond.instanceMethod yX7_press, Cond.selects RX7 yX7_press yX7_press, Cond.code yX7_press cX7_press 3 (some .int), Cond.methodLink RX7 62 yX7_within, Cond.static yX7_within, Cond.code yX7_within cX7_within 3 (some .boolean), Cond.methodLink RX7 66 yX6_restart, Cond.methodLink RX7 70 yX5_restart, Cond.methodLink RX7 73 yX4_restart, Cond.methodLink RL 17 yX8_press, Cond.instanceMethod yX8_press, Cond.selects RX8 yX8_press yX8_press, Cond.code yX8_press cX8_press 3 (some .int), Cond.constantLong RX8 107 (2)]
def wsL_law_r8 : List Cond := [Cond.constantLong RX8 109 (8), Cond.constantLong RX8 111 (5), Cond.methodLink RX8 103 yX8_in, Cond.static yX8_in, Cond.code yX8_in cX8_in 6 (some .boolean), Cond.methodLink RL 18 yX7_rule, Cond.instanceMethod yX7_rule, Cond.selects RX7 yX7_rule yX7_rule, Cond.code yX7_rule cX7_rule 3 (some .int), Cond.constant RX7 79 (-1000001), Cond.constant RX7 84 (-1000002), Cond.methodLink RX7 75 yX3_has, Cond.instanceMethod yX3_has, Cond.selects RX3 yX3_has yX3_has, Cond.code yX3_has cX3_has 2 (some .boolean), Cond.methodLink RX7 80 yX3_allows, Cond.instanceMethod yX3_allows, Cond.selects RX3 yX3_allows yX3_allows, Cond.code yX3_allows cX3_allows 3 (some .boolean), Cond.fieldLink RX3 21 "InkPress$Rules" "LEAST" "[I", Cond.fieldLink RX3 24 "InkPress$Rules" "MOST" "[I", Cond.methodLink RX7 85 yX3_change, Cond.instanceMethod yX3_change, Cond.selects RX3 yX3_change yX3_change]
def wsL_law_r9 : List Cond := [Cond.code yX3_change cX3_change 4 (some .int), Cond.methodLink RL 21 yX8_rule, Cond.instanceMethod yX8_rule, Cond.selects RX8 yX8_rule yX8_rule, Cond.code yX8_rule cX8_rule 4 (some .int), Cond.constant RX8 113 (-1000001), Cond.constant RX8 118 (-1000002), Cond.methodLink RX8 114 yX8_mostOf, Cond.static yX8_mostOf, Cond.code yX8_mostOf cX8_mostOf 1 (some .int), Cond.methodLink RL 22 yX7_set, Cond.instanceMethod yX7_set, Cond.selects RX7 yX7_set yX7_set, Cond.code yX7_set cX7_set 4 (some .int), Cond.methodLink RX7 89 yX6_has, Cond.instanceMethod yX6_has, Cond.selects RX6 yX6_has yX6_has, Cond.code yX6_has cX6_has 2 (some .boolean), Cond.methodLink RX7 90 yX6_allows, Cond.instanceMethod yX6_allows, Cond.selects RX6 yX6_allows yX6_allows, Cond.code yX6_allows cX6_allows 3 (some .boolean), Cond.fieldLink RX6 26 "InkPress$Zones" "MOST" "[I", Cond.methodLink RX7 91 yX6_change]
def wsL_law_r10 : List Cond := [Cond.instanceMethod yX6_change, Cond.selects RX6 yX6_change yX6_change, Cond.code yX6_change cX6_change 6 (some .int), Cond.methodLink RL 26 yX8_set, Cond.instanceMethod yX8_set, Cond.selects RX8 yX8_set yX8_set, Cond.code yX8_set cX8_set 5 (some .int), Cond.constantLong RX8 123 (1000), Cond.constantLong RX8 125 (100), Cond.methodLink RX8 119 yX8_isZone, Cond.instanceMethod yX8_isZone, Cond.selects RX8 yX8_isZone yX8_isZone, Cond.code yX8_isZone cX8_isZone 2 (some .boolean), Cond.methodLink RL 27 yX7_zone, Cond.instanceMethod yX7_zone, Cond.selects RX7 yX7_zone yX7_zone, Cond.code yX7_zone cX7_zone 3 (some .int), Cond.methodLink RX7 94 yX4_latestDensity, Cond.instanceMethod yX4_latestDensity, Cond.selects RX4 yX4_latestDensity yX4_latestDensity, Cond.code yX4_latestDensity cX4_latestDensity 2 (some .int), Cond.methodLink RX4 35 yX4_densityOn, Cond.instanceMethod yX4_densityOn, Cond.selects RX4 yX4_densityOn yX4_densityOn]
def wsL_law_r11 : List Cond := [Cond.code yX4_densityOn cX4_densityOn 3 (some .int), Cond.methodLink RX7 98 yX6_valueOf, Cond.instanceMethod yX6_valueOf, Cond.selects RX6 yX6_valueOf yX6_valueOf, Cond.code yX6_valueOf cX6_valueOf 3 (some .int), Cond.methodLink RL 30 yX8_zone, Cond.instanceMethod yX8_zone, Cond.selects RX8 yX8_zone yX8_zone, Cond.code yX8_zone cX8_zone 3 (some .int), Cond.methodLink RX8 127 yX8_densityOf, Cond.instanceMethod yX8_densityOf, Cond.selects RX8 yX8_densityOf yX8_densityOf, Cond.code yX8_densityOf cX8_densityOf 3 (some .int), Cond.methodLink RL 31 yX7_ink, Cond.instanceMethod yX7_ink, Cond.selects RX7 yX7_ink yX7_ink, Cond.code yX7_ink cX7_ink 3 (some .int), Cond.methodLink RX7 101 yX5_has, Cond.instanceMethod yX5_has, Cond.selects RX5 yX5_has yX5_has, Cond.code yX5_has cX5_has 2 (some .boolean), Cond.methodLink RX7 102 yX5_inkAt, Cond.instanceMethod yX5_inkAt, Cond.selects RX5 yX5_inkAt yX5_inkAt]
def wsL_law_r12 : List Cond := [Cond.code yX5_inkAt cX5_inkAt 3 (some .int), Cond.methodLink RL 34 yX8_ink, Cond.instanceMethod yX8_ink, Cond.selects RX8 yX8_ink yX8_ink, Cond.code yX8_ink cX8_ink 3 (some .int), Cond.methodLink RL 35 yX7_print, Cond.instanceMethod yX7_print, Cond.selects RX7 yX7_print yX7_print, Cond.code yX7_print cX7_print 3 (some .int), Cond.methodLink RX7 109 yX7_printSheet, Cond.instanceMethod yX7_printSheet, Cond.selects RX7 yX7_printSheet yX7_printSheet, Cond.code yX7_printSheet cX7_printSheet 5 none, Cond.methodLink RX7 240 Lib.Math.abs.name, Cond.static Lib.Math.abs.name, Cond.initialized "java/lang/Math", Cond.code Lib.Math.abs.name Lib.Math.abs.code 1 (some .int), Cond.methodLink RX7 220 yX3_valueOf, Cond.instanceMethod yX3_valueOf, Cond.selects RX3 yX3_valueOf yX3_valueOf, Cond.code yX3_valueOf cX3_valueOf 2 (some .int), Cond.methodLink RX7 222 yX5_feedZone, Cond.instanceMethod yX5_feedZone, Cond.selects RX5 yX5_feedZone yX5_feedZone]
def wsL_law_r13 : List Cond := [Cond.code yX5_feedZone cX5_feedZone 3 none, Cond.methodLink RX7 225 yX5_passOn, Cond.instanceMethod yX5_passOn, Cond.selects RX5 yX5_passOn yX5_passOn, Cond.code yX5_passOn cX5_passOn 6 none, Cond.methodLink RX5 35 yX5_share, Cond.static yX5_share, Cond.code yX5_share cX5_share 3 (some .int), Cond.methodLink RX7 228 yX5_driftAside, Cond.instanceMethod yX5_driftAside, Cond.selects RX5 yX5_driftAside yX5_driftAside, Cond.code yX5_driftAside cX5_driftAside 7 none, Cond.methodLink RX7 231 yX4_begin, Cond.instanceMethod yX4_begin, Cond.selects RX4 yX4_begin yX4_begin, Cond.code yX4_begin cX4_begin 1 none, Cond.methodLink RX7 234 yX5_takeOff, Cond.instanceMethod yX5_takeOff, Cond.selects RX5 yX5_takeOff yX5_takeOff, Cond.code yX5_takeOff cX5_takeOff 7 (some .int), Cond.methodLink RX7 237 yX4_note, Cond.instanceMethod yX4_note, Cond.selects RX4 yX4_note yX4_note, Cond.code yX4_note cX4_note 3 none]
def wsL_law_r14 : List Cond := [Cond.methodLink RX7 245 yX4_judge, Cond.instanceMethod yX4_judge, Cond.selects RX4 yX4_judge yX4_judge, Cond.code yX4_judge cX4_judge 3 none, Cond.methodLink RX7 112 yX7_isSteeringDue, Cond.instanceMethod yX7_isSteeringDue, Cond.selects RX7 yX7_isSteeringDue yX7_isSteeringDue, Cond.code yX7_isSteeringDue cX7_isSteeringDue 2 (some .boolean), Cond.methodLink RX7 116 yX7_steerKeys, Cond.instanceMethod yX7_steerKeys, Cond.selects RX7 yX7_steerKeys yX7_steerKeys, Cond.code yX7_steerKeys cX7_steerKeys 5 none, Cond.methodLink RX7 249 yX7_held, Cond.static yX7_held, Cond.code yX7_held cX7_held 4 (some .int), Cond.methodLink RX7 253 Lib.MathLoose.min_long.x, Cond.static Lib.MathLoose.min_long.x, Cond.code Lib.MathLoose.min_long.x Lib.MathLoose.min_long.code 4 (some .long), Cond.methodLink RX7 256 Lib.MathLoose.max_long.x, Cond.static Lib.MathLoose.max_long.x, Cond.code Lib.MathLoose.max_long.x Lib.MathLoose.max_long.code 4 (some .long), Cond.methodLink RL 39 yX8_print, Cond.instanceMethod yX8_print, Cond.selects RX8 yX8_print yX8_print]
def wsL_law_r15 : List Cond := [Cond.code yX8_print cX8_print 3 (some .int), Cond.constantLong RX8 144 (200), Cond.methodLink RX8 146 yX8_sheet, Cond.instanceMethod yX8_sheet, Cond.selects RX8 yX8_sheet yX8_sheet, Cond.code yX8_sheet cX8_sheet 8 none, Cond.constantLong RX8 135 (10000), Cond.methodLink RX8 131 yX8_drift, Cond.instanceMethod yX8_drift, Cond.selects RX8 yX8_drift yX8_drift, Cond.code yX8_drift cX8_drift 4 none, Cond.methodLink RX8 137 yX8_steerKeys, Cond.instanceMethod yX8_steerKeys, Cond.selects RX8 yX8_steerKeys yX8_steerKeys, Cond.code yX8_steerKeys cX8_steerKeys 3 none, Cond.methodLink RX8 140 yX8_held, Cond.static yX8_held, Cond.code yX8_held cX8_held 3 (some .int), Cond.methodLink RL 40 yX7_steer, Cond.instanceMethod yX7_steer, Cond.selects RX7 yX7_steer yX7_steer, Cond.code yX7_steer cX7_steer 3 (some .int), Cond.methodLink RL 44 yX8_steer, Cond.instanceMethod yX8_steer]
def wsL_law_r16 : List Cond := [Cond.selects RX8 yX8_steer yX8_steer, Cond.code yX8_steer cX8_steer 3 (some .int), Cond.methodLink RL 45 yX7_good, Cond.instanceMethod yX7_good, Cond.selects RX7 yX7_good yX7_good, Cond.code yX7_good cX7_good 2 (some .int), Cond.methodLink RX7 119 yX4_has, Cond.instanceMethod yX4_has, Cond.selects RX4 yX4_has yX4_has, Cond.code yX4_has cX4_has 2 (some .boolean), Cond.methodLink RX7 120 yX4_wasGood, Cond.instanceMethod yX4_wasGood, Cond.selects RX4 yX4_wasGood yX4_wasGood, Cond.code yX4_wasGood cX4_wasGood 2 (some .boolean), Cond.methodLink RL 48 yX8_good, Cond.instanceMethod yX8_good, Cond.selects RX8 yX8_good yX8_good, Cond.code yX8_good cX8_good 2 (some .int), Cond.methodLink RL 49 yX7_density, Cond.instanceMethod yX7_density, Cond.selects RX7 yX7_density yX7_density, Cond.code yX7_density cX7_density 3 (some .int), Cond.methodLink RX7 123 yX4_densityOn, Cond.methodLink RL 52 yX8_density]
def wsL_law_r17 : List Cond := [Cond.instanceMethod yX8_density, Cond.selects RX8 yX8_density yX8_density, Cond.code yX8_density cX8_density 3 (some .int), Cond.methodLink RL 53 yX7_past, Cond.instanceMethod yX7_past, Cond.selects RX7 yX7_past yX7_past, Cond.code yX7_past cX7_past 3 (some .int), Cond.methodLink RX7 126 yX2_isFull, Cond.instanceMethod yX2_isFull, Cond.selects RX2 yX2_isFull yX2_isFull, Cond.code yX2_isFull cX2_isFull 1 (some .boolean), Cond.methodLink RX7 129 yX2_add, Cond.instanceMethod yX2_add, Cond.selects RX2 yX2_add yX2_add, Cond.code yX2_add cX2_add 3 (some .int), Cond.fieldLink RX2 15 "InkPress$PastJobs" "covers" "J", Cond.fieldLink RX2 19 "InkPress$PastJobs" "keys" "J", Cond.fieldLink RX2 22 "InkPress$PastJobs" "coversSquared" "J", Cond.fieldLink RX2 25 "InkPress$PastJobs" "coversByKeys" "J", Cond.methodLink RL 56 yX8_past, Cond.instanceMethod yX8_past, Cond.selects RX8 yX8_past yX8_past, Cond.code yX8_past cX8_past 3 (some .int), Cond.fieldLink RX8 149 "InkPressModel" "pastMany" "I"]
def wsL_law_r18 : List Cond := [Cond.methodLink RL 57 yX7_preset, Cond.instanceMethod yX7_preset, Cond.selects RX7 yX7_preset yX7_preset, Cond.code yX7_preset cX7_preset 2 (some .int), Cond.methodLink RX7 132 yX2_isEmpty, Cond.instanceMethod yX2_isEmpty, Cond.selects RX2 yX2_isEmpty yX2_isEmpty, Cond.code yX2_isEmpty cX2_isEmpty 1 (some .boolean), Cond.methodLink RX7 135 yX2_keyFor, Cond.instanceMethod yX2_keyFor, Cond.selects RX2 yX2_keyFor yX2_keyFor, Cond.code yX2_keyFor cX2_keyFor 8 (some .int), Cond.methodLink RL 60 yX8_preset, Cond.instanceMethod yX8_preset, Cond.selects RX8 yX8_preset yX8_preset, Cond.code yX8_preset cX8_preset 2 (some .int), Cond.methodLink RX8 152 yX8_presetOf, Cond.instanceMethod yX8_presetOf, Cond.selects RX8 yX8_presetOf yX8_presetOf, Cond.code yX8_presetOf cX8_presetOf 14 (some .int), Cond.methodLink RL 61 yX7_presets, Cond.instanceMethod yX7_presets, Cond.selects RX7 yX7_presets yX7_presets, Cond.code yX7_presets cX7_presets 4 (some .int)]
def wsL_law_r19 : List Cond := [Cond.methodLink RL 65 yX8_presets, Cond.instanceMethod yX8_presets, Cond.selects RX8 yX8_presets yX8_presets, Cond.code yX8_presets cX8_presets 4 (some .int), Cond.methodLink RL 66 yX7_told, Cond.instanceMethod yX7_told, Cond.selects RX7 yX7_told yX7_told, Cond.code yX7_told cX7_told 2 (some .int), Cond.methodLink RX7 148 yX5_inkOn, Cond.instanceMethod yX5_inkOn, Cond.selects RX5 yX5_inkOn yX5_inkOn, Cond.code yX5_inkOn cX5_inkOn 3 (some .int), Cond.methodLink RL 69 yX8_told, Cond.instanceMethod yX8_told, Cond.selects RX8 yX8_told yX8_told, Cond.code yX8_told cX8_told 4 (some .int), Cond.methodLink RL 70 yX7_mark, Cond.instanceMethod yX7_mark, Cond.selects RX7 yX7_mark yX7_mark, Cond.code yX7_mark cX7_mark 5 (some .int), Cond.methodLink RX7 159 yX1_isPlace, Cond.static yX1_isPlace, Cond.code yX1_isPlace cX1_isPlace 1 (some .boolean), Cond.methodLink RX7 162 yX1_isOffset]
def wsL_law_r20 : List Cond := [Cond.static yX1_isOffset, Cond.code yX1_isOffset cX1_isOffset 1 (some .boolean), Cond.methodLink RX7 165 yX1_isFull, Cond.instanceMethod yX1_isFull, Cond.selects RX1 yX1_isFull yX1_isFull, Cond.code yX1_isFull cX1_isFull 1 (some .boolean), Cond.fieldLink RX1 28 "InkPress$Marks" "count" "I", Cond.methodLink RX7 166 yX1_add, Cond.instanceMethod yX1_add, Cond.selects RX1 yX1_add yX1_add, Cond.code yX1_add cX1_add 5 (some .int), Cond.fieldLink RX1 32 "InkPress$Marks" "sumX" "J", Cond.fieldLink RX1 36 "InkPress$Marks" "sumY" "J", Cond.fieldLink RX1 39 "InkPress$Marks" "sumDx" "J", Cond.fieldLink RX1 42 "InkPress$Marks" "sumDy" "J", Cond.fieldLink RX1 45 "InkPress$Marks" "sumSquares" "J", Cond.fieldLink RX1 48 "InkPress$Marks" "sumOutward" "J", Cond.fieldLink RX1 51 "InkPress$Marks" "sumAround" "J", Cond.methodLink RL 74 yX8_mark, Cond.instanceMethod yX8_mark, Cond.selects RX8 yX8_mark yX8_mark, Cond.code yX8_mark cX8_mark 5 (some .int), Cond.fieldLink RX8 159 "InkPressModel" "marks" "I", Cond.methodLink RX8 155 yX8_isPlace]
def wsL_law_r21 : List Cond := [Cond.static yX8_isPlace, Cond.code yX8_isPlace cX8_isPlace 3 (some .boolean), Cond.methodLink RL 75 yX7_clear, Cond.instanceMethod yX7_clear, Cond.selects RX7 yX7_clear yX7_clear, Cond.code yX7_clear cX7_clear 1 (some .int), Cond.methodLink RX7 169 yX1_removeAll, Cond.instanceMethod yX1_removeAll, Cond.selects RX1 yX1_removeAll yX1_removeAll, Cond.code yX1_removeAll cX1_removeAll 2 (some .int), Cond.methodLink RL 78 yX8_clear, Cond.instanceMethod yX8_clear, Cond.selects RX8 yX8_clear yX8_clear, Cond.code yX8_clear cX8_clear 2 (some .int), Cond.methodLink RL 79 yX7_fit, Cond.instanceMethod yX7_fit, Cond.selects RX7 yX7_fit yX7_fit, Cond.code yX7_fit cX7_fit 11 (some .long), Cond.constantLong RX7 172 (-1000002), Cond.constantLong RX7 177 (-1000005), Cond.methodLink RX7 174 yX1_isTold, Cond.instanceMethod yX1_isTold, Cond.selects RX1 yX1_isTold yX1_isTold, Cond.code yX1_isTold cX1_isTold 1 (some .boolean)]
def wsL_law_r22 : List Cond := [Cond.methodLink RX1 54 yX1_spread, Cond.instanceMethod yX1_spread, Cond.selects RX1 yX1_spread yX1_spread, Cond.code yX1_spread cX1_spread 1 (some .long), Cond.methodLink RX7 179 yX1_upper, Cond.instanceMethod yX1_upper, Cond.selects RX1 yX1_upper yX1_upper, Cond.code yX1_upper cX1_upper 2 (some .long), Cond.methodLink RX1 58 yX1_stretch, Cond.instanceMethod yX1_stretch, Cond.selects RX1 yX1_stretch yX1_stretch, Cond.code yX1_stretch cX1_stretch 1 (some .long), Cond.methodLink RX1 61 yX1_turn, Cond.instanceMethod yX1_turn, Cond.selects RX1 yX1_turn yX1_turn, Cond.code yX1_turn cX1_turn 1 (some .long), Cond.methodLink RX1 64 yX1_across, Cond.instanceMethod yX1_across, Cond.selects RX1 yX1_across yX1_across, Cond.code yX1_across cX1_across 1 (some .long), Cond.methodLink RX1 67 yX1_up, Cond.instanceMethod yX1_up, Cond.selects RX1 yX1_up yX1_up, Cond.code yX1_up cX1_up 1 (some .long)]
def wsL_law_r23 : List Cond := [Cond.methodLink RX7 183 yX1_lower, Cond.instanceMethod yX1_lower, Cond.selects RX1 yX1_lower yX1_lower, Cond.code yX1_lower cX1_lower 2 (some .long), Cond.methodLink RX7 186 yX7_commonDivisor, Cond.static yX7_commonDivisor, Cond.code yX7_commonDivisor cX7_commonDivisor 11 (some .long), Cond.methodLink RX7 259 Lib.MathLoose.abs_long.x, Cond.static Lib.MathLoose.abs_long.x, Cond.code Lib.MathLoose.abs_long.x Lib.MathLoose.abs_long.code 2 (some .long), Cond.methodLink RL 83 yX8_fit, Cond.instanceMethod yX8_fit, Cond.selects RX8 yX8_fit yX8_fit, Cond.code yX8_fit cX8_fit 3 (some .long), Cond.constantLong RX8 178 (3), Cond.constantLong RX8 180 (-1000002), Cond.constantLong RX8 186 (-1000005), Cond.fieldLink RX8 166 "InkPressModel" "stretch" "J", Cond.fieldLink RX8 162 "InkPressModel" "all" "J", Cond.fieldLink RX8 169 "InkPressModel" "turn" "J", Cond.fieldLink RX8 172 "InkPressModel" "across" "J", Cond.fieldLink RX8 175 "InkPressModel" "above" "J", Cond.methodLink RX8 182 yX8_findFit, Cond.instanceMethod yX8_findFit]
def wsL_law_r24 : List Cond := [Cond.selects RX8 yX8_findFit yX8_findFit, Cond.code yX8_findFit cX8_findFit 16 (some .boolean), Cond.methodLink RX8 188 yX8_lowest, Cond.static yX8_lowest, Cond.code yX8_lowest cX8_lowest 11 (some .long), Cond.methodLink RL 84 yX7_off, Cond.instanceMethod yX7_off, Cond.selects RX7 yX7_off yX7_off, Cond.code yX7_off cX7_off 3 (some .int), Cond.constant RX7 191 (-1000005), Cond.methodLink RX7 190 yX1_has, Cond.instanceMethod yX1_has, Cond.selects RX1 yX1_has yX1_has, Cond.code yX1_has cX1_has 2 (some .boolean), Cond.methodLink RX7 192 yX1_offAcross, Cond.instanceMethod yX1_offAcross, Cond.selects RX1 yX1_offAcross yX1_offAcross, Cond.code yX1_offAcross cX1_offAcross 4 (some .int), Cond.methodLink RX1 70 yX1_inThousandths, Cond.instanceMethod yX1_inThousandths, Cond.selects RX1 yX1_inThousandths yX1_inThousandths, Cond.code yX1_inThousandths cX1_inThousandths 6 (some .int), Cond.constantLong RX1 74 (1000), Cond.methodLink RX7 195 yX1_offUp]
def wsL_law_r25 : List Cond := [Cond.instanceMethod yX1_offUp, Cond.selects RX1 yX1_offUp yX1_offUp, Cond.code yX1_offUp cX1_offUp 4 (some .int), Cond.methodLink RL 87 yX8_off, Cond.instanceMethod yX8_off, Cond.selects RX8 yX8_off yX8_off, Cond.code yX8_off cX8_off 7 (some .int), Cond.constant RX8 192 (-1000005), Cond.methodLink RL 88 yX7_job, Cond.instanceMethod yX7_job, Cond.selects RX7 yX7_job yX7_job, Cond.code yX7_job cX7_job 3 (some .int), Cond.methodLink RX7 198 yX0_isColour, Cond.static yX0_isColour, Cond.code yX0_isColour cX0_isColour 1 (some .boolean), Cond.methodLink RX7 201 yX0_isPaper, Cond.static yX0_isPaper, Cond.code yX0_isPaper cX0_isPaper 1 (some .boolean), Cond.methodLink RX7 204 yX0_isFull, Cond.instanceMethod yX0_isFull, Cond.selects RX0 yX0_isFull yX0_isFull, Cond.code yX0_isFull cX0_isFull 1 (some .boolean), Cond.fieldLink RX0 31 "InkPress$Jobs" "count" "I", Cond.methodLink RX7 205 yX0_add]
def wsL_law_r26 : List Cond := [Cond.instanceMethod yX0_add, Cond.selects RX0 yX0_add yX0_add, Cond.code yX0_add cX0_add 3 (some .int), Cond.fieldLink RX0 35 "InkPress$Jobs" "isPlanned" "Z", Cond.methodLink RL 91 yX8_job, Cond.instanceMethod yX8_job, Cond.selects RX8 yX8_job yX8_job, Cond.code yX8_job cX8_job 3 (some .int), Cond.fieldLink RX8 193 "InkPressModel" "jobs" "I", Cond.methodLink RL 92 yX7_forget, Cond.instanceMethod yX7_forget, Cond.selects RX7 yX7_forget yX7_forget, Cond.code yX7_forget cX7_forget 1 (some .int), Cond.methodLink RX7 206 yX0_removeAll, Cond.instanceMethod yX0_removeAll, Cond.selects RX0 yX0_removeAll yX0_removeAll, Cond.code yX0_removeAll cX0_removeAll 2 (some .int), Cond.methodLink RL 95 yX8_forget, Cond.instanceMethod yX8_forget, Cond.selects RX8 yX8_forget yX8_forget, Cond.code yX8_forget cX8_forget 2 (some .int), Cond.methodLink RL 96 yX7_wash, Cond.instanceMethod yX7_wash, Cond.selects RX7 yX7_wash yX7_wash]
def wsL_law_r27 : List Cond := [Cond.code yX7_wash cX7_wash 4 (some .int), Cond.methodLink RX7 207 yX0_isWashCost, Cond.static yX0_isWashCost, Cond.code yX0_isWashCost cX0_isWashCost 1 (some .boolean), Cond.methodLink RX7 210 yX0_changeWash, Cond.instanceMethod yX0_changeWash, Cond.selects RX0 yX0_changeWash yX0_changeWash, Cond.code yX0_changeWash cX0_changeWash 6 (some .int), Cond.methodLink RL 99 yX8_wash, Cond.instanceMethod yX8_wash, Cond.selects RX8 yX8_wash yX8_wash, Cond.code yX8_wash cX8_wash 5 (some .int), Cond.methodLink RL 100 yX7_order, Cond.instanceMethod yX7_order, Cond.selects RX7 yX7_order yX7_order, Cond.code yX7_order cX7_order 1 (some .int), Cond.methodLink RX7 213 yX0_leastCosts, Cond.instanceMethod yX0_leastCosts, Cond.selects RX0 yX0_leastCosts yX0_leastCosts, Cond.code yX0_leastCosts cX0_leastCosts 1 (some .int), Cond.methodLink RX0 39 yX0_plan, Cond.instanceMethod yX0_plan, Cond.selects RX0 yX0_plan yX0_plan, Cond.code yX0_plan cX0_plan 3 none]
def wsL_law_r28 : List Cond := [Cond.methodLink RX0 42 yX0_holds, Cond.static yX0_holds, Cond.code yX0_holds cX0_holds 2 (some .boolean), Cond.methodLink RX0 46 yX0_weigh, Cond.instanceMethod yX0_weigh, Cond.selects RX0 yX0_weigh yX0_weigh, Cond.code yX0_weigh cX0_weigh 4 none, Cond.methodLink RX0 53 yX0_bestNext, Cond.instanceMethod yX0_bestNext, Cond.selects RX0 yX0_bestNext yX0_bestNext, Cond.code yX0_bestNext cX0_bestNext 7 (some .int), Cond.methodLink RX0 57 yX0_costsBy, Cond.instanceMethod yX0_costsBy, Cond.selects RX0 yX0_costsBy yX0_costsBy, Cond.code yX0_costsBy cX0_costsBy 6 (some .int), Cond.methodLink RX0 50 yX0_walk, Cond.instanceMethod yX0_walk, Cond.selects RX0 yX0_walk yX0_walk, Cond.code yX0_walk cX0_walk 5 none, Cond.methodLink RL 103 yX8_order, Cond.instanceMethod yX8_order, Cond.selects RX8 yX8_order yX8_order, Cond.code yX8_order cX8_order 6 (some .int), Cond.methodLink RX8 196 yX8_layRow]
def wsL_law_r29 : List Cond := [Cond.instanceMethod yX8_layRow, Cond.selects RX8 yX8_layRow yX8_layRow, Cond.code yX8_layRow cX8_layRow 9 none, Cond.methodLink RX8 200 yX8_costOf, Cond.instanceMethod yX8_costOf, Cond.selects RX8 yX8_costOf yX8_costOf, Cond.code yX8_costOf cX8_costOf 5 (some .int), Cond.methodLink RL 104 yX7_orderAt, Cond.instanceMethod yX7_orderAt, Cond.selects RX7 yX7_orderAt yX7_orderAt, Cond.code yX7_orderAt cX7_orderAt 2 (some .int), Cond.methodLink RX7 216 yX0_has, Cond.instanceMethod yX0_has, Cond.selects RX0 yX0_has yX0_has, Cond.code yX0_has cX0_has 2 (some .boolean), Cond.methodLink RX7 217 yX0_inOrder, Cond.instanceMethod yX0_inOrder, Cond.selects RX0 yX0_inOrder yX0_inOrder, Cond.code yX0_inOrder cX0_inOrder 2 (some .int), Cond.methodLink RL 107 yX8_orderAt, Cond.instanceMethod yX8_orderAt, Cond.selects RX8 yX8_orderAt yX8_orderAt, Cond.code yX8_orderAt cX8_orderAt 3 (some .int), Cond.methodLink RX8 204 yX8_order]
def wsL_law : List Cond := (wsL_law_r1 ++ (wsL_law_r2 ++ (wsL_law_r3 ++ (wsL_law_r4 ++ (wsL_law_r5 ++ (wsL_law_r6 ++ (wsL_law_r7 ++ (wsL_law_r8 ++ (wsL_law_r9 ++ (wsL_law_r10 ++ (wsL_law_r11 ++ (wsL_law_r12 ++ (wsL_law_r13 ++ (wsL_law_r14 ++ (wsL_law_r15 ++ (wsL_law_r16 ++ (wsL_law_r17 ++ (wsL_law_r18 ++ (wsL_law_r19 ++ (wsL_law_r20 ++ (wsL_law_r21 ++ (wsL_law_r22 ++ (wsL_law_r23 ++ (wsL_law_r24 ++ (wsL_law_r25 ++ (wsL_law_r26 ++ (wsL_law_r27 ++ (wsL_law_r28 ++ wsL_law_r29)))))))))))))))))))))))))))) ++ wsX70 ++ wsX80 ++ wsX30 ++ wsX60 ++ wsX50 ++ wsX40 ++ wsX20 ++ wsX10 ++ wsX00 ++ ([] : List Cond)
abbrev vwCl : List vw_C := [(RX0, TX0, 7), (RX1, TX1, 12), (RX2, TX2, 5), (RX3, TX3, 1), (RX4, TX4, 6), (RX5, TX5, 6), (RX6, TX6, 2), (RX7, TX7, 8), (RX8, TX8, 37)]
end
section
/-! my own rows over the kit: worlds by fixed places, contracts of one form -/
/-- the words of nest mates that are carried as facts of the tables -/
def gNestW : List Cond := [.fieldLinkNest "InkPress" 105 "InkPress$SheetLog" "count" "I" "InkPress", .fieldLinkNest "InkPress" 138 "InkPress$Zones" "count" "I" "InkPress", .fieldLinkNest "InkPress" 139 "InkPress$SheetLog" "goodCount" "I" "InkPress", .fieldLinkNest "InkPress" 142 "InkPress$SheetLog" "start" "I" "InkPress", .fieldLinkNest "InkPress" 145 "InkPress$Train" "fed" "I" "InkPress", .fieldLinkNest "InkPress" 152 "InkPress$Train" "onPaper" "I" "InkPress", .fieldLinkNest "InkPress" 155 "InkPress$Train" "onBars" "I" "InkPress", .fieldLinkNest "InkPress" 158 "InkPress$PastJobs" "count" "I" "InkPress", .methodLinkNest "InkPress$Jobs" 27 ⟨"InkPress", "within", "(III)Z"⟩ "InkPress", .methodLinkNest "InkPress$Marks" 24 ⟨"InkPress", "within", "(III)Z"⟩ "InkPress", .methodLinkNest "InkPress$PastJobs" 28 ⟨"InkPress", "held", "(JII)I"⟩ "InkPress", .methodLinkNest "InkPress$Rules" 27 ⟨"InkPress", "within", "(III)Z"⟩ "InkPress", .methodLinkNest "InkPress$Zones" 29 ⟨"InkPress", "within", "(III)Z"⟩ "InkPress", .castable "[I" "java/lang/Cloneable"]
def gN (U : State) : Prop := ∀ w ∈ gNestW, va_Nw w U
theorem gNest_tabs : ∀ w ∈ gNestW, w.onTables = true := by decide +kernel
theorem gN.same {u U : State} (h : u.vm = U.vm) (hN : gN u) : gN U := fun w hw => va_Nw.same (gNest_tabs w hw) h (hN w hw)
theorem gN.warm {s U : State} (hW : s.WarmedH U.vm) (hN : gN s) : gN U := by
  intro w hw
  have h1 := hN w hw
  simp only [gNestW, List.mem_cons, List.not_mem_nil, or_false] at hw
  rcases hw with rfl | rfl | rfl | rfl | rfl | rfl | rfl | rfl | rfl | rfl | rfl | rfl | rfl | rfl
  all_goals first | exact va_Nw.warmF hW h1 | exact va_Nw.warmM hW h1 | exact va_Nw.warmC hW h1
/-- the static tables: which they are, and what they hold -/
def gTab (k : Nat) : List Int32 := match k with
  | 0 => [1, 1, 0, 1, 1, 1, 0, 1, 1]
  | 1 => [20, 90, 40, 90, 200, 100, 500, 50, 20]
  | 2 => [10, 50, 10, 40, 50, 10, 10, 5, 2]
  | 3 => [100, 100, 1000]
  | _ => [0, 20, 100]
def gTabC (k : Nat) : String := if k < 3 then "InkPress$Rules" else "InkPress$Zones"
def gTabN (k : Nat) : String := match k with
  | 0 => "LEAST"
  | 1 => "MOST"
  | 2 => "FIRST"
  | 3 => "MOST"
  | _ => "FIRST"
def gZ (A : Nat → Prop) (g : Nat → Nat) (U : State) (H : Heap) : Prop := ∀ k, k < 5 → va_Z (gTabC k) (gTabN k) "[I" (.ref (g k)) A U H ∧ va_T .int (g k) (gTab k).length (fun j => .int ((gTab k).getD j 0)) A U H
theorem gZ.moved {A : Nat → Prop} {g : Nat → Nat} {u U : State} {H : Heap} (hvm : u.vm.Alike U.vm) (h : gZ A g u H) : gZ A g U H := fun k hk => ⟨(h k hk).1.moved hvm, (h k hk).2.moved hvm⟩
theorem gZ.kept {A : Nat → Prop} {g : Nat → Nat} {U : State} {H H1 : Heap} (h : gZ A g U H) (hq : ∀ a : Nat, a < H.size → ¬ A a → H1[a]? = H[a]?) : gZ A g U H1 := fun k hk => ⟨(h k hk).1.kept hq, (h k hk).2.kept hq⟩
abbrev gT (cI cZ : ClassId) : List (ClassId × FieldType) := [(cI, .int), (cZ, .boolean)]
/-- a method's start: the world, the classes, the nest, the tables -/
def gPre (D : va_G) (cI cZ : ClassId) (A : Nat → Prop) (g : Nat → Nat) (G : va_W) (U : State) : Prop := va_P D vwCl G U.heap ∧ va_K D vwCl (gT cI cZ) U ∧ gN U ∧ gZ A g U U.heap
def gB (b : Bool) : Int32 := if b then 1 else 0
abbrev gMi (l : Launch) (D : va_G) (cI cZ : ClassId) (A : Nat → Prop) (g : Nat → Nat) (y : MethodName) (ws : List Cond) (rm : Room) (av : List Value) (G : va_W) (Rv : Int32) (B : va_W → Prop) : Prop :=
  Met l y ws rm (va_Pc av (gPre D cI cZ A g G)) (va_Qi (fun r (G1 : va_W) => r = Rv ∧ B G1) (fun G1 t => va_P D vwCl G1 t.heap ∧ va_D A G1) A) 0 0 A
abbrev gMl (l : Launch) (D : va_G) (cI cZ : ClassId) (A : Nat → Prop) (g : Nat → Nat) (y : MethodName) (ws : List Cond) (rm : Room) (av : List Value) (G : va_W) (Rv : Int64) (B : va_W → Prop) : Prop :=
  Met l y ws rm (va_Pc av (gPre D cI cZ A g G)) (va_Ql (fun r (G1 : va_W) => r = Rv ∧ B G1) (fun G1 t => va_P D vwCl G1 t.heap ∧ va_D A G1) A) 0 0 A
abbrev gMv (l : Launch) (D : va_G) (cI cZ : ClassId) (A : Nat → Prop) (g : Nat → Nat) (y : MethodName) (ws : List Cond) (rm : Room) (av : List Value) (G : va_W) (B : va_W → Prop) : Prop :=
  Met l y ws rm (va_Pc av (gPre D cI cZ A g G)) (va_Qv (fun (G1 : va_W) => B G1) (fun G1 t => va_P D vwCl G1 t.heap ∧ va_D A G1) A) 0 0 A
/-- where the walk stands: the world in the heap, apart, nothing else changed -/
theorem gk_step {ks : List Nat} {G0 G1 G2 : va_W} {i : Nat} (hk : ∀ k, k ∉ ks → G1[k]? = G0[k]?) (ho : ∀ k, k ≠ i → G2[k]? = G1[k]?) (h : i ∈ ks) : ∀ k, k ∉ ks → G2[k]? = G0[k]? := fun k q => (ho k (fun z => q (z ▸ h))).trans (hk k q)
theorem gk_call {ks ks' : List Nat} {G0 G1 G2 : va_W} (hk : ∀ k, k ∉ ks → G1[k]? = G0[k]?) (ho : ∀ k, k ∉ ks' → G2[k]? = G1[k]?) (h : ∀ k ∈ ks', k ∈ ks) : ∀ k, k ∉ ks → G2[k]? = G0[k]? := fun k q => (ho k (fun z => q (h k z))).trans (hk k q)
theorem gset_self {G : va_W} {i : Nat} {x y : Nat × va_E} (h : G[i]? = some x) : (G.set i y)[i]? = some y := by
  have hl : i < G.length := (List.getElem?_eq_some_iff.mp h).1
  simp [hl]
theorem gset_ne {G : va_W} {i : Nat} {y : Nat × va_E} : ∀ k, k ≠ i → (G.set i y)[k]? = G[k]? := fun k hk => by
  rw [List.getElem?_set_ne (fun h => hk h.symm)]
section MX
variable {p : Program} {l : Launch} {e : Env} {R : Room} {s : State} {m : MethodId} {args : Array Value} {below : List Frame} {meth : Method} {c : Code} {H : Heap} {locs : List Loc} {cells slots : Nat} {Q : State → Prop}
variable {cc : ByteArray} {pc : Nat} {ls : Array Slot} {rest : List Value} {D : va_G} {A : Nat → Prop} {a : Nat} {G : va_W} {H0 : Heap} {cI cZ : ClassId} {g : Nat → Nat}
theorem mx_put {cl : List vw_C} {tys : List (ClassId × FieldType)} (hexec : p.tables.exec = Jvm.exec) (hb : c.code = cc) {own ref C : String} {T : u_T} {N ci index : Nat} {Ts : List Cond} (hts : ∀ w ∈ Ts, w.before args s = true) (hin : ∀ w ∈ u_ws C T N, w ∈ Ts) (ty0 : Nat → FieldType) (hty : ∀ k, k < N → parseFieldDescriptor (T k).2.2.1 = some (ty0 k)) (hnm : ∀ a, a < N → ∀ b, b < N → a ≠ b → (T a).2.1 ≠ (T b).2.1) (hown : s.vm.findClass own = some m.cls) (hK : va_K D cl tys s) (hP : va_P D cl G H) (hD : va_D A G) (hS0 : va_S A H0 H locs) (q0 : Nat) {fs : List Value} (he : G[q0]? = some (a, .inr (ci, fs))) (hc : cl[ci]? = some (C, T, N)) (k : Nat) (hk : k < N) (hlink : (Cond.fieldLink own index ref (T k).2.1 (T k).2.2.1).before args s = true) (hsame : ∀ x, s.fieldFound? (T k).1 (T k).2.1 (T k).2.2.1 = some x → s.fieldFound? ref (T k).2.1 (T k).2.2.1 = some x) (hfin : (T k).2.2.2 = false) {ty : FieldType} {v : Value} (hd : parseFieldDescriptor (T k).2.2.1 = some ty) (hn : narrow ty v = v) (hfit : fits ty v = true) (hl : k < fs.length)
    (hdg : decode cc pc = .ok (.putfield index, 3)) (kk : ∀ (H1 : Heap) (locs1 : List Loc) (G1 : va_W), va_P D cl G1 H1 → va_D A G1 → va_S A H0 H1 locs1 → G1[q0]? = some (a, .inr (ci, fs.set k v)) → (∀ j, j ≠ q0 → G1[j]? = G[j]?) → W p l e R s m args below meth c H1 locs1 cells slots Q (F0 m (pc + 3) ls rest)) : W p l e R s m args below meth c H locs cells slots Q (F0 m pc ls (v :: .ref a :: rest)) :=
  va_put hexec hb hts hin ty0 hty hnm hown hK hP hD hS0 q0 he hc k hk hlink hsame hfin hd hn hfit hl hdg (fun H1 locs1 h1 h2 h3 => kk H1 locs1 _ h1 h2 h3 (gset_self he) gset_ne)
theorem mx_iald (hexec : p.tables.exec = Jvm.exec) (hb : c.code = cc) (hK : va_K D vwCl (gT cI cZ) s) (hP : va_P D vwCl G H) (q0 : Nat) {n : Nat} {f : Nat → Int32} (ha : G[q0]? = some (a, .inl (cI, n, .inl f))) (k : Nat) (hk : k < n) (hn : n < 2 ^ 31) (hdg : decode cc pc = .ok (.iaload, 1))
    (kk : W p l e R s m args below meth c H locs cells slots Q (F0 m (pc + 1) ls (.int (f k) :: rest))) : W p l e R s m args below meth c H locs cells slots Q (F0 m pc ls (.int (nI k) :: .ref a :: rest)) := by
  refine va_iald hexec hb hK hP q0 0 ha rfl (vp_in_nI hk hn) hdg ?_
  rw [nI_clamp (Nat.lt_trans hk hn)]
  exact kk
theorem mx_zald (hexec : p.tables.exec = Jvm.exec) (hb : c.code = cc) (hK : va_K D vwCl (gT cI cZ) s) (hP : va_P D vwCl G H) (q0 : Nat) {n : Nat} {f : Nat → Int32} (ha : G[q0]? = some (a, .inl (cZ, n, .inl f))) (k : Nat) (hk : k < n) (hn : n < 2 ^ 31) (hdg : decode cc pc = .ok (.baload, 1))
    (kk : W p l e R s m args below meth c H locs cells slots Q (F0 m (pc + 1) ls (.int (f k) :: rest))) : W p l e R s m args below meth c H locs cells slots Q (F0 m pc ls (.int (nI k) :: .ref a :: rest)) := by
  refine va_zald hexec hb hK hP q0 1 ha rfl (vp_in_nI hk hn) hdg ?_
  rw [nI_clamp (Nat.lt_trans hk hn)]
  exact kk
theorem mx_iast (hexec : p.tables.exec = Jvm.exec) (hb : c.code = cc) (hK : va_K D vwCl (gT cI cZ) s) (hP : va_P D vwCl G H) (hD : va_D A G) (hS : va_S A H0 H locs) (q0 : Nat) {n : Nat} {f : Nat → Int32} (ha : G[q0]? = some (a, .inl (cI, n, .inl f))) (k : Nat) (hk : k < n) (hn : n < 2 ^ 31) {x : Int32} (hdg : decode cc pc = .ok (.iastore, 1))
    (kk : ∀ (H1 : Heap) (locs1 : List Loc) (G1 : va_W), va_P D vwCl G1 H1 → va_D A G1 → va_S A H0 H1 locs1 → G1[q0]? = some (a, .inl (cI, n, .inl (upd f k x))) → (∀ j, j ≠ q0 → G1[j]? = G[j]?) → W p l e R s m args below meth c H1 locs1 cells slots Q (F0 m (pc + 1) ls rest)) : W p l e R s m args below meth c H locs cells slots Q (F0 m pc ls (.int x :: .int (nI k) :: .ref a :: rest)) := by
  refine va_iast hexec hb hK hP hD hS q0 0 ha rfl (vp_in_nI hk hn) hdg ?_
  rw [nI_clamp (Nat.lt_trans hk hn)]
  exact fun H1 locs1 h1 h2 h3 => kk H1 locs1 _ h1 h2 h3 (gset_self ha) gset_ne
theorem mx_zast (hexec : p.tables.exec = Jvm.exec) (hb : c.code = cc) (hK : va_K D vwCl (gT cI cZ) s) (hP : va_P D vwCl G H) (hD : va_D A G) (hS : va_S A H0 H locs) (q0 : Nat) {n : Nat} {f : Nat → Int32} (ha : G[q0]? = some (a, .inl (cZ, n, .inl f))) (k : Nat) (hk : k < n) (hn : n < 2 ^ 31) {x : Int32} (hx : vp_nar .boolean x = x) (hdg : decode cc pc = .ok (.bastore, 1))
    (kk : ∀ (H1 : Heap) (locs1 : List Loc) (G1 : va_W), va_P D vwCl G1 H1 → va_D A G1 → va_S A H0 H1 locs1 → G1[q0]? = some (a, .inl (cZ, n, .inl (upd f k x))) → (∀ j, j ≠ q0 → G1[j]? = G[j]?) → W p l e R s m args below meth c H1 locs1 cells slots Q (F0 m (pc + 1) ls rest)) : W p l e R s m args below meth c H locs cells slots Q (F0 m pc ls (.int x :: .int (nI k) :: .ref a :: rest)) := by
  refine va_zast hexec hb hK hP hD hS q0 1 ha rfl (vp_in_nI hk hn) hdg ?_
  rw [nI_clamp (Nat.lt_trans hk hn), hx]
  exact fun H1 locs1 h1 h2 h3 => kk H1 locs1 _ h1 h2 h3 (gset_self ha) gset_ne
theorem mx_iadd (hexec : p.tables.exec = Jvm.exec) (hb : c.code = cc) {x y : Nat} (hdg : decode cc pc = .ok (.iadd, 1)) (k : W p l e R s m args below meth c H locs cells slots Q (F0 m (pc + 1) ls (.int (nI (x + y)) :: rest))) : W p l e R s m args below meth c H locs cells slots Q (F0 m pc ls (.int (nI y) :: .int (nI x) :: rest)) := lv_iadd hexec hb hdg (by rw [nI_add]; exact k)
theorem mx_imul (hexec : p.tables.exec = Jvm.exec) (hb : c.code = cc) {x y : Nat} (hdg : decode cc pc = .ok (.imul, 1)) (k : W p l e R s m args below meth c H locs cells slots Q (F0 m (pc + 1) ls (.int (nI (x * y)) :: rest))) : W p l e R s m args below meth c H locs cells slots Q (F0 m pc ls (.int (nI y) :: .int (nI x) :: rest)) := lv_imul hexec hb hdg (by rw [pk_mul]; exact k)
theorem mx_isub (hexec : p.tables.exec = Jvm.exec) (hb : c.code = cc) {x y : Nat} (h : y ≤ x) (hdg : decode cc pc = .ok (.isub, 1)) (k : W p l e R s m args below meth c H locs cells slots Q (F0 m (pc + 1) ls (.int (nI (x - y)) :: rest))) : W p l e R s m args below meth c H locs cells slots Q (F0 m pc ls (.int (nI y) :: .int (nI x) :: rest)) := lv_isub hexec hb hdg (by rw [pk_sub h]; exact k)
theorem mx_idiv (hexec : p.tables.exec = Jvm.exec) (hb : c.code = cc) {x y : Nat} (hx : x < 2 ^ 31) (h0 : 0 < y) (hy : y < 2 ^ 31) (hdg : decode cc pc = .ok (.idiv, 1)) (k : W p l e R s m args below meth c H locs cells slots Q (F0 m (pc + 1) ls (.int (nI (x / y)) :: rest))) : W p l e R s m args below meth c H locs cells slots Q (F0 m pc ls (.int (nI y) :: .int (nI x) :: rest)) := lv_idiv hexec hb hdg (nI_ne0 h0 hy) (by rw [pk_div hx h0 hy]; exact k)
theorem mx_irem (hexec : p.tables.exec = Jvm.exec) (hb : c.code = cc) {x y : Nat} (hx : x < 2 ^ 31) (h0 : 0 < y) (hy : y < 2 ^ 31) (hdg : decode cc pc = .ok (.irem, 1)) (k : W p l e R s m args below meth c H locs cells slots Q (F0 m (pc + 1) ls (.int (nI (x % y)) :: rest))) : W p l e R s m args below meth c H locs cells slots Q (F0 m pc ls (.int (nI y) :: .int (nI x) :: rest)) := lv_irem hexec hb hdg (nI_ne0 h0 hy) (by rw [pk_rem hx h0 hy]; exact k)
theorem mx_cge (hexec : p.tables.exec = Jvm.exec) (hb : c.code = cc) {x y : Nat} {off : Int} {tgt : Nat} (hx : x < 2 ^ 31) (hy : y < 2 ^ 31) (hdg : decode cc pc = .ok (.if_icmp .ge off, 3)) (ht : (pc : Int) + off = (tgt : Int)) (kt : y ≤ x → W p l e R s m args below meth c H locs cells slots Q (F0 m tgt ls rest)) (kf : x < y → W p l e R s m args below meth c H locs cells slots Q (F0 m (pc + 3) ls rest)) : W p l e R s m args below meth c H locs cells slots Q (F0 m pc ls (.int (nI y) :: .int (nI x) :: rest)) := lv_icmp_ge hexec hb hdg ht (fun h => kt ((nI_leI hy hx).mp h)) (fun h => kf (Nat.not_le.mp fun q => h ((nI_leI hy hx).mpr q)))
theorem mx_clt (hexec : p.tables.exec = Jvm.exec) (hb : c.code = cc) {x y : Nat} {off : Int} {tgt : Nat} (hx : x < 2 ^ 31) (hy : y < 2 ^ 31) (hdg : decode cc pc = .ok (.if_icmp .lt off, 3)) (ht : (pc : Int) + off = (tgt : Int)) (kt : x < y → W p l e R s m args below meth c H locs cells slots Q (F0 m tgt ls rest)) (kf : y ≤ x → W p l e R s m args below meth c H locs cells slots Q (F0 m (pc + 3) ls rest)) : W p l e R s m args below meth c H locs cells slots Q (F0 m pc ls (.int (nI y) :: .int (nI x) :: rest)) := lv_icmp_lt hexec hb hdg ht (fun h => kt ((nI_ltI hx hy).mp h)) (fun h => kf (Nat.not_lt.mp fun q => h ((nI_ltI hx hy).mpr q)))
theorem mx_cgt (hexec : p.tables.exec = Jvm.exec) (hb : c.code = cc) {x y : Nat} {off : Int} {tgt : Nat} (hx : x < 2 ^ 31) (hy : y < 2 ^ 31) (hdg : decode cc pc = .ok (.if_icmp .gt off, 3)) (ht : (pc : Int) + off = (tgt : Int)) (kt : y < x → W p l e R s m args below meth c H locs cells slots Q (F0 m tgt ls rest)) (kf : x ≤ y → W p l e R s m args below meth c H locs cells slots Q (F0 m (pc + 3) ls rest)) : W p l e R s m args below meth c H locs cells slots Q (F0 m pc ls (.int (nI y) :: .int (nI x) :: rest)) := lv_icmp_gt hexec hb hdg ht (fun h => kt ((nI_ltI hy hx).mp h)) (fun h => kf (Nat.not_lt.mp fun q => h ((nI_ltI hy hx).mpr q)))
theorem mx_cle (hexec : p.tables.exec = Jvm.exec) (hb : c.code = cc) {x y : Nat} {off : Int} {tgt : Nat} (hx : x < 2 ^ 31) (hy : y < 2 ^ 31) (hdg : decode cc pc = .ok (.if_icmp .le off, 3)) (ht : (pc : Int) + off = (tgt : Int)) (kt : x ≤ y → W p l e R s m args below meth c H locs cells slots Q (F0 m tgt ls rest)) (kf : y < x → W p l e R s m args below meth c H locs cells slots Q (F0 m (pc + 3) ls rest)) : W p l e R s m args below meth c H locs cells slots Q (F0 m pc ls (.int (nI y) :: .int (nI x) :: rest)) := lv_icmp_le hexec hb hdg ht (fun h => kt ((nI_leI hx hy).mp h)) (fun h => kf (Nat.not_le.mp fun q => h ((nI_leI hx hy).mpr q)))
theorem mx_ceq (hexec : p.tables.exec = Jvm.exec) (hb : c.code = cc) {x y : Nat} {off : Int} {tgt : Nat} (hx : x < 2 ^ 31) (hy : y < 2 ^ 31) (hdg : decode cc pc = .ok (.if_icmp .eq off, 3)) (ht : (pc : Int) + off = (tgt : Int)) (kt : x = y → W p l e R s m args below meth c H locs cells slots Q (F0 m tgt ls rest)) (kf : x ≠ y → W p l e R s m args below meth c H locs cells slots Q (F0 m (pc + 3) ls rest)) : W p l e R s m args below meth c H locs cells slots Q (F0 m pc ls (.int (nI y) :: .int (nI x) :: rest)) := lv_icmp_eq hexec hb hdg ht (fun h => kt ((nI_eq hx hy).mp h)) (fun h => kf (fun q => h ((nI_eq hx hy).mpr q)))
theorem mx_cne (hexec : p.tables.exec = Jvm.exec) (hb : c.code = cc) {x y : Nat} {off : Int} {tgt : Nat} (hx : x < 2 ^ 31) (hy : y < 2 ^ 31) (hdg : decode cc pc = .ok (.if_icmp .ne off, 3)) (ht : (pc : Int) + off = (tgt : Int)) (kt : x ≠ y → W p l e R s m args below meth c H locs cells slots Q (F0 m tgt ls rest)) (kf : x = y → W p l e R s m args below meth c H locs cells slots Q (F0 m (pc + 3) ls rest)) : W p l e R s m args below meth c H locs cells slots Q (F0 m pc ls (.int (nI y) :: .int (nI x) :: rest)) := lv_icmp_ne hexec hb hdg ht (fun h => kt (fun q => h ((nI_eq hx hy).mpr q))) (fun h => kf (Classical.byContradiction fun q => h (fun z => q ((nI_eq hx hy).mp z))))
theorem mx_beq (hexec : p.tables.exec = Jvm.exec) (hb : c.code = cc) {x : Bool} {off : Int} {tgt : Nat} (hdg : decode cc pc = .ok (.ifCond .eq off, 3)) (ht : (pc : Int) + off = (tgt : Int)) (kt : x = false → W p l e R s m args below meth c H locs cells slots Q (F0 m tgt ls rest)) (kf : x = true → W p l e R s m args below meth c H locs cells slots Q (F0 m (pc + 3) ls rest)) : W p l e R s m args below meth c H locs cells slots Q (F0 m pc ls (.int (gB x) :: rest)) := lv_if_eq hexec hb hdg ht (fun h => kt (by cases x; rfl; exact absurd h (by decide))) (fun h => kf (by cases x; exact absurd rfl h; rfl))
theorem mx_bne (hexec : p.tables.exec = Jvm.exec) (hb : c.code = cc) {x : Bool} {off : Int} {tgt : Nat} (hdg : decode cc pc = .ok (.ifCond .ne off, 3)) (ht : (pc : Int) + off = (tgt : Int)) (kt : x = true → W p l e R s m args below meth c H locs cells slots Q (F0 m tgt ls rest)) (kf : x = false → W p l e R s m args below meth c H locs cells slots Q (F0 m (pc + 3) ls rest)) : W p l e R s m args below meth c H locs cells slots Q (F0 m pc ls (.int (gB x) :: rest)) := lv_if_ne hexec hb hdg ht (fun h => kt (by cases x; exact absurd rfl h; rfl)) (fun h => kf (by cases x; rfl; exact absurd h (by decide)))
theorem mx_neq (hexec : p.tables.exec = Jvm.exec) (hb : c.code = cc) {x : Nat} {off : Int} {tgt : Nat} (hx : x < 2 ^ 31) (hdg : decode cc pc = .ok (.ifCond .eq off, 3)) (ht : (pc : Int) + off = (tgt : Int)) (kt : x = 0 → W p l e R s m args below meth c H locs cells slots Q (F0 m tgt ls rest)) (kf : x ≠ 0 → W p l e R s m args below meth c H locs cells slots Q (F0 m (pc + 3) ls rest)) : W p l e R s m args below meth c H locs cells slots Q (F0 m pc ls (.int (nI x) :: rest)) := lv_if_eq hexec hb hdg ht (fun h => kt ((nI_eq hx (by decide)).mp (by rw [nI_0]; exact h))) (fun h => kf (fun q => h (by rw [q]; rfl)))
theorem mx_nne (hexec : p.tables.exec = Jvm.exec) (hb : c.code = cc) {x : Nat} {off : Int} {tgt : Nat} (hx : x < 2 ^ 31) (hdg : decode cc pc = .ok (.ifCond .ne off, 3)) (ht : (pc : Int) + off = (tgt : Int)) (kt : x ≠ 0 → W p l e R s m args below meth c H locs cells slots Q (F0 m tgt ls rest)) (kf : x = 0 → W p l e R s m args below meth c H locs cells slots Q (F0 m (pc + 3) ls rest)) : W p l e R s m args below meth c H locs cells slots Q (F0 m pc ls (.int (nI x) :: rest)) := lv_if_ne hexec hb hdg ht (fun h => kt (fun q => h (by rw [q]; rfl))) (fun h => kf (Classical.byContradiction fun q => h (fun z => q ((nI_eq hx (by decide)).mp (by rw [nI_0]; exact z)))))
theorem mx_nle (hexec : p.tables.exec = Jvm.exec) (hb : c.code = cc) {x : Nat} {off : Int} {tgt : Nat} (hx : x < 2 ^ 31) (hdg : decode cc pc = .ok (.ifCond .le off, 3)) (ht : (pc : Int) + off = (tgt : Int)) (kt : x = 0 → W p l e R s m args below meth c H locs cells slots Q (F0 m tgt ls rest)) (kf : 0 < x → W p l e R s m args below meth c H locs cells slots Q (F0 m (pc + 3) ls rest)) : W p l e R s m args below meth c H locs cells slots Q (F0 m pc ls (.int (nI x) :: rest)) := lv_if_le hexec hb hdg ht (fun h => kt (Nat.le_zero.mp ((nI_leI hx (by decide)).mp (by rw [nI_0]; exact h)))) (fun h => kf (Nat.pos_of_ne_zero (fun q => h (by rw [q, nI_0]; decide))))
end MX
theorem lg_lt {x y : Int64} : lg_cmp x y < 0 ↔ x < y := by
  unfold lg_cmp
  rcases Int64.lt_or_le x y with q | q
  · rw [if_neg (Int64.not_lt.mpr (Int64.le_of_lt q)), if_neg (fun z => Int64.lt_irrefl (z ▸ q))]
    exact ⟨fun _ => q, fun _ => by decide⟩
  · refine ⟨fun h => ?_, fun h => absurd q (Int64.not_le.mpr h)⟩
    by_cases q2 : y < x
    · rw [if_pos q2] at h
      exact absurd h (by decide)
    · rw [if_neg q2, if_pos (Int64.le_antisymm (Int64.not_lt.mp q2) q)] at h
      exact absurd h (by decide)
theorem lg_gt {x y : Int64} : 0 < lg_cmp x y ↔ y < x := by
  unfold lg_cmp
  by_cases q2 : y < x
  · rw [if_pos q2]
    exact ⟨fun _ => q2, fun _ => by decide⟩
  · rw [if_neg q2]
    by_cases q3 : x = y
    · rw [if_pos q3]
      exact ⟨fun h => absurd h (by decide), fun h => absurd h q2⟩
    · rw [if_neg q3]
      exact ⟨fun h => absurd h (by decide), fun h => absurd h q2⟩
theorem lg_ge {x y : Int64} : 0 ≤ lg_cmp x y ↔ y ≤ x := by
  rw [← Int32.not_lt, lg_lt, Int64.not_lt]
theorem lg_le {x y : Int64} : lg_cmp x y ≤ 0 ↔ x ≤ y := by
  rw [← Int32.not_lt, lg_gt, Int64.not_lt]
theorem lg_eq {x y : Int64} : lg_cmp x y = 0 ↔ x = y := by
  constructor
  · intro h
    exact Int64.le_antisymm (lg_le.mp (by rw [h]; decide)) (lg_ge.mp (by rw [h]; decide))
  · intro h
    subst h
    unfold lg_cmp
    rw [if_neg Int64.lt_irrefl, if_pos rfl]
section MC
variable {p : Program} {l : Launch} {e : Env} {R : Room} {s : State} {m : MethodId} {args : Array Value} {below : List Frame} {meth : Method} {c : Code} {H : Heap} {locs : List Loc} {cells slots : Nat} {Q : State → Prop}
variable {cc : ByteArray} {pc : Nat} {ls : Array Slot} {rest st0 : List Value} {D : va_G} {A : Nat → Prop} {a b : Nat} {G : va_W} {cI cZ : ClassId} {g : Nat → Nat}
variable {y : MethodName} {ws : List Cond} {rm : Room} {own C host : String} {index maxL n nL ci : Nat} {bytes : ByteArray} {ret : Option FieldType} {As : List Value} {Ts : List Cond} {fs : List Value} {q : vw_C} {B : va_W → Prop}
theorem g_blind {av : List Value} : FrameBlind (va_Pc av (gPre D cI cZ A g G)) := fun a U gg mk q => by
  obtain ⟨q0, qP, qK, qN, qZ⟩ := q
  exact ⟨q0, qP, va_K.moved (u := U) (U := U.calling gg mk a) (Vm.Alike.refl U.vm) qK, gN.same (u := U) (U := U.calling gg mk a) rfl qN, gZ.moved (u := U) (U := U.calling gg mk a) (Vm.Alike.refl U.vm) qZ⟩
theorem g_env (hK : va_K D vwCl (gT cI cZ) s) (hN : gN s) (hZ : gZ A g s s.heap) (hP : va_P D vwCl G H) (hS : va_S A s.heap H locs) : ∀ U : State, U.heap = H → s.WarmedH U.vm → gPre D cI cZ A g G U := fun U hU hW => ⟨by rw [hU]; exact hP, va_K.moved hW.alike hK, gN.warm hW hN, by rw [hU]; exact (hZ.kept (fun a h1 h2 => hS.2.1 a h1 h2)).moved hW.alike⟩
theorem mx_cVi {Rv : Int32} (S : CallFix p m c cc nL s args Ts own) (hM : gMi l D cI cZ A g y ws rm (.ref b :: As) G Rv B) (cw : CallW R s args own C index y bytes maxL ret ws rm 0 0 n) (q0 : Nat) (hc : vwCl[ci]? = some q) (hC : q.1 = C) (he : G[q0]? = some (b, .inr (ci, fs))) (hK : va_K D vwCl (gT cI cZ) s) (hN : gN s) (hZ : gZ A g s s.heap) (hP : va_P D vwCl G H) (hS : va_S A s.heap H locs) (hn : As.length = n) (hsize : ls.size = nL) (hstack : st0 = As.reverse ++ .ref b :: rest) (hW : (rest.map fun v => v.category).sum ≤ 8) (hdg : decode cc pc = .ok (.invokevirtual index, 3)) (hf : cells ≤ R.cells ∧ slots ≤ R.slots)
    (kk : ∀ (G1 : va_W) (H1 : Heap) (locs1 : List Loc), va_P D vwCl G1 H1 → va_D A G1 → va_S A s.heap H1 locs1 → B G1 → W p l e R s m args below meth c H1 locs1 cells slots Q (F0 m (pc + 3) ls (.int Rv :: rest))) : W p l e R s m args below meth c H locs cells slots Q (F0 m pc ls st0) := by
  refine va_calli (va_runV (As := As) (rest := rest) S hM cw ⟨g_blind, (by rw [← hC]; exact va_recv hK hP hc he), fun U hU hW => ⟨rfl, g_env hK hN hZ hP hS U hU hW⟩⟩ rfl hn hsize hstack (lv_room hW) hdg hf) hS (fun q _ h => h) (fun q h => h) (fun r G1 t H1 locs1 ht hvm hw hB hz1 hk1 hS1 => ?_)
  obtain ⟨h1, h2⟩ := hB
  rw [ht] at h1
  obtain ⟨rfl, hw⟩ := hw
  exact kk G1 H1 locs1 h1 h2 hS1 hw
theorem mx_cSi {Rv : Int32} (S : CallFix p m c cc nL s args Ts own) (hM : gMi l D cI cZ A g y ws rm (As) G Rv B) (cw : CallB R s args own index y bytes maxL ret ws rm 0 0 n ∧ (Cond.static y).before args s = true) (hK : va_K D vwCl (gT cI cZ) s) (hN : gN s) (hZ : gZ A g s s.heap) (hP : va_P D vwCl G H) (hS : va_S A s.heap H locs) (hn : As.length = n) (hsize : ls.size = nL) (hstack : st0 = As.reverse ++ rest) (hW : (rest.map fun v => v.category).sum ≤ 8) (hdg : decode cc pc = .ok (.invokestatic index, 3)) (hf : cells ≤ R.cells ∧ slots ≤ R.slots)
    (kk : ∀ (G1 : va_W) (H1 : Heap) (locs1 : List Loc), va_P D vwCl G1 H1 → va_D A G1 → va_S A s.heap H1 locs1 → B G1 → W p l e R s m args below meth c H1 locs1 cells slots Q (F0 m (pc + 3) ls (.int Rv :: rest))) : W p l e R s m args below meth c H locs cells slots Q (F0 m pc ls st0) := by
  refine va_calli (va_runS (As := As) (rest := rest) S hM cw ⟨g_blind, fun U hU hW => ⟨rfl, g_env hK hN hZ hP hS U hU hW⟩⟩ rfl hn hsize hstack (lv_room hW) hdg hf) hS (fun q _ h => h) (fun q h => h) (fun r G1 t H1 locs1 ht hvm hw hB hz1 hk1 hS1 => ?_)
  obtain ⟨h1, h2⟩ := hB
  rw [ht] at h1
  obtain ⟨rfl, hw⟩ := hw
  exact kk G1 H1 locs1 h1 h2 hS1 hw
theorem mx_cNi {Rv : Int32} (S : CallFix p m c cc nL s args Ts own) (hM : gMi l D cI cZ A g y ws rm (As) G Rv B) (cw : va_CN R s args own index y host bytes maxL ret ws rm 0 0 n ∧ (Cond.static y).before args s = true ∧ True) (hK : va_K D vwCl (gT cI cZ) s) (hN : gN s) (hZ : gZ A g s s.heap) (hP : va_P D vwCl G H) (hS : va_S A s.heap H locs) (hn : As.length = n) (hsize : ls.size = nL) (hstack : st0 = As.reverse ++ rest) (hW : (rest.map fun v => v.category).sum ≤ 8) (hdg : decode cc pc = .ok (.invokestatic index, 3)) (hf : cells ≤ R.cells ∧ slots ≤ R.slots)
    (kk : ∀ (G1 : va_W) (H1 : Heap) (locs1 : List Loc), va_P D vwCl G1 H1 → va_D A G1 → va_S A s.heap H1 locs1 → B G1 → W p l e R s m args below meth c H1 locs1 cells slots Q (F0 m (pc + 3) ls (.int Rv :: rest))) : W p l e R s m args below meth c H locs cells slots Q (F0 m pc ls st0) := by
  refine va_calli (va_runSN (As := As) (rest := rest) S hM cw ⟨g_blind, fun U hU hW => ⟨rfl, g_env hK hN hZ hP hS U hU hW⟩⟩ rfl hn hsize hstack (lv_room hW) hdg hf) hS (fun q _ h => h) (fun q h => h) (fun r G1 t H1 locs1 ht hvm hw hB hz1 hk1 hS1 => ?_)
  obtain ⟨h1, h2⟩ := hB
  rw [ht] at h1
  obtain ⟨rfl, hw⟩ := hw
  exact kk G1 H1 locs1 h1 h2 hS1 hw
theorem mx_cVl {Rv : Int64} (S : CallFix p m c cc nL s args Ts own) (hM : gMl l D cI cZ A g y ws rm (.ref b :: As) G Rv B) (cw : CallW R s args own C index y bytes maxL ret ws rm 0 0 n) (q0 : Nat) (hc : vwCl[ci]? = some q) (hC : q.1 = C) (he : G[q0]? = some (b, .inr (ci, fs))) (hK : va_K D vwCl (gT cI cZ) s) (hN : gN s) (hZ : gZ A g s s.heap) (hP : va_P D vwCl G H) (hS : va_S A s.heap H locs) (hn : As.length = n) (hsize : ls.size = nL) (hstack : st0 = As.reverse ++ .ref b :: rest) (hW : (rest.map fun v => v.category).sum ≤ 8) (hdg : decode cc pc = .ok (.invokevirtual index, 3)) (hf : cells ≤ R.cells ∧ slots ≤ R.slots)
    (kk : ∀ (G1 : va_W) (H1 : Heap) (locs1 : List Loc), va_P D vwCl G1 H1 → va_D A G1 → va_S A s.heap H1 locs1 → B G1 → W p l e R s m args below meth c H1 locs1 cells slots Q (F0 m (pc + 3) ls (.long Rv :: rest))) : W p l e R s m args below meth c H locs cells slots Q (F0 m pc ls st0) := by
  refine va_calll (va_runV (As := As) (rest := rest) S hM cw ⟨g_blind, (by rw [← hC]; exact va_recv hK hP hc he), fun U hU hW => ⟨rfl, g_env hK hN hZ hP hS U hU hW⟩⟩ rfl hn hsize hstack (lv_room hW) hdg hf) hS (fun q _ h => h) (fun q h => h) (fun r G1 t H1 locs1 ht hvm hw hB hz1 hk1 hS1 => ?_)
  obtain ⟨h1, h2⟩ := hB
  rw [ht] at h1
  obtain ⟨rfl, hw⟩ := hw
  exact kk G1 H1 locs1 h1 h2 hS1 hw
theorem mx_cSl {Rv : Int64} (S : CallFix p m c cc nL s args Ts own) (hM : gMl l D cI cZ A g y ws rm (As) G Rv B) (cw : CallB R s args own index y bytes maxL ret ws rm 0 0 n ∧ (Cond.static y).before args s = true) (hK : va_K D vwCl (gT cI cZ) s) (hN : gN s) (hZ : gZ A g s s.heap) (hP : va_P D vwCl G H) (hS : va_S A s.heap H locs) (hn : As.length = n) (hsize : ls.size = nL) (hstack : st0 = As.reverse ++ rest) (hW : (rest.map fun v => v.category).sum ≤ 8) (hdg : decode cc pc = .ok (.invokestatic index, 3)) (hf : cells ≤ R.cells ∧ slots ≤ R.slots)
    (kk : ∀ (G1 : va_W) (H1 : Heap) (locs1 : List Loc), va_P D vwCl G1 H1 → va_D A G1 → va_S A s.heap H1 locs1 → B G1 → W p l e R s m args below meth c H1 locs1 cells slots Q (F0 m (pc + 3) ls (.long Rv :: rest))) : W p l e R s m args below meth c H locs cells slots Q (F0 m pc ls st0) := by
  refine va_calll (va_runS (As := As) (rest := rest) S hM cw ⟨g_blind, fun U hU hW => ⟨rfl, g_env hK hN hZ hP hS U hU hW⟩⟩ rfl hn hsize hstack (lv_room hW) hdg hf) hS (fun q _ h => h) (fun q h => h) (fun r G1 t H1 locs1 ht hvm hw hB hz1 hk1 hS1 => ?_)
  obtain ⟨h1, h2⟩ := hB
  rw [ht] at h1
  obtain ⟨rfl, hw⟩ := hw
  exact kk G1 H1 locs1 h1 h2 hS1 hw
theorem mx_cNl {Rv : Int64} (S : CallFix p m c cc nL s args Ts own) (hM : gMl l D cI cZ A g y ws rm (As) G Rv B) (cw : va_CN R s args own index y host bytes maxL ret ws rm 0 0 n ∧ (Cond.static y).before args s = true ∧ True) (hK : va_K D vwCl (gT cI cZ) s) (hN : gN s) (hZ : gZ A g s s.heap) (hP : va_P D vwCl G H) (hS : va_S A s.heap H locs) (hn : As.length = n) (hsize : ls.size = nL) (hstack : st0 = As.reverse ++ rest) (hW : (rest.map fun v => v.category).sum ≤ 8) (hdg : decode cc pc = .ok (.invokestatic index, 3)) (hf : cells ≤ R.cells ∧ slots ≤ R.slots)
    (kk : ∀ (G1 : va_W) (H1 : Heap) (locs1 : List Loc), va_P D vwCl G1 H1 → va_D A G1 → va_S A s.heap H1 locs1 → B G1 → W p l e R s m args below meth c H1 locs1 cells slots Q (F0 m (pc + 3) ls (.long Rv :: rest))) : W p l e R s m args below meth c H locs cells slots Q (F0 m pc ls st0) := by
  refine va_calll (va_runSN (As := As) (rest := rest) S hM cw ⟨g_blind, fun U hU hW => ⟨rfl, g_env hK hN hZ hP hS U hU hW⟩⟩ rfl hn hsize hstack (lv_room hW) hdg hf) hS (fun q _ h => h) (fun q h => h) (fun r G1 t H1 locs1 ht hvm hw hB hz1 hk1 hS1 => ?_)
  obtain ⟨h1, h2⟩ := hB
  rw [ht] at h1
  obtain ⟨rfl, hw⟩ := hw
  exact kk G1 H1 locs1 h1 h2 hS1 hw
theorem mx_cVv (S : CallFix p m c cc nL s args Ts own) (hM : gMv l D cI cZ A g y ws rm (.ref b :: As) G B) (cw : CallW R s args own C index y bytes maxL ret ws rm 0 0 n) (q0 : Nat) (hc : vwCl[ci]? = some q) (hC : q.1 = C) (he : G[q0]? = some (b, .inr (ci, fs))) (hK : va_K D vwCl (gT cI cZ) s) (hN : gN s) (hZ : gZ A g s s.heap) (hP : va_P D vwCl G H) (hS : va_S A s.heap H locs) (hn : As.length = n) (hsize : ls.size = nL) (hstack : st0 = As.reverse ++ .ref b :: rest) (hW : (rest.map fun v => v.category).sum ≤ 8) (hdg : decode cc pc = .ok (.invokevirtual index, 3)) (hf : cells ≤ R.cells ∧ slots ≤ R.slots)
    (kk : ∀ (G1 : va_W) (H1 : Heap) (locs1 : List Loc), va_P D vwCl G1 H1 → va_D A G1 → va_S A s.heap H1 locs1 → B G1 → W p l e R s m args below meth c H1 locs1 cells slots Q (F0 m (pc + 3) ls (rest))) : W p l e R s m args below meth c H locs cells slots Q (F0 m pc ls st0) := by
  refine va_callv (va_runV (As := As) (rest := rest) S hM cw ⟨g_blind, (by rw [← hC]; exact va_recv hK hP hc he), fun U hU hW => ⟨rfl, g_env hK hN hZ hP hS U hU hW⟩⟩ rfl hn hsize hstack (lv_room hW) hdg hf) hS (fun q _ h => h) (fun q h => h) (fun G1 t H1 locs1 ht hvm hw hB hz1 hk1 hS1 => ?_)
  obtain ⟨h1, h2⟩ := hB
  rw [ht] at h1
  exact kk G1 H1 locs1 h1 h2 hS1 hw
theorem mx_cSv (S : CallFix p m c cc nL s args Ts own) (hM : gMv l D cI cZ A g y ws rm (As) G B) (cw : CallB R s args own index y bytes maxL ret ws rm 0 0 n ∧ (Cond.static y).before args s = true) (hK : va_K D vwCl (gT cI cZ) s) (hN : gN s) (hZ : gZ A g s s.heap) (hP : va_P D vwCl G H) (hS : va_S A s.heap H locs) (hn : As.length = n) (hsize : ls.size = nL) (hstack : st0 = As.reverse ++ rest) (hW : (rest.map fun v => v.category).sum ≤ 8) (hdg : decode cc pc = .ok (.invokestatic index, 3)) (hf : cells ≤ R.cells ∧ slots ≤ R.slots)
    (kk : ∀ (G1 : va_W) (H1 : Heap) (locs1 : List Loc), va_P D vwCl G1 H1 → va_D A G1 → va_S A s.heap H1 locs1 → B G1 → W p l e R s m args below meth c H1 locs1 cells slots Q (F0 m (pc + 3) ls (rest))) : W p l e R s m args below meth c H locs cells slots Q (F0 m pc ls st0) := by
  refine va_callv (va_runS (As := As) (rest := rest) S hM cw ⟨g_blind, fun U hU hW => ⟨rfl, g_env hK hN hZ hP hS U hU hW⟩⟩ rfl hn hsize hstack (lv_room hW) hdg hf) hS (fun q _ h => h) (fun q h => h) (fun G1 t H1 locs1 ht hvm hw hB hz1 hk1 hS1 => ?_)
  obtain ⟨h1, h2⟩ := hB
  rw [ht] at h1
  exact kk G1 H1 locs1 h1 h2 hS1 hw
theorem mx_cNv (S : CallFix p m c cc nL s args Ts own) (hM : gMv l D cI cZ A g y ws rm (As) G B) (cw : va_CN R s args own index y host bytes maxL ret ws rm 0 0 n ∧ (Cond.static y).before args s = true ∧ True) (hK : va_K D vwCl (gT cI cZ) s) (hN : gN s) (hZ : gZ A g s s.heap) (hP : va_P D vwCl G H) (hS : va_S A s.heap H locs) (hn : As.length = n) (hsize : ls.size = nL) (hstack : st0 = As.reverse ++ rest) (hW : (rest.map fun v => v.category).sum ≤ 8) (hdg : decode cc pc = .ok (.invokestatic index, 3)) (hf : cells ≤ R.cells ∧ slots ≤ R.slots)
    (kk : ∀ (G1 : va_W) (H1 : Heap) (locs1 : List Loc), va_P D vwCl G1 H1 → va_D A G1 → va_S A s.heap H1 locs1 → B G1 → W p l e R s m args below meth c H1 locs1 cells slots Q (F0 m (pc + 3) ls (rest))) : W p l e R s m args below meth c H locs cells slots Q (F0 m pc ls st0) := by
  refine va_callv (va_runSN (As := As) (rest := rest) S hM cw ⟨g_blind, fun U hU hW => ⟨rfl, g_env hK hN hZ hP hS U hU hW⟩⟩ rfl hn hsize hstack (lv_room hW) hdg hf) hS (fun q _ h => h) (fun q h => h) (fun G1 t H1 locs1 ht hvm hw hB hz1 hk1 hS1 => ?_)
  obtain ⟨h1, h2⟩ := hB
  rw [ht] at h1
  exact kk G1 H1 locs1 h1 h2 hS1 hw
theorem gof_i {l : Launch} {Rv : Int32} {ws' : List Cond} {av : List Value} {G0 : va_W} (hy : plainName y.cls = true) (hw : ws = Cond.code y cc maxL (some .int) :: ws') (hfit : (lg_sl av).length ≤ maxL) (hD : va_D A G0)
    (body : ∀ (p : Program) (e : Env) (s : State) (m : MethodId) (args : Array Value) (below : List Frame) (meth : Method) (c : Code) (Q : State → Prop), p.tables.exec = Jvm.exec → c.code = cc → c.maxLocals = maxL → (∀ w ∈ ws, w.before args s = true) → s.vm.findClass y.cls = some m.cls → va_K D vwCl (gT cI cZ) s → gN s → gZ A g s s.heap → va_P D vwCl G0 s.heap → va_S A s.heap s.heap [] → (∀ (pc : Nat) (G : va_W) (H : Heap) (locs : List Loc) (ls : Array Slot) (v : Int32), va_P D vwCl G H → va_D A G → va_S A s.heap H locs → v = Rv → B G → decode cc pc = .ok (.ireturn, 1) → W p l e rm s m args below meth c H locs 0 0 Q (F0 m pc ls [.int v])) →
      ∀ ls : Array Slot, lv_has ls maxL (lv_args 0 av) → W p l e rm s m args below meth c s.heap [] 0 0 Q (F0 m 0 ls [])) : gMi l D cI cZ A g y ws rm av G0 Rv B := by
  refine Met.ofW (cc := cc) (maxL := maxL) (ret := some .int) hy hw ?_
  intro p e s m args below meth c s₁ Bd hml hv
  obtain ⟨rfl, hP, hK, hN, hZ⟩ := hv
  have hlocks := Bd.notSynchronized
  have hl := lv_entry av (n := maxL) hfit
  rw [lg_entry_eq]
  generalize (lg_sl av ++ List.replicate (maxL - (lg_sl av).length) Slot.unset).toArray = ls at hl ⊢
  refine body p e s m _ below meth c _ Bd.exec Bd.bytes hml (atoms_spec (ws := ws) Bd.pre) (findClass_of_methodNamed Bd.named) hK hN hZ hP va_S.rf ?_ ls hl
  intro pc G H locs ls v hP hD hS hv hB hdg
  exact W.iret Bd.exec Bd.bytes Bd.returns (fun t ht _ => ⟨⟨v, G, rfl, ⟨hv, hB⟩, by rw [ht]; exact hP, hD⟩, hS.F ht⟩) hS.2.2 hdg hlocks
theorem gof_l {l : Launch} {Rv : Int64} {ws' : List Cond} {av : List Value} {G0 : va_W} (hy : plainName y.cls = true) (hw : ws = Cond.code y cc maxL (some .long) :: ws') (hfit : (lg_sl av).length ≤ maxL) (hD : va_D A G0)
    (body : ∀ (p : Program) (e : Env) (s : State) (m : MethodId) (args : Array Value) (below : List Frame) (meth : Method) (c : Code) (Q : State → Prop), p.tables.exec = Jvm.exec → c.code = cc → c.maxLocals = maxL → (∀ w ∈ ws, w.before args s = true) → s.vm.findClass y.cls = some m.cls → va_K D vwCl (gT cI cZ) s → gN s → gZ A g s s.heap → va_P D vwCl G0 s.heap → va_S A s.heap s.heap [] → (∀ (pc : Nat) (G : va_W) (H : Heap) (locs : List Loc) (ls : Array Slot) (v : Int64), va_P D vwCl G H → va_D A G → va_S A s.heap H locs → v = Rv → B G → decode cc pc = .ok (.lreturn, 1) → W p l e rm s m args below meth c H locs 0 0 Q (F0 m pc ls [.long v])) →
      ∀ ls : Array Slot, lv_has ls maxL (lv_args 0 av) → W p l e rm s m args below meth c s.heap [] 0 0 Q (F0 m 0 ls [])) : gMl l D cI cZ A g y ws rm av G0 Rv B := by
  refine Met.ofW (cc := cc) (maxL := maxL) (ret := some .long) hy hw ?_
  intro p e s m args below meth c s₁ Bd hml hv
  obtain ⟨rfl, hP, hK, hN, hZ⟩ := hv
  have hlocks := Bd.notSynchronized
  have hl := lv_entry av (n := maxL) hfit
  rw [lg_entry_eq]
  generalize (lg_sl av ++ List.replicate (maxL - (lg_sl av).length) Slot.unset).toArray = ls at hl ⊢
  refine body p e s m _ below meth c _ Bd.exec Bd.bytes hml (atoms_spec (ws := ws) Bd.pre) (findClass_of_methodNamed Bd.named) hK hN hZ hP va_S.rf ?_ ls hl
  intro pc G H locs ls v hP hD hS hv hB hdg
  exact W.lret Bd.exec Bd.bytes Bd.returns (fun t ht _ => ⟨⟨v, G, rfl, ⟨hv, hB⟩, by rw [ht]; exact hP, hD⟩, hS.F ht⟩) hS.2.2 hdg hlocks
theorem gof_z {l : Launch} {Rv : Int32} {ws' : List Cond} {av : List Value} {G0 : va_W} (hy : plainName y.cls = true) (hw : ws = Cond.code y cc maxL (some .boolean) :: ws') (hfit : (lg_sl av).length ≤ maxL) (hD : va_D A G0)
    (body : ∀ (p : Program) (e : Env) (s : State) (m : MethodId) (args : Array Value) (below : List Frame) (meth : Method) (c : Code) (Q : State → Prop), p.tables.exec = Jvm.exec → c.code = cc → c.maxLocals = maxL → (∀ w ∈ ws, w.before args s = true) → s.vm.findClass y.cls = some m.cls → va_K D vwCl (gT cI cZ) s → gN s → gZ A g s s.heap → va_P D vwCl G0 s.heap → va_S A s.heap s.heap [] → (∀ (pc : Nat) (G : va_W) (H : Heap) (locs : List Loc) (ls : Array Slot) (v : Int32), va_P D vwCl G H → va_D A G → va_S A s.heap H locs → narrow .boolean (.int v) = .int v → v = Rv → B G → decode cc pc = .ok (.ireturn, 1) → W p l e rm s m args below meth c H locs 0 0 Q (F0 m pc ls [.int v])) →
      ∀ ls : Array Slot, lv_has ls maxL (lv_args 0 av) → W p l e rm s m args below meth c s.heap [] 0 0 Q (F0 m 0 ls [])) : gMi l D cI cZ A g y ws rm av G0 Rv B := by
  refine Met.ofW (cc := cc) (maxL := maxL) (ret := some .boolean) hy hw ?_
  intro p e s m args below meth c s₁ Bd hml hv
  obtain ⟨rfl, hP, hK, hN, hZ⟩ := hv
  have hlocks := Bd.notSynchronized
  have hl := lv_entry av (n := maxL) hfit
  rw [lg_entry_eq]
  generalize (lg_sl av ++ List.replicate (maxL - (lg_sl av).length) Slot.unset).toArray = ls at hl ⊢
  refine body p e s m _ below meth c _ Bd.exec Bd.bytes hml (atoms_spec (ws := ws) Bd.pre) (findClass_of_methodNamed Bd.named) hK hN hZ hP va_S.rf ?_ ls hl
  intro pc G H locs ls v hP hD hS hnar hv hB hdg
  exact W.zret Bd.exec Bd.bytes Bd.returns hnar (fun t ht _ => ⟨⟨v, G, rfl, ⟨hv, hB⟩, by rw [ht]; exact hP, hD⟩, hS.F ht⟩) hS.2.2 hdg hlocks
theorem gof_v {l : Launch} {ws' : List Cond} {av : List Value} {G0 : va_W} (hy : plainName y.cls = true) (hw : ws = Cond.code y cc maxL (none) :: ws') (hfit : (lg_sl av).length ≤ maxL) (hD : va_D A G0)
    (body : ∀ (p : Program) (e : Env) (s : State) (m : MethodId) (args : Array Value) (below : List Frame) (meth : Method) (c : Code) (Q : State → Prop), p.tables.exec = Jvm.exec → c.code = cc → c.maxLocals = maxL → (∀ w ∈ ws, w.before args s = true) → s.vm.findClass y.cls = some m.cls → va_K D vwCl (gT cI cZ) s → gN s → gZ A g s s.heap → va_P D vwCl G0 s.heap → va_S A s.heap s.heap [] → (∀ (pc : Nat) (G : va_W) (H : Heap) (locs : List Loc) (ls : Array Slot), va_P D vwCl G H → va_D A G → va_S A s.heap H locs → B G → decode cc pc = .ok (.return_, 1) → W p l e rm s m args below meth c H locs 0 0 Q (F0 m pc ls [])) →
      ∀ ls : Array Slot, lv_has ls maxL (lv_args 0 av) → W p l e rm s m args below meth c s.heap [] 0 0 Q (F0 m 0 ls [])) : gMv l D cI cZ A g y ws rm av G0 B := by
  refine Met.ofW (cc := cc) (maxL := maxL) (ret := none) hy hw ?_
  intro p e s m args below meth c s₁ Bd hml hv
  obtain ⟨rfl, hP, hK, hN, hZ⟩ := hv
  have hlocks := Bd.notSynchronized
  have hl := lv_entry av (n := maxL) hfit
  rw [lg_entry_eq]
  generalize (lg_sl av ++ List.replicate (maxL - (lg_sl av).length) Slot.unset).toArray = ls at hl ⊢
  refine body p e s m _ below meth c _ Bd.exec Bd.bytes hml (atoms_spec (ws := ws) Bd.pre) (findClass_of_methodNamed Bd.named) hK hN hZ hP va_S.rf ?_ ls hl
  intro pc G H locs ls hP hD hS hB hdg
  exact W.vret Bd.exec Bd.bytes Bd.returns (fun t ht _ => ⟨⟨G, rfl, hB, by rw [ht]; exact hP, hD⟩, hS.F ht⟩) hS.2.2 hdg hlocks
end MC
end
