section
-- ===== PART A: goes FIRST, ahead of the names: the tables' words, and 'selects' of the private methods out of them =====
/-- a private method of a class that the tables say can be made, by its rows of tables_1 -/
def lw_okq (q : MethodName × Nat) : Prop := (q.1.cls ≠ "java/lang/invoke/MethodHandle" ∧ q.1.cls ≠ "java/lang/invoke/VarHandle") ∧ Cond.instantiable q.1.cls q.2 ∈ tables_1 ∧ Cond.privateMethod q.1 ∈ tables_1 ∧ Cond.instanceMethod q.1 ∈ tables_1
theorem lw_p0 : lw_okq (⟨"InkPress", "printSheet", "()V"⟩, 8) := ⟨⟨by decide +kernel, by decide +kernel⟩, List.mem_of_getElem? (i := 12) (by decide +kernel), List.mem_of_getElem? (i := 328) (by decide +kernel), List.mem_of_getElem? (i := 329) (by decide +kernel)⟩
theorem lw_p1 : lw_okq (⟨"InkPress", "isSteeringDue", "()Z"⟩, 8) := ⟨⟨by decide +kernel, by decide +kernel⟩, List.mem_of_getElem? (i := 12) (by decide +kernel), List.mem_of_getElem? (i := 370) (by decide +kernel), List.mem_of_getElem? (i := 371) (by decide +kernel)⟩
theorem lw_p2 : lw_okq (⟨"InkPress", "steerKeys", "()V"⟩, 8) := ⟨⟨by decide +kernel, by decide +kernel⟩, List.mem_of_getElem? (i := 12) (by decide +kernel), List.mem_of_getElem? (i := 374) (by decide +kernel), List.mem_of_getElem? (i := 375) (by decide +kernel)⟩
theorem lw_p3 : lw_okq (⟨"InkPress$Marks", "spread", "()J"⟩, 12) := ⟨⟨by decide +kernel, by decide +kernel⟩, List.mem_of_getElem? (i := 148) (by decide +kernel), List.mem_of_getElem? (i := 481) (by decide +kernel), List.mem_of_getElem? (i := 482) (by decide +kernel)⟩
theorem lw_p4 : lw_okq (⟨"InkPress$Marks", "stretch", "()J"⟩, 12) := ⟨⟨by decide +kernel, by decide +kernel⟩, List.mem_of_getElem? (i := 148) (by decide +kernel), List.mem_of_getElem? (i := 490) (by decide +kernel), List.mem_of_getElem? (i := 491) (by decide +kernel)⟩
theorem lw_p5 : lw_okq (⟨"InkPress$Marks", "turn", "()J"⟩, 12) := ⟨⟨by decide +kernel, by decide +kernel⟩, List.mem_of_getElem? (i := 148) (by decide +kernel), List.mem_of_getElem? (i := 494) (by decide +kernel), List.mem_of_getElem? (i := 495) (by decide +kernel)⟩
theorem lw_p6 : lw_okq (⟨"InkPress$Marks", "across", "()J"⟩, 12) := ⟨⟨by decide +kernel, by decide +kernel⟩, List.mem_of_getElem? (i := 148) (by decide +kernel), List.mem_of_getElem? (i := 498) (by decide +kernel), List.mem_of_getElem? (i := 499) (by decide +kernel)⟩
theorem lw_p7 : lw_okq (⟨"InkPress$Marks", "up", "()J"⟩, 12) := ⟨⟨by decide +kernel, by decide +kernel⟩, List.mem_of_getElem? (i := 148) (by decide +kernel), List.mem_of_getElem? (i := 502) (by decide +kernel), List.mem_of_getElem? (i := 503) (by decide +kernel)⟩
theorem lw_p8 : lw_okq (⟨"InkPress$Marks", "inThousandths", "(IJ)I"⟩, 12) := ⟨⟨by decide +kernel, by decide +kernel⟩, List.mem_of_getElem? (i := 148) (by decide +kernel), List.mem_of_getElem? (i := 529) (by decide +kernel), List.mem_of_getElem? (i := 530) (by decide +kernel)⟩
theorem lw_p9 : lw_okq (⟨"InkPress$Jobs", "plan", "()V"⟩, 7) := ⟨⟨by decide +kernel, by decide +kernel⟩, List.mem_of_getElem? (i := 191) (by decide +kernel), List.mem_of_getElem? (i := 584) (by decide +kernel), List.mem_of_getElem? (i := 585) (by decide +kernel)⟩
theorem lw_p10 : lw_okq (⟨"InkPress$Jobs", "weigh", "(II)V"⟩, 7) := ⟨⟨by decide +kernel, by decide +kernel⟩, List.mem_of_getElem? (i := 191) (by decide +kernel), List.mem_of_getElem? (i := 591) (by decide +kernel), List.mem_of_getElem? (i := 592) (by decide +kernel)⟩
theorem lw_p11 : lw_okq (⟨"InkPress$Jobs", "bestNext", "(II)I"⟩, 7) := ⟨⟨by decide +kernel, by decide +kernel⟩, List.mem_of_getElem? (i := 191) (by decide +kernel), List.mem_of_getElem? (i := 595) (by decide +kernel), List.mem_of_getElem? (i := 596) (by decide +kernel)⟩
theorem lw_p12 : lw_okq (⟨"InkPress$Jobs", "costsBy", "(III)I"⟩, 7) := ⟨⟨by decide +kernel, by decide +kernel⟩, List.mem_of_getElem? (i := 191) (by decide +kernel), List.mem_of_getElem? (i := 599) (by decide +kernel), List.mem_of_getElem? (i := 600) (by decide +kernel)⟩
theorem lw_p13 : lw_okq (⟨"InkPress$Jobs", "walk", "()V"⟩, 7) := ⟨⟨by decide +kernel, by decide +kernel⟩, List.mem_of_getElem? (i := 191) (by decide +kernel), List.mem_of_getElem? (i := 603) (by decide +kernel), List.mem_of_getElem? (i := 604) (by decide +kernel)⟩
theorem lw_p14 : lw_okq (⟨"InkPressModel", "begin", "()V"⟩, 37) := ⟨⟨by decide +kernel, by decide +kernel⟩, List.mem_of_getElem? (i := 619) (by decide +kernel), List.mem_of_getElem? (i := 625) (by decide +kernel), List.mem_of_getElem? (i := 626) (by decide +kernel)⟩
theorem lw_p15 : lw_okq (⟨"InkPressModel", "isZone", "(I)Z"⟩, 37) := ⟨⟨by decide +kernel, by decide +kernel⟩, List.mem_of_getElem? (i := 619) (by decide +kernel), List.mem_of_getElem? (i := 764) (by decide +kernel), List.mem_of_getElem? (i := 765) (by decide +kernel)⟩
def lw_privs_1 : List (MethodName × Nat) := [(⟨"InkPress", "printSheet", "()V"⟩, 8), (⟨"InkPress", "isSteeringDue", "()Z"⟩, 8), (⟨"InkPress", "steerKeys", "()V"⟩, 8), (⟨"InkPress$Marks", "spread", "()J"⟩, 12), (⟨"InkPress$Marks", "stretch", "()J"⟩, 12), (⟨"InkPress$Marks", "turn", "()J"⟩, 12), (⟨"InkPress$Marks", "across", "()J"⟩, 12), (⟨"InkPress$Marks", "up", "()J"⟩, 12), (⟨"InkPress$Marks", "inThousandths", "(IJ)I"⟩, 12), (⟨"InkPress$Jobs", "plan", "()V"⟩, 7), (⟨"InkPress$Jobs", "weigh", "(II)V"⟩, 7), (⟨"InkPress$Jobs", "bestNext", "(II)I"⟩, 7), (⟨"InkPress$Jobs", "costsBy", "(III)I"⟩, 7), (⟨"InkPress$Jobs", "walk", "()V"⟩, 7), (⟨"InkPressModel", "begin", "()V"⟩, 37), (⟨"InkPressModel", "isZone", "(I)Z"⟩, 37)]
theorem lw_r1 : ∀ q ∈ lw_privs_1, lw_okq q := List.forall_mem_cons.mpr ⟨lw_p0, List.forall_mem_cons.mpr ⟨lw_p1, List.forall_mem_cons.mpr ⟨lw_p2, List.forall_mem_cons.mpr ⟨lw_p3, List.forall_mem_cons.mpr ⟨lw_p4, List.forall_mem_cons.mpr ⟨lw_p5, List.forall_mem_cons.mpr ⟨lw_p6, List.forall_mem_cons.mpr ⟨lw_p7, List.forall_mem_cons.mpr ⟨lw_p8, List.forall_mem_cons.mpr ⟨lw_p9, List.forall_mem_cons.mpr ⟨lw_p10, List.forall_mem_cons.mpr ⟨lw_p11, List.forall_mem_cons.mpr ⟨lw_p12, List.forall_mem_cons.mpr ⟨lw_p13, List.forall_mem_cons.mpr ⟨lw_p14, List.forall_mem_cons.mpr ⟨lw_p15, fun _ h => absurd h List.not_mem_nil⟩⟩⟩⟩⟩⟩⟩⟩⟩⟩⟩⟩⟩⟩⟩⟩
theorem lw_p16 : lw_okq (⟨"InkPressModel", "densityOf", "(II)I"⟩, 37) := ⟨⟨by decide +kernel, by decide +kernel⟩, List.mem_of_getElem? (i := 619) (by decide +kernel), List.mem_of_getElem? (i := 774) (by decide +kernel), List.mem_of_getElem? (i := 775) (by decide +kernel)⟩
theorem lw_p17 : lw_okq (⟨"InkPressModel", "sheet", "()V"⟩, 37) := ⟨⟨by decide +kernel, by decide +kernel⟩, List.mem_of_getElem? (i := 619) (by decide +kernel), List.mem_of_getElem? (i := 787) (by decide +kernel), List.mem_of_getElem? (i := 788) (by decide +kernel)⟩
theorem lw_p18 : lw_okq (⟨"InkPressModel", "drift", "(I)V"⟩, 37) := ⟨⟨by decide +kernel, by decide +kernel⟩, List.mem_of_getElem? (i := 619) (by decide +kernel), List.mem_of_getElem? (i := 791) (by decide +kernel), List.mem_of_getElem? (i := 792) (by decide +kernel)⟩
theorem lw_p19 : lw_okq (⟨"InkPressModel", "steerKeys", "()V"⟩, 37) := ⟨⟨by decide +kernel, by decide +kernel⟩, List.mem_of_getElem? (i := 619) (by decide +kernel), List.mem_of_getElem? (i := 796) (by decide +kernel), List.mem_of_getElem? (i := 797) (by decide +kernel)⟩
theorem lw_p20 : lw_okq (⟨"InkPressModel", "presetOf", "(I)I"⟩, 37) := ⟨⟨by decide +kernel, by decide +kernel⟩, List.mem_of_getElem? (i := 619) (by decide +kernel), List.mem_of_getElem? (i := 823) (by decide +kernel), List.mem_of_getElem? (i := 824) (by decide +kernel)⟩
theorem lw_p21 : lw_okq (⟨"InkPressModel", "findFit", "()Z"⟩, 37) := ⟨⟨by decide +kernel, by decide +kernel⟩, List.mem_of_getElem? (i := 619) (by decide +kernel), List.mem_of_getElem? (i := 852) (by decide +kernel), List.mem_of_getElem? (i := 853) (by decide +kernel)⟩
theorem lw_p22 : lw_okq (⟨"InkPressModel", "layRow", "(II)V"⟩, 37) := ⟨⟨by decide +kernel, by decide +kernel⟩, List.mem_of_getElem? (i := 619) (by decide +kernel), List.mem_of_getElem? (i := 881) (by decide +kernel), List.mem_of_getElem? (i := 882) (by decide +kernel)⟩
theorem lw_p23 : lw_okq (⟨"InkPressModel", "costOf", "()I"⟩, 37) := ⟨⟨by decide +kernel, by decide +kernel⟩, List.mem_of_getElem? (i := 619) (by decide +kernel), List.mem_of_getElem? (i := 885) (by decide +kernel), List.mem_of_getElem? (i := 886) (by decide +kernel)⟩
def lw_privs_2 : List (MethodName × Nat) := [(⟨"InkPressModel", "densityOf", "(II)I"⟩, 37), (⟨"InkPressModel", "sheet", "()V"⟩, 37), (⟨"InkPressModel", "drift", "(I)V"⟩, 37), (⟨"InkPressModel", "steerKeys", "()V"⟩, 37), (⟨"InkPressModel", "presetOf", "(I)I"⟩, 37), (⟨"InkPressModel", "findFit", "()Z"⟩, 37), (⟨"InkPressModel", "layRow", "(II)V"⟩, 37), (⟨"InkPressModel", "costOf", "()I"⟩, 37)]
theorem lw_r2 : ∀ q ∈ lw_privs_2, lw_okq q := List.forall_mem_cons.mpr ⟨lw_p16, List.forall_mem_cons.mpr ⟨lw_p17, List.forall_mem_cons.mpr ⟨lw_p18, List.forall_mem_cons.mpr ⟨lw_p19, List.forall_mem_cons.mpr ⟨lw_p20, List.forall_mem_cons.mpr ⟨lw_p21, List.forall_mem_cons.mpr ⟨lw_p22, List.forall_mem_cons.mpr ⟨lw_p23, fun _ h => absurd h List.not_mem_nil⟩⟩⟩⟩⟩⟩⟩⟩
def lw_privs : List (MethodName × Nat) := lw_privs_1 ++ (lw_privs_2)
def lw_tbl : List Cond := k2_sels lw_privs ++ tables_1
theorem lw_privs_ok : ∀ q ∈ lw_privs, lw_okq q := by
  show ∀ q ∈ lw_privs_1 ++ (lw_privs_2), lw_okq q
  exact List.forall_mem_append.mpr ⟨lw_r1, lw_r2⟩
/-! ===== BEGIN words of one list among another's, by their places ===== -/
theorem goodIn_r {big : List Cond} (ws : List Cond) (ps : List Nat) (hp : ws = ps.filterMap (fun i => big[i]?)) (h : ws.all goodWord = true) : GoodIn big ws := by
  intro w hw
  have h1 := List.all_eq_true.mp h w hw
  rw [hp] at hw
  obtain ⟨i, -, hi⟩ := List.mem_filterMap.mp hw
  have hm : w ∈ big := by first | exact List.mem_of_getElem? hi | exact List.getElem?_mem hi
  exact ⟨hm, good_of_word h1⟩
theorem goodIn_app {big a b : List Cond} (ha : GoodIn big a) (hb : GoodIn big b) : GoodIn big (a ++ b) := fun w h => (List.mem_append.mp h).elim (ha w) (hb w)
theorem goodIn_ca {big a b : List Cond} {c : Cond} (ha : GoodIn big (c :: a)) (hb : GoodIn big b) : GoodIn big (c :: (a ++ b)) := fun w h => (List.mem_cons.mp h).elim (fun e => ha w (List.mem_cons.mpr (Or.inl e))) (fun h => (List.mem_append.mp h).elim (fun h => ha w (List.mem_cons.mpr (Or.inr h))) (hb w))
theorem goodIn_sub {big ws : List Cond} (hm : ∀ w ∈ ws, w ∈ big) (h : ws.all goodWord = true) : GoodIn big ws := fun w hw => ⟨hm w hw, good_of_word (List.all_eq_true.mp h w hw)⟩
/-! ===== END ===== -/

/-! ===== BEGIN printed: names, fields, word lists, decode rows ===== -/
def RX0 : String := "InkPress$Jobs"
def TX0 : u_T := fun k => match k with
  | 0 => ("InkPress$Jobs", "colours", "[I", true)
  | 1 => ("InkPress$Jobs", "papers", "[I", true)
  | 2 => ("InkPress$Jobs", "washes", "[I", true)
  | 3 => ("InkPress$Jobs", "costsToCome", "[I", true)
  | 4 => ("InkPress$Jobs", "best", "[I", true)
  | 5 => ("InkPress$Jobs", "count", "I", false)
  | _ => ("InkPress$Jobs", "isPlanned", "Z", false)
def tyX0 : Nat → FieldType := fun k => match k with
  | 0 => .array .int
  | 1 => .array .int
  | 2 => .array .int
  | 3 => .array .int
  | 4 => .array .int
  | 5 => .int
  | _ => .boolean
abbrev wsX00 : List Cond := u_ws RX0 TX0 7
theorem nmX0 : ∀ a, a < 7 → ∀ b, b < 7 → a ≠ b → (TX0 a).2.1 ≠ (TX0 b).2.1 := by decide +kernel
theorem tyX0_ok : ∀ k, k < 7 → parseFieldDescriptor (TX0 k).2.2.1 = some (tyX0 k) := by decide +kernel
abbrev cX0_init : ByteArray := prog_2_method_1_code
def yX0_init : MethodName := ⟨RX0, "<init>", "()V"⟩
abbrev cX0_isColour : ByteArray := prog_2_method_2_code
def yX0_isColour : MethodName := ⟨RX0, "isColour", "(I)Z"⟩
abbrev cX0_isPaper : ByteArray := prog_2_method_3_code
def yX0_isPaper : MethodName := ⟨RX0, "isPaper", "(I)Z"⟩
abbrev cX0_isWashCost : ByteArray := prog_2_method_4_code
def yX0_isWashCost : MethodName := ⟨RX0, "isWashCost", "(I)Z"⟩
abbrev cX0_has : ByteArray := prog_2_method_5_code
def yX0_has : MethodName := ⟨RX0, "has", "(I)Z"⟩
abbrev cX0_isFull : ByteArray := prog_2_method_6_code
def yX0_isFull : MethodName := ⟨RX0, "isFull", "()Z"⟩
abbrev cX0_add : ByteArray := prog_2_method_7_code
def yX0_add : MethodName := ⟨RX0, "add", "(II)I"⟩
abbrev cX0_removeAll : ByteArray := prog_2_method_8_code
def yX0_removeAll : MethodName := ⟨RX0, "removeAll", "()I"⟩
abbrev cX0_changeWash : ByteArray := prog_2_method_9_code
def yX0_changeWash : MethodName := ⟨RX0, "changeWash", "(III)I"⟩
abbrev cX0_leastCosts : ByteArray := prog_2_method_10_code
def yX0_leastCosts : MethodName := ⟨RX0, "leastCosts", "()I"⟩
abbrev cX0_inOrder : ByteArray := prog_2_method_11_code
def yX0_inOrder : MethodName := ⟨RX0, "inOrder", "(I)I"⟩
abbrev cX0_plan : ByteArray := prog_2_method_12_code
def yX0_plan : MethodName := ⟨RX0, "plan", "()V"⟩
abbrev cX0_weigh : ByteArray := prog_2_method_13_code
def yX0_weigh : MethodName := ⟨RX0, "weigh", "(II)V"⟩
abbrev cX0_walk : ByteArray := prog_2_method_14_code
def yX0_walk : MethodName := ⟨RX0, "walk", "()V"⟩
abbrev cX0_bestNext : ByteArray := prog_2_method_15_code
def yX0_bestNext : MethodName := ⟨RX0, "bestNext", "(II)I"⟩
abbrev cX0_costsBy : ByteArray := prog_2_method_16_code
def yX0_costsBy : MethodName := ⟨RX0, "costsBy", "(III)I"⟩
abbrev cX0_holds : ByteArray := prog_2_method_17_code
def yX0_holds : MethodName := ⟨RX0, "holds", "(II)Z"⟩
def RX1 : String := "InkPress$Marks"
def TX1 : u_T := fun k => match k with
  | 0 => ("InkPress$Marks", "x", "[I", true)
  | 1 => ("InkPress$Marks", "y", "[I", true)
  | 2 => ("InkPress$Marks", "dx", "[I", true)
  | 3 => ("InkPress$Marks", "dy", "[I", true)
  | 4 => ("InkPress$Marks", "count", "I", false)
  | 5 => ("InkPress$Marks", "sumX", "J", false)
  | 6 => ("InkPress$Marks", "sumY", "J", false)
  | 7 => ("InkPress$Marks", "sumDx", "J", false)
  | 8 => ("InkPress$Marks", "sumDy", "J", false)
  | 9 => ("InkPress$Marks", "sumSquares", "J", false)
  | 10 => ("InkPress$Marks", "sumOutward", "J", false)
  | _ => ("InkPress$Marks", "sumAround", "J", false)
def tyX1 : Nat → FieldType := fun k => match k with
  | 0 => .array .int
  | 1 => .array .int
  | 2 => .array .int
  | 3 => .array .int
  | 4 => .int
  | 5 => .long
  | 6 => .long
  | 7 => .long
  | 8 => .long
  | 9 => .long
  | 10 => .long
  | _ => .long
abbrev wsX10 : List Cond := u_ws RX1 TX1 12
theorem nmX1 : ∀ a, a < 12 → ∀ b, b < 12 → a ≠ b → (TX1 a).2.1 ≠ (TX1 b).2.1 := by decide +kernel
theorem tyX1_ok : ∀ k, k < 12 → parseFieldDescriptor (TX1 k).2.2.1 = some (tyX1 k) := by decide +kernel
abbrev cX1_init : ByteArray := prog_3_method_1_code
def yX1_init : MethodName := ⟨RX1, "<init>", "()V"⟩
abbrev cX1_isPlace : ByteArray := prog_3_method_2_code
def yX1_isPlace : MethodName := ⟨RX1, "isPlace", "(I)Z"⟩
abbrev cX1_isOffset : ByteArray := prog_3_method_3_code
def yX1_isOffset : MethodName := ⟨RX1, "isOffset", "(I)Z"⟩
abbrev cX1_has : ByteArray := prog_3_method_4_code
def yX1_has : MethodName := ⟨RX1, "has", "(I)Z"⟩
abbrev cX1_isFull : ByteArray := prog_3_method_5_code
def yX1_isFull : MethodName := ⟨RX1, "isFull", "()Z"⟩
abbrev cX1_add : ByteArray := prog_3_method_6_code
def yX1_add : MethodName := ⟨RX1, "add", "(IIII)I"⟩
abbrev cX1_removeAll : ByteArray := prog_3_method_7_code
def yX1_removeAll : MethodName := ⟨RX1, "removeAll", "()I"⟩
abbrev cX1_isTold : ByteArray := prog_3_method_8_code
def yX1_isTold : MethodName := ⟨RX1, "isTold", "()Z"⟩
abbrev cX1_upper : ByteArray := prog_3_method_9_code
def yX1_upper : MethodName := ⟨RX1, "upper", "(I)J"⟩
abbrev cX1_lower : ByteArray := prog_3_method_10_code
def yX1_lower : MethodName := ⟨RX1, "lower", "(I)J"⟩
abbrev cX1_offAcross : ByteArray := prog_3_method_11_code
def yX1_offAcross : MethodName := ⟨RX1, "offAcross", "(I)I"⟩
abbrev cX1_offUp : ByteArray := prog_3_method_12_code
def yX1_offUp : MethodName := ⟨RX1, "offUp", "(I)I"⟩
abbrev cX1_inThousandths : ByteArray := prog_3_method_13_code
def yX1_inThousandths : MethodName := ⟨RX1, "inThousandths", "(IJ)I"⟩
abbrev cX1_spread : ByteArray := prog_3_method_14_code
def yX1_spread : MethodName := ⟨RX1, "spread", "()J"⟩
abbrev cX1_stretch : ByteArray := prog_3_method_15_code
def yX1_stretch : MethodName := ⟨RX1, "stretch", "()J"⟩
abbrev cX1_turn : ByteArray := prog_3_method_16_code
def yX1_turn : MethodName := ⟨RX1, "turn", "()J"⟩
abbrev cX1_across : ByteArray := prog_3_method_17_code
def yX1_across : MethodName := ⟨RX1, "across", "()J"⟩
abbrev cX1_up : ByteArray := prog_3_method_18_code
def yX1_up : MethodName := ⟨RX1, "up", "()J"⟩
def RX2 : String := "InkPress$PastJobs"
def TX2 : u_T := fun k => match k with
  | 0 => ("InkPress$PastJobs", "count", "I", false)
  | 1 => ("InkPress$PastJobs", "covers", "J", false)
  | 2 => ("InkPress$PastJobs", "keys", "J", false)
  | 3 => ("InkPress$PastJobs", "coversSquared", "J", false)
  | _ => ("InkPress$PastJobs", "coversByKeys", "J", false)
def tyX2 : Nat → FieldType := fun k => match k with
  | 0 => .int
  | 1 => .long
  | 2 => .long
  | 3 => .long
  | _ => .long
abbrev wsX20 : List Cond := u_ws RX2 TX2 5
theorem nmX2 : ∀ a, a < 5 → ∀ b, b < 5 → a ≠ b → (TX2 a).2.1 ≠ (TX2 b).2.1 := by decide +kernel
theorem tyX2_ok : ∀ k, k < 5 → parseFieldDescriptor (TX2 k).2.2.1 = some (tyX2 k) := by decide +kernel
abbrev cX2_init : ByteArray := prog_4_method_1_code
def yX2_init : MethodName := ⟨RX2, "<init>", "()V"⟩
abbrev cX2_isEmpty : ByteArray := prog_4_method_2_code
def yX2_isEmpty : MethodName := ⟨RX2, "isEmpty", "()Z"⟩
abbrev cX2_isFull : ByteArray := prog_4_method_3_code
def yX2_isFull : MethodName := ⟨RX2, "isFull", "()Z"⟩
abbrev cX2_add : ByteArray := prog_4_method_4_code
def yX2_add : MethodName := ⟨RX2, "add", "(II)I"⟩
abbrev cX2_keyFor : ByteArray := prog_4_method_5_code
def yX2_keyFor : MethodName := ⟨RX2, "keyFor", "(I)I"⟩
def RX3 : String := "InkPress$Rules"
def TX3 : u_T := fun k => match k with
  | _ => ("InkPress$Rules", "values", "[I", true)
def tyX3 : Nat → FieldType := fun k => match k with
  | _ => .array .int
abbrev wsX30 : List Cond := u_ws RX3 TX3 1
theorem nmX3 : ∀ a, a < 1 → ∀ b, b < 1 → a ≠ b → (TX3 a).2.1 ≠ (TX3 b).2.1 := by decide +kernel
theorem tyX3_ok : ∀ k, k < 1 → parseFieldDescriptor (TX3 k).2.2.1 = some (tyX3 k) := by decide +kernel
abbrev cX3_init : ByteArray := prog_5_method_1_code
def yX3_init : MethodName := ⟨RX3, "<init>", "()V"⟩
abbrev cX3_has : ByteArray := prog_5_method_2_code
def yX3_has : MethodName := ⟨RX3, "has", "(I)Z"⟩
abbrev cX3_allows : ByteArray := prog_5_method_3_code
def yX3_allows : MethodName := ⟨RX3, "allows", "(II)Z"⟩
abbrev cX3_valueOf : ByteArray := prog_5_method_4_code
def yX3_valueOf : MethodName := ⟨RX3, "valueOf", "(I)I"⟩
abbrev cX3_change : ByteArray := prog_5_method_5_code
def yX3_change : MethodName := ⟨RX3, "change", "(II)I"⟩
def RX4 : String := "InkPress$SheetLog"
def TX4 : u_T := fun k => match k with
  | 0 => ("InkPress$SheetLog", "densities", "[I", true)
  | 1 => ("InkPress$SheetLog", "good", "[Z", true)
  | 2 => ("InkPress$SheetLog", "count", "I", false)
  | 3 => ("InkPress$SheetLog", "goodCount", "I", false)
  | 4 => ("InkPress$SheetLog", "goodInARow", "I", false)
  | _ => ("InkPress$SheetLog", "start", "I", false)
def tyX4 : Nat → FieldType := fun k => match k with
  | 0 => .array .int
  | 1 => .array .boolean
  | 2 => .int
  | 3 => .int
  | 4 => .int
  | _ => .int
abbrev wsX40 : List Cond := u_ws RX4 TX4 6
theorem nmX4 : ∀ a, a < 6 → ∀ b, b < 6 → a ≠ b → (TX4 a).2.1 ≠ (TX4 b).2.1 := by decide +kernel
theorem tyX4_ok : ∀ k, k < 6 → parseFieldDescriptor (TX4 k).2.2.1 = some (tyX4 k) := by decide +kernel
abbrev cX4_init : ByteArray := prog_6_method_1_code
def yX4_init : MethodName := ⟨RX4, "<init>", "()V"⟩
abbrev cX4_restart : ByteArray := prog_6_method_2_code
def yX4_restart : MethodName := ⟨RX4, "restart", "()V"⟩
abbrev cX4_has : ByteArray := prog_6_method_3_code
def yX4_has : MethodName := ⟨RX4, "has", "(I)Z"⟩
abbrev cX4_begin : ByteArray := prog_6_method_4_code
def yX4_begin : MethodName := ⟨RX4, "begin", "()V"⟩
abbrev cX4_note : ByteArray := prog_6_method_5_code
def yX4_note : MethodName := ⟨RX4, "note", "(II)V"⟩
abbrev cX4_judge : ByteArray := prog_6_method_6_code
def yX4_judge : MethodName := ⟨RX4, "judge", "(ZI)V"⟩
abbrev cX4_wasGood : ByteArray := prog_6_method_7_code
def yX4_wasGood : MethodName := ⟨RX4, "wasGood", "(I)Z"⟩
abbrev cX4_densityOn : ByteArray := prog_6_method_8_code
def yX4_densityOn : MethodName := ⟨RX4, "densityOn", "(II)I"⟩
abbrev cX4_latestDensity : ByteArray := prog_6_method_9_code
def yX4_latestDensity : MethodName := ⟨RX4, "latestDensity", "(I)I"⟩
def RX5 : String := "InkPress$Train"
def TX5 : u_T := fun k => match k with
  | 0 => ("InkPress$Train", "ink", "[I", true)
  | 1 => ("InkPress$Train", "zones", "I", false)
  | 2 => ("InkPress$Train", "rollers", "I", false)
  | 3 => ("InkPress$Train", "fed", "I", false)
  | 4 => ("InkPress$Train", "onPaper", "I", false)
  | _ => ("InkPress$Train", "onBars", "I", false)
def tyX5 : Nat → FieldType := fun k => match k with
  | 0 => .array .int
  | 1 => .int
  | 2 => .int
  | 3 => .int
  | 4 => .int
  | _ => .int
abbrev wsX50 : List Cond := u_ws RX5 TX5 6
theorem nmX5 : ∀ a, a < 6 → ∀ b, b < 6 → a ≠ b → (TX5 a).2.1 ≠ (TX5 b).2.1 := by decide +kernel
theorem tyX5_ok : ∀ k, k < 6 → parseFieldDescriptor (TX5 k).2.2.1 = some (tyX5 k) := by decide +kernel
abbrev cX5_init : ByteArray := prog_7_method_1_code
def yX5_init : MethodName := ⟨RX5, "<init>", "()V"⟩
abbrev cX5_restart : ByteArray := prog_7_method_2_code
def yX5_restart : MethodName := ⟨RX5, "restart", "(II)V"⟩
abbrev cX5_has : ByteArray := prog_7_method_3_code
def yX5_has : MethodName := ⟨RX5, "has", "(I)Z"⟩
abbrev cX5_inkAt : ByteArray := prog_7_method_4_code
def yX5_inkAt : MethodName := ⟨RX5, "inkAt", "(II)I"⟩
abbrev cX5_inkOn : ByteArray := prog_7_method_5_code
def yX5_inkOn : MethodName := ⟨RX5, "inkOn", "()I"⟩
abbrev cX5_feedZone : ByteArray := prog_7_method_6_code
def yX5_feedZone : MethodName := ⟨RX5, "feedZone", "(II)V"⟩
abbrev cX5_passOn : ByteArray := prog_7_method_7_code
def yX5_passOn : MethodName := ⟨RX5, "passOn", "(I)V"⟩
abbrev cX5_driftAside : ByteArray := prog_7_method_8_code
def yX5_driftAside : MethodName := ⟨RX5, "driftAside", "(I)V"⟩
abbrev cX5_takeOff : ByteArray := prog_7_method_9_code
def yX5_takeOff : MethodName := ⟨RX5, "takeOff", "(III)I"⟩
abbrev cX5_share : ByteArray := prog_7_method_10_code
def yX5_share : MethodName := ⟨RX5, "share", "(III)I"⟩
def RX6 : String := "InkPress$Zones"
def TX6 : u_T := fun k => match k with
  | 0 => ("InkPress$Zones", "values", "[I", true)
  | _ => ("InkPress$Zones", "count", "I", false)
def tyX6 : Nat → FieldType := fun k => match k with
  | 0 => .array .int
  | _ => .int
abbrev wsX60 : List Cond := u_ws RX6 TX6 2
theorem nmX6 : ∀ a, a < 2 → ∀ b, b < 2 → a ≠ b → (TX6 a).2.1 ≠ (TX6 b).2.1 := by decide +kernel
theorem tyX6_ok : ∀ k, k < 2 → parseFieldDescriptor (TX6 k).2.2.1 = some (tyX6 k) := by decide +kernel
abbrev cX6_init : ByteArray := prog_8_method_1_code
def yX6_init : MethodName := ⟨RX6, "<init>", "()V"⟩
abbrev cX6_restart : ByteArray := prog_8_method_2_code
def yX6_restart : MethodName := ⟨RX6, "restart", "(I)V"⟩
abbrev cX6_has : ByteArray := prog_8_method_3_code
def yX6_has : MethodName := ⟨RX6, "has", "(I)Z"⟩
abbrev cX6_allows : ByteArray := prog_8_method_4_code
def yX6_allows : MethodName := ⟨RX6, "allows", "(II)Z"⟩
abbrev cX6_valueOf : ByteArray := prog_8_method_5_code
def yX6_valueOf : MethodName := ⟨RX6, "valueOf", "(II)I"⟩
abbrev cX6_change : ByteArray := prog_8_method_6_code
def yX6_change : MethodName := ⟨RX6, "change", "(III)I"⟩
def RX7 : String := "InkPress"
def TX7 : u_T := fun k => match k with
  | 0 => ("InkPress", "rules", "LInkPress$Rules;", true)
  | 1 => ("InkPress", "zones", "LInkPress$Zones;", true)
  | 2 => ("InkPress", "train", "LInkPress$Train;", true)
  | 3 => ("InkPress", "sheets", "LInkPress$SheetLog;", true)
  | 4 => ("InkPress", "pastJobs", "LInkPress$PastJobs;", true)
  | 5 => ("InkPress", "marks", "LInkPress$Marks;", true)
  | 6 => ("InkPress", "jobs", "LInkPress$Jobs;", true)
  | _ => ("InkPress", "steering", "Z", false)
def tyX7 : Nat → FieldType := fun k => match k with
  | 0 => .object "InkPress$Rules"
  | 1 => .object "InkPress$Zones"
  | 2 => .object "InkPress$Train"
  | 3 => .object "InkPress$SheetLog"
  | 4 => .object "InkPress$PastJobs"
  | 5 => .object "InkPress$Marks"
  | 6 => .object "InkPress$Jobs"
  | _ => .boolean
abbrev wsX70 : List Cond := u_ws RX7 TX7 8
theorem nmX7 : ∀ a, a < 8 → ∀ b, b < 8 → a ≠ b → (TX7 a).2.1 ≠ (TX7 b).2.1 := by decide +kernel
theorem tyX7_ok : ∀ k, k < 8 → parseFieldDescriptor (TX7 k).2.2.1 = some (tyX7 k) := by decide +kernel
abbrev cX7_init : ByteArray := prog_1_method_1_code
def yX7_init : MethodName := ⟨RX7, "<init>", "()V"⟩
abbrev cX7_press : ByteArray := prog_1_method_2_code
def yX7_press : MethodName := ⟨RX7, "press", "(II)I"⟩
abbrev cX7_rule : ByteArray := prog_1_method_3_code
def yX7_rule : MethodName := ⟨RX7, "rule", "(II)I"⟩
abbrev cX7_set : ByteArray := prog_1_method_4_code
def yX7_set : MethodName := ⟨RX7, "set", "(III)I"⟩
abbrev cX7_zone : ByteArray := prog_1_method_5_code
def yX7_zone : MethodName := ⟨RX7, "zone", "(II)I"⟩
abbrev cX7_ink : ByteArray := prog_1_method_6_code
def yX7_ink : MethodName := ⟨RX7, "ink", "(II)I"⟩
abbrev cX7_print : ByteArray := prog_1_method_7_code
def yX7_print : MethodName := ⟨RX7, "print", "(I)I"⟩
abbrev cX7_steer : ByteArray := prog_1_method_8_code
def yX7_steer : MethodName := ⟨RX7, "steer", "(Z)I"⟩
abbrev cX7_good : ByteArray := prog_1_method_9_code
def yX7_good : MethodName := ⟨RX7, "good", "(I)I"⟩
abbrev cX7_density : ByteArray := prog_1_method_10_code
def yX7_density : MethodName := ⟨RX7, "density", "(II)I"⟩
abbrev cX7_past : ByteArray := prog_1_method_11_code
def yX7_past : MethodName := ⟨RX7, "past", "(II)I"⟩
abbrev cX7_preset : ByteArray := prog_1_method_12_code
def yX7_preset : MethodName := ⟨RX7, "preset", "(I)I"⟩
abbrev cX7_presets : ByteArray := prog_1_method_13_code
def yX7_presets : MethodName := ⟨RX7, "presets", "()I"⟩
abbrev cX7_told : ByteArray := prog_1_method_14_code
def yX7_told : MethodName := ⟨RX7, "told", "(I)I"⟩
abbrev cX7_mark : ByteArray := prog_1_method_15_code
def yX7_mark : MethodName := ⟨RX7, "mark", "(IIII)I"⟩
abbrev cX7_clear : ByteArray := prog_1_method_16_code
def yX7_clear : MethodName := ⟨RX7, "clear", "()I"⟩
abbrev cX7_fit : ByteArray := prog_1_method_17_code
def yX7_fit : MethodName := ⟨RX7, "fit", "(II)J"⟩
abbrev cX7_off : ByteArray := prog_1_method_18_code
def yX7_off : MethodName := ⟨RX7, "off", "(II)I"⟩
abbrev cX7_job : ByteArray := prog_1_method_19_code
def yX7_job : MethodName := ⟨RX7, "job", "(II)I"⟩
abbrev cX7_forget : ByteArray := prog_1_method_20_code
def yX7_forget : MethodName := ⟨RX7, "forget", "()I"⟩
abbrev cX7_wash : ByteArray := prog_1_method_21_code
def yX7_wash : MethodName := ⟨RX7, "wash", "(III)I"⟩
abbrev cX7_order : ByteArray := prog_1_method_22_code
def yX7_order : MethodName := ⟨RX7, "order", "()I"⟩
abbrev cX7_orderAt : ByteArray := prog_1_method_23_code
def yX7_orderAt : MethodName := ⟨RX7, "orderAt", "(I)I"⟩
abbrev cX7_printSheet : ByteArray := prog_1_method_24_code
def yX7_printSheet : MethodName := ⟨RX7, "printSheet", "()V"⟩
abbrev cX7_isSteeringDue : ByteArray := prog_1_method_25_code
def yX7_isSteeringDue : MethodName := ⟨RX7, "isSteeringDue", "()Z"⟩
abbrev cX7_steerKeys : ByteArray := prog_1_method_26_code
def yX7_steerKeys : MethodName := ⟨RX7, "steerKeys", "()V"⟩
abbrev cX7_within : ByteArray := prog_1_method_27_code
def yX7_within : MethodName := ⟨RX7, "within", "(III)Z"⟩
abbrev cX7_held : ByteArray := prog_1_method_28_code
def yX7_held : MethodName := ⟨RX7, "held", "(JII)I"⟩
abbrev cX7_commonDivisor : ByteArray := prog_1_method_29_code
def yX7_commonDivisor : MethodName := ⟨RX7, "commonDivisor", "(JJ)J"⟩
def RX8 : String := "InkPressModel"
def TX8 : u_T := fun k => match k with
  | 0 => ("InkPressModel", "zones", "I", false)
  | 1 => ("InkPressModel", "rollers", "I", false)
  | 2 => ("InkPressModel", "rules", "[I", true)
  | 3 => ("InkPressModel", "key", "[I", true)
  | 4 => ("InkPressModel", "cover", "[I", true)
  | 5 => ("InkPressModel", "target", "[I", true)
  | 6 => ("InkPressModel", "ink", "[I", true)
  | 7 => ("InkPressModel", "density", "[I", true)
  | 8 => ("InkPressModel", "isGood", "[Z", true)
  | 9 => ("InkPressModel", "sheets", "I", false)
  | 10 => ("InkPressModel", "goodMany", "I", false)
  | 11 => ("InkPressModel", "together", "I", false)
  | 12 => ("InkPressModel", "start", "I", false)
  | 13 => ("InkPressModel", "fed", "I", false)
  | 14 => ("InkPressModel", "paper", "I", false)
  | 15 => ("InkPressModel", "bars", "I", false)
  | 16 => ("InkPressModel", "steers", "Z", false)
  | 17 => ("InkPressModel", "aside", "[I", true)
  | 18 => ("InkPressModel", "pastCover", "[I", true)
  | 19 => ("InkPressModel", "pastKey", "[I", true)
  | 20 => ("InkPressModel", "pastMany", "I", false)
  | 21 => ("InkPressModel", "markX", "[I", true)
  | 22 => ("InkPressModel", "markY", "[I", true)
  | 23 => ("InkPressModel", "markDx", "[I", true)
  | 24 => ("InkPressModel", "markDy", "[I", true)
  | 25 => ("InkPressModel", "marks", "I", false)
  | 26 => ("InkPressModel", "all", "J", false)
  | 27 => ("InkPressModel", "stretch", "J", false)
  | 28 => ("InkPressModel", "turn", "J", false)
  | 29 => ("InkPressModel", "across", "J", false)
  | 30 => ("InkPressModel", "above", "J", false)
  | 31 => ("InkPressModel", "colour", "[I", true)
  | 32 => ("InkPressModel", "sheetOf", "[I", true)
  | 33 => ("InkPressModel", "washes", "[I", true)
  | 34 => ("InkPressModel", "jobs", "I", false)
  | 35 => ("InkPressModel", "row", "[I", true)
  | _ => ("InkPressModel", "best", "[I", true)
def tyX8 : Nat → FieldType := fun k => match k with
  | 0 => .int
  | 1 => .int
  | 2 => .array .int
  | 3 => .array .int
  | 4 => .array .int
  | 5 => .array .int
  | 6 => .array .int
  | 7 => .array .int
  | 8 => .array .boolean
  | 9 => .int
  | 10 => .int
  | 11 => .int
  | 12 => .int
  | 13 => .int
  | 14 => .int
  | 15 => .int
  | 16 => .boolean
  | 17 => .array .int
  | 18 => .array .int
  | 19 => .array .int
  | 20 => .int
  | 21 => .array .int
  | 22 => .array .int
  | 23 => .array .int
  | 24 => .array .int
  | 25 => .int
  | 26 => .long
  | 27 => .long
  | 28 => .long
  | 29 => .long
  | 30 => .long
  | 31 => .array .int
  | 32 => .array .int
  | 33 => .array .int
  | 34 => .int
  | 35 => .array .int
  | _ => .array .int
abbrev wsX80 : List Cond := u_ws RX8 TX8 37
theorem nmX8 : ∀ a, a < 37 → ∀ b, b < 37 → a ≠ b → (TX8 a).2.1 ≠ (TX8 b).2.1 := by decide +kernel
theorem tyX8_ok : ∀ k, k < 37 → parseFieldDescriptor (TX8 k).2.2.1 = some (tyX8 k) := by decide +kernel
abbrev cX8_init : ByteArray := prog_10_method_1_code
def yX8_init : MethodName := ⟨RX8, "<init>", "()V"⟩
abbrev cX8_in : ByteArray := prog_10_method_3_code
def yX8_in : MethodName := ⟨RX8, "in", "(JJJ)Z"⟩
abbrev cX8_begin : ByteArray := prog_10_method_4_code
def yX8_begin : MethodName := ⟨RX8, "begin", "()V"⟩
abbrev cX8_isZone : ByteArray := prog_10_method_5_code
def yX8_isZone : MethodName := ⟨RX8, "isZone", "(I)Z"⟩
abbrev cX8_press : ByteArray := prog_10_method_6_code
def yX8_press : MethodName := ⟨RX8, "press", "(II)I"⟩
abbrev cX8_mostOf : ByteArray := prog_10_method_7_code
def yX8_mostOf : MethodName := ⟨RX8, "mostOf", "(I)I"⟩
abbrev cX8_rule : ByteArray := prog_10_method_8_code
def yX8_rule : MethodName := ⟨RX8, "rule", "(II)I"⟩
abbrev cX8_set : ByteArray := prog_10_method_9_code
def yX8_set : MethodName := ⟨RX8, "set", "(III)I"⟩
abbrev cX8_densityOf : ByteArray := prog_10_method_10_code
def yX8_densityOf : MethodName := ⟨RX8, "densityOf", "(II)I"⟩
abbrev cX8_zone : ByteArray := prog_10_method_11_code
def yX8_zone : MethodName := ⟨RX8, "zone", "(II)I"⟩
abbrev cX8_ink : ByteArray := prog_10_method_12_code
def yX8_ink : MethodName := ⟨RX8, "ink", "(II)I"⟩
abbrev cX8_drift : ByteArray := prog_10_method_13_code
def yX8_drift : MethodName := ⟨RX8, "drift", "(I)V"⟩
abbrev cX8_sheet : ByteArray := prog_10_method_14_code
def yX8_sheet : MethodName := ⟨RX8, "sheet", "()V"⟩
abbrev cX8_held : ByteArray := prog_10_method_15_code
def yX8_held : MethodName := ⟨RX8, "held", "(III)I"⟩
abbrev cX8_steerKeys : ByteArray := prog_10_method_16_code
def yX8_steerKeys : MethodName := ⟨RX8, "steerKeys", "()V"⟩
abbrev cX8_print : ByteArray := prog_10_method_17_code
def yX8_print : MethodName := ⟨RX8, "print", "(I)I"⟩
abbrev cX8_steer : ByteArray := prog_10_method_18_code
def yX8_steer : MethodName := ⟨RX8, "steer", "(Z)I"⟩
abbrev cX8_good : ByteArray := prog_10_method_19_code
def yX8_good : MethodName := ⟨RX8, "good", "(I)I"⟩
abbrev cX8_density : ByteArray := prog_10_method_20_code
def yX8_density : MethodName := ⟨RX8, "density", "(II)I"⟩
abbrev cX8_past : ByteArray := prog_10_method_21_code
def yX8_past : MethodName := ⟨RX8, "past", "(II)I"⟩
abbrev cX8_presetOf : ByteArray := prog_10_method_22_code
def yX8_presetOf : MethodName := ⟨RX8, "presetOf", "(I)I"⟩
abbrev cX8_preset : ByteArray := prog_10_method_23_code
def yX8_preset : MethodName := ⟨RX8, "preset", "(I)I"⟩
abbrev cX8_presets : ByteArray := prog_10_method_24_code
def yX8_presets : MethodName := ⟨RX8, "presets", "()I"⟩
abbrev cX8_told : ByteArray := prog_10_method_25_code
def yX8_told : MethodName := ⟨RX8, "told", "(I)I"⟩
abbrev cX8_isPlace : ByteArray := prog_10_method_26_code
def yX8_isPlace : MethodName := ⟨RX8, "isPlace", "(III)Z"⟩
abbrev cX8_mark : ByteArray := prog_10_method_27_code
def yX8_mark : MethodName := ⟨RX8, "mark", "(IIII)I"⟩
abbrev cX8_clear : ByteArray := prog_10_method_28_code
def yX8_clear : MethodName := ⟨RX8, "clear", "()I"⟩
abbrev cX8_findFit : ByteArray := prog_10_method_29_code
def yX8_findFit : MethodName := ⟨RX8, "findFit", "()Z"⟩
abbrev cX8_lowest : ByteArray := prog_10_method_30_code
def yX8_lowest : MethodName := ⟨RX8, "lowest", "(JJI)J"⟩
abbrev cX8_fit : ByteArray := prog_10_method_31_code
def yX8_fit : MethodName := ⟨RX8, "fit", "(II)J"⟩
abbrev cX8_off : ByteArray := prog_10_method_32_code
def yX8_off : MethodName := ⟨RX8, "off", "(II)I"⟩
abbrev cX8_job : ByteArray := prog_10_method_33_code
def yX8_job : MethodName := ⟨RX8, "job", "(II)I"⟩
abbrev cX8_forget : ByteArray := prog_10_method_34_code
def yX8_forget : MethodName := ⟨RX8, "forget", "()I"⟩
abbrev cX8_wash : ByteArray := prog_10_method_35_code
def yX8_wash : MethodName := ⟨RX8, "wash", "(III)I"⟩
abbrev cX8_layRow : ByteArray := prog_10_method_36_code
def yX8_layRow : MethodName := ⟨RX8, "layRow", "(II)V"⟩
abbrev cX8_costOf : ByteArray := prog_10_method_37_code
def yX8_costOf : MethodName := ⟨RX8, "costOf", "()I"⟩
abbrev cX8_order : ByteArray := prog_10_method_38_code
def yX8_order : MethodName := ⟨RX8, "order", "()I"⟩
abbrev cX8_orderAt : ByteArray := prog_10_method_39_code
def yX8_orderAt : MethodName := ⟨RX8, "orderAt", "(I)I"⟩
def RJx8e188 : String := "java/lang/Cloneable"
def TJx8e188 : u_T := fun k => match k with
  | _ => ("", "", "", false)
def tyJx8e188 : Nat → FieldType := fun k => match k with
  | _ => .int
abbrev wsJx8e1880 : List Cond := u_ws RJx8e188 TJx8e188 0
theorem nmJx8e188 : ∀ a, a < 0 → ∀ b, b < 0 → a ≠ b → (TJx8e188 a).2.1 ≠ (TJx8e188 b).2.1 := by decide +kernel
theorem tyJx8e188_ok : ∀ k, k < 0 → parseFieldDescriptor (TJx8e188 k).2.2.1 = some (tyJx8e188 k) := by decide +kernel
def RJ9 : String := "java/lang/Math"
def TJ9 : u_T := fun k => match k with
  | _ => ("", "", "", false)
def tyJ9 : Nat → FieldType := fun k => match k with
  | _ => .int
abbrev wsJ90 : List Cond := u_ws RJ9 TJ9 0
theorem nmJ9 : ∀ a, a < 0 → ∀ b, b < 0 → a ≠ b → (TJ9 a).2.1 ≠ (TJ9 b).2.1 := by decide +kernel
theorem tyJ9_ok : ∀ k, k < 0 → parseFieldDescriptor (TJ9 k).2.2.1 = some (tyJ9 k) := by decide +kernel
abbrev cJ9_abs_0f7a4 : ByteArray := prog_12_method_59_code
def yJ9_abs_0f7a4 : MethodName := ⟨RJ9, "abs", "(I)I"⟩
abbrev cJ9_abs_067f4 : ByteArray := prog_12_method_61_code
def yJ9_abs_067f4 : MethodName := ⟨RJ9, "abs", "(J)J"⟩
abbrev cJ9_max_f86c9 : ByteArray := prog_12_method_66_code
def yJ9_max_f86c9 : MethodName := ⟨RJ9, "max", "(JJ)J"⟩
abbrev cJ9_min_f86c9 : ByteArray := prog_12_method_70_code
def yJ9_min_f86c9 : MethodName := ⟨RJ9, "min", "(JJ)J"⟩
def RL : String := "InkPressLaw"
abbrev cL_law : ByteArray := code
def yL_law : MethodName := ⟨RL, "law", "([I)Z"⟩
def wsX0_init : List Cond := .code yX0_init cX0_init 2 none :: ([.methodLink RX0 5 objectInit, .instanceMethod objectInit, .code objectInit ⟨#[0xb1]⟩ 1 none, .arrayClass .int, .fieldLink RX0 11 "InkPress$Jobs" "colours" "[I", .fieldLink RX0 15 "InkPress$Jobs" "papers" "[I", .fieldLink RX0 18 "InkPress$Jobs" "washes" "[I", .fieldLink RX0 21 "InkPress$Jobs" "costsToCome" "[I", .fieldLink RX0 24 "InkPress$Jobs" "best" "[I"] ++ wsX00)
def wsX0_isColour : List Cond := .code yX0_isColour cX0_isColour 1 (some .boolean) :: ([])
def wsX0_isPaper : List Cond := .code yX0_isPaper cX0_isPaper 1 (some .boolean) :: ([])
def wsX7_within : List Cond := .code yX7_within cX7_within 3 (some .boolean) :: ([])
def wsX0_isWashCost : List Cond := .code yX0_isWashCost cX0_isWashCost 1 (some .boolean) :: ([.static yX7_within, .initialized RX7, .code yX7_within cX7_within 3 (some .boolean)])
def wsX0_has : List Cond := .code yX0_has cX0_has 2 (some .boolean) :: ([.fieldLink RX0 31 "InkPress$Jobs" "count" "I"] ++ wsX00)
def wsX0_isFull : List Cond := .code yX0_isFull cX0_isFull 1 (some .boolean) :: ([.fieldLink RX0 31 "InkPress$Jobs" "count" "I"] ++ wsX00)
def wsX0_add : List Cond := .code yX0_add cX0_add 3 (some .int) :: ([.fieldLink RX0 11 "InkPress$Jobs" "colours" "[I", .fieldLink RX0 31 "InkPress$Jobs" "count" "I", .fieldLink RX0 15 "InkPress$Jobs" "papers" "[I", .fieldLink RX0 35 "InkPress$Jobs" "isPlanned" "Z"] ++ wsX00)
def wsX0_removeAll : List Cond := .code yX0_removeAll cX0_removeAll 2 (some .int) :: ([.fieldLink RX0 31 "InkPress$Jobs" "count" "I", .fieldLink RX0 35 "InkPress$Jobs" "isPlanned" "Z"] ++ wsX00)
def wsX0_changeWash : List Cond := .code yX0_changeWash cX0_changeWash 6 (some .int) :: ([.fieldLink RX0 18 "InkPress$Jobs" "washes" "[I", .fieldLink RX0 35 "InkPress$Jobs" "isPlanned" "Z"] ++ wsX00)
def wsX0_holds : List Cond := .code yX0_holds cX0_holds 2 (some .boolean) :: ([])
def wsX0_costsBy : List Cond := .code yX0_costsBy cX0_costsBy 6 (some .int) :: ([.fieldLink RX0 18 "InkPress$Jobs" "washes" "[I", .fieldLink RX0 11 "InkPress$Jobs" "colours" "[I", .fieldLink RX0 15 "InkPress$Jobs" "papers" "[I", .fieldLink RX0 21 "InkPress$Jobs" "costsToCome" "[I"] ++ wsX00)
def wsX0_bestNext : List Cond := .code yX0_bestNext cX0_bestNext 7 (some .int) :: ([.fieldLink RX0 31 "InkPress$Jobs" "count" "I", .methodLink RX0 42 yX0_holds, .static yX0_holds, .initialized RX0, .code yX0_holds cX0_holds 2 (some .boolean), .methodLink RX0 57 yX0_costsBy, .instanceMethod yX0_costsBy, .selects RX0 yX0_costsBy yX0_costsBy, .code yX0_costsBy cX0_costsBy 6 (some .int), .fieldLink RX0 18 "InkPress$Jobs" "washes" "[I", .fieldLink RX0 11 "InkPress$Jobs" "colours" "[I", .fieldLink RX0 15 "InkPress$Jobs" "papers" "[I", .fieldLink RX0 21 "InkPress$Jobs" "costsToCome" "[I"] ++ wsX00)
def wsX0_weigh : List Cond := .code yX0_weigh cX0_weigh 4 none :: ([.fieldLink RX0 21 "InkPress$Jobs" "costsToCome" "[I", .methodLink RX0 53 yX0_bestNext, .instanceMethod yX0_bestNext, .selects RX0 yX0_bestNext yX0_bestNext, .initialized RX0, .code yX0_bestNext cX0_bestNext 7 (some .int), .fieldLink RX0 31 "InkPress$Jobs" "count" "I", .methodLink RX0 42 yX0_holds, .static yX0_holds, .code yX0_holds cX0_holds 2 (some .boolean), .methodLink RX0 57 yX0_costsBy, .instanceMethod yX0_costsBy, .selects RX0 yX0_costsBy yX0_costsBy, .code yX0_costsBy cX0_costsBy 6 (some .int), .fieldLink RX0 18 "InkPress$Jobs" "washes" "[I", .fieldLink RX0 11 "InkPress$Jobs" "colours" "[I", .fieldLink RX0 15 "InkPress$Jobs" "papers" "[I"] ++ wsX00)
def wsX0_walk : List Cond := .code yX0_walk cX0_walk 5 none :: ([.fieldLink RX0 31 "InkPress$Jobs" "count" "I", .fieldLink RX0 24 "InkPress$Jobs" "best" "[I", .methodLink RX0 53 yX0_bestNext, .instanceMethod yX0_bestNext, .selects RX0 yX0_bestNext yX0_bestNext, .initialized RX0, .code yX0_bestNext cX0_bestNext 7 (some .int), .methodLink RX0 42 yX0_holds, .static yX0_holds, .code yX0_holds cX0_holds 2 (some .boolean), .methodLink RX0 57 yX0_costsBy, .instanceMethod yX0_costsBy, .selects RX0 yX0_costsBy yX0_costsBy, .code yX0_costsBy cX0_costsBy 6 (some .int), .fieldLink RX0 18 "InkPress$Jobs" "washes" "[I", .fieldLink RX0 11 "InkPress$Jobs" "colours" "[I", .fieldLink RX0 15 "InkPress$Jobs" "papers" "[I", .fieldLink RX0 21 "InkPress$Jobs" "costsToCome" "[I"] ++ wsX00)
def wsX0_plan_r1 : List Cond := [Cond.fieldLink RX0 35 "InkPress$Jobs" "isPlanned" "Z", Cond.fieldLink RX0 31 "InkPress$Jobs" "count" "I", Cond.methodLink RX0 42 yX0_holds, Cond.static yX0_holds, Cond.initialized RX0, Cond.code yX0_holds cX0_holds 2 (some .boolean), Cond.methodLink RX0 46 yX0_weigh, Cond.instanceMethod yX0_weigh, Cond.selects RX0 yX0_weigh yX0_weigh, Cond.code yX0_weigh cX0_weigh 4 none, Cond.fieldLink RX0 21 "InkPress$Jobs" "costsToCome" "[I", Cond.methodLink RX0 53 yX0_bestNext, Cond.instanceMethod yX0_bestNext, Cond.selects RX0 yX0_bestNext yX0_bestNext, Cond.code yX0_bestNext cX0_bestNext 7 (some .int), Cond.methodLink RX0 57 yX0_costsBy, Cond.instanceMethod yX0_costsBy, Cond.selects RX0 yX0_costsBy yX0_costsBy, Cond.code yX0_costsBy cX0_costsBy 6 (some .int), Cond.fieldLink RX0 18 "InkPress$Jobs" "washes" "[I", Cond.fieldLink RX0 11 "InkPress$Jobs" "colours" "[I", Cond.fieldLink RX0 15 "InkPress$Jobs" "papers" "[I", Cond.methodLink RX0 50 yX0_walk, Cond.instanceMethod yX0_walk]
def wsX0_plan_r2 : List Cond := [Cond.selects RX0 yX0_walk yX0_walk, Cond.code yX0_walk cX0_walk 5 none, Cond.fieldLink RX0 24 "InkPress$Jobs" "best" "[I"]
def wsX0_plan : List Cond := .code yX0_plan cX0_plan 3 none :: ((wsX0_plan_r1 ++ wsX0_plan_r2) ++ wsX00)
def wsX0_leastCosts_r1 : List Cond := [Cond.fieldLink RX0 21 "InkPress$Jobs" "costsToCome" "[I", Cond.methodLink RX0 39 yX0_plan, Cond.instanceMethod yX0_plan, Cond.selects RX0 yX0_plan yX0_plan, Cond.initialized RX0, Cond.code yX0_plan cX0_plan 3 none, Cond.fieldLink RX0 35 "InkPress$Jobs" "isPlanned" "Z", Cond.fieldLink RX0 31 "InkPress$Jobs" "count" "I", Cond.methodLink RX0 42 yX0_holds, Cond.static yX0_holds, Cond.code yX0_holds cX0_holds 2 (some .boolean), Cond.methodLink RX0 46 yX0_weigh, Cond.instanceMethod yX0_weigh, Cond.selects RX0 yX0_weigh yX0_weigh, Cond.code yX0_weigh cX0_weigh 4 none, Cond.methodLink RX0 53 yX0_bestNext, Cond.instanceMethod yX0_bestNext, Cond.selects RX0 yX0_bestNext yX0_bestNext, Cond.code yX0_bestNext cX0_bestNext 7 (some .int), Cond.methodLink RX0 57 yX0_costsBy, Cond.instanceMethod yX0_costsBy, Cond.selects RX0 yX0_costsBy yX0_costsBy, Cond.code yX0_costsBy cX0_costsBy 6 (some .int), Cond.fieldLink RX0 18 "InkPress$Jobs" "washes" "[I"]
def wsX0_leastCosts_r2 : List Cond := [Cond.fieldLink RX0 11 "InkPress$Jobs" "colours" "[I", Cond.fieldLink RX0 15 "InkPress$Jobs" "papers" "[I", Cond.methodLink RX0 50 yX0_walk, Cond.instanceMethod yX0_walk, Cond.selects RX0 yX0_walk yX0_walk, Cond.code yX0_walk cX0_walk 5 none, Cond.fieldLink RX0 24 "InkPress$Jobs" "best" "[I"]
def wsX0_leastCosts : List Cond := .code yX0_leastCosts cX0_leastCosts 1 (some .int) :: ((wsX0_leastCosts_r1 ++ wsX0_leastCosts_r2) ++ wsX00)
def wsX0_inOrder_r1 : List Cond := [Cond.fieldLink RX0 24 "InkPress$Jobs" "best" "[I", Cond.methodLink RX0 39 yX0_plan, Cond.instanceMethod yX0_plan, Cond.selects RX0 yX0_plan yX0_plan, Cond.initialized RX0, Cond.code yX0_plan cX0_plan 3 none, Cond.fieldLink RX0 35 "InkPress$Jobs" "isPlanned" "Z", Cond.fieldLink RX0 31 "InkPress$Jobs" "count" "I", Cond.methodLink RX0 42 yX0_holds, Cond.static yX0_holds, Cond.code yX0_holds cX0_holds 2 (some .boolean), Cond.methodLink RX0 46 yX0_weigh, Cond.instanceMethod yX0_weigh, Cond.selects RX0 yX0_weigh yX0_weigh, Cond.code yX0_weigh cX0_weigh 4 none, Cond.fieldLink RX0 21 "InkPress$Jobs" "costsToCome" "[I", Cond.methodLink RX0 53 yX0_bestNext, Cond.instanceMethod yX0_bestNext, Cond.selects RX0 yX0_bestNext yX0_bestNext, Cond.code yX0_bestNext cX0_bestNext 7 (some .int), Cond.methodLink RX0 57 yX0_costsBy, Cond.instanceMethod yX0_costsBy, Cond.selects RX0 yX0_costsBy yX0_costsBy, Cond.code yX0_costsBy cX0_costsBy 6 (some .int)]
def wsX0_inOrder_r2 : List Cond := [Cond.fieldLink RX0 18 "InkPress$Jobs" "washes" "[I", Cond.fieldLink RX0 11 "InkPress$Jobs" "colours" "[I", Cond.fieldLink RX0 15 "InkPress$Jobs" "papers" "[I", Cond.methodLink RX0 50 yX0_walk, Cond.instanceMethod yX0_walk, Cond.selects RX0 yX0_walk yX0_walk, Cond.code yX0_walk cX0_walk 5 none]
def wsX0_inOrder : List Cond := .code yX0_inOrder cX0_inOrder 2 (some .int) :: ((wsX0_inOrder_r1 ++ wsX0_inOrder_r2) ++ wsX00)
def wsX1_init : List Cond := .code yX1_init cX1_init 1 none :: ([.methodLink RX1 3 objectInit, .instanceMethod objectInit, .code objectInit ⟨#[0xb1]⟩ 1 none, .arrayClass .int, .fieldLink RX1 11 "InkPress$Marks" "x" "[I", .fieldLink RX1 15 "InkPress$Marks" "y" "[I", .fieldLink RX1 18 "InkPress$Marks" "dx" "[I", .fieldLink RX1 21 "InkPress$Marks" "dy" "[I"] ++ wsX10)
def wsX1_isPlace : List Cond := .code yX1_isPlace cX1_isPlace 1 (some .boolean) :: ([.static yX7_within, .initialized RX7, .code yX7_within cX7_within 3 (some .boolean)])
def wsX1_isOffset : List Cond := .code yX1_isOffset cX1_isOffset 1 (some .boolean) :: ([.static yX7_within, .initialized RX7, .code yX7_within cX7_within 3 (some .boolean)])
def wsX1_has : List Cond := .code yX1_has cX1_has 2 (some .boolean) :: ([.fieldLink RX1 28 "InkPress$Marks" "count" "I"] ++ wsX10)
def wsX1_isFull : List Cond := .code yX1_isFull cX1_isFull 1 (some .boolean) :: ([.fieldLink RX1 28 "InkPress$Marks" "count" "I"] ++ wsX10)
def wsX1_add : List Cond := .code yX1_add cX1_add 5 (some .int) :: ([.fieldLink RX1 11 "InkPress$Marks" "x" "[I", .fieldLink RX1 28 "InkPress$Marks" "count" "I", .fieldLink RX1 15 "InkPress$Marks" "y" "[I", .fieldLink RX1 18 "InkPress$Marks" "dx" "[I", .fieldLink RX1 21 "InkPress$Marks" "dy" "[I", .fieldLink RX1 32 "InkPress$Marks" "sumX" "J", .fieldLink RX1 36 "InkPress$Marks" "sumY" "J", .fieldLink RX1 39 "InkPress$Marks" "sumDx" "J", .fieldLink RX1 42 "InkPress$Marks" "sumDy" "J", .fieldLink RX1 45 "InkPress$Marks" "sumSquares" "J", .fieldLink RX1 48 "InkPress$Marks" "sumOutward" "J", .fieldLink RX1 51 "InkPress$Marks" "sumAround" "J"] ++ wsX10)
def wsX1_removeAll : List Cond := .code yX1_removeAll cX1_removeAll 2 (some .int) :: ([.fieldLink RX1 28 "InkPress$Marks" "count" "I", .fieldLink RX1 32 "InkPress$Marks" "sumX" "J", .fieldLink RX1 36 "InkPress$Marks" "sumY" "J", .fieldLink RX1 39 "InkPress$Marks" "sumDx" "J", .fieldLink RX1 42 "InkPress$Marks" "sumDy" "J", .fieldLink RX1 45 "InkPress$Marks" "sumSquares" "J", .fieldLink RX1 48 "InkPress$Marks" "sumOutward" "J", .fieldLink RX1 51 "InkPress$Marks" "sumAround" "J"] ++ wsX10)
def wsX1_spread : List Cond := .code yX1_spread cX1_spread 1 (some .long) :: ([.fieldLink RX1 28 "InkPress$Marks" "count" "I", .fieldLink RX1 45 "InkPress$Marks" "sumSquares" "J", .fieldLink RX1 32 "InkPress$Marks" "sumX" "J", .fieldLink RX1 36 "InkPress$Marks" "sumY" "J"] ++ wsX10)
def wsX1_isTold : List Cond := .code yX1_isTold cX1_isTold 1 (some .boolean) :: ([.methodLink RX1 54 yX1_spread, .instanceMethod yX1_spread, .selects RX1 yX1_spread yX1_spread, .initialized RX1, .code yX1_spread cX1_spread 1 (some .long), .fieldLink RX1 28 "InkPress$Marks" "count" "I", .fieldLink RX1 45 "InkPress$Marks" "sumSquares" "J", .fieldLink RX1 32 "InkPress$Marks" "sumX" "J", .fieldLink RX1 36 "InkPress$Marks" "sumY" "J"] ++ wsX10)
def wsX1_stretch : List Cond := .code yX1_stretch cX1_stretch 1 (some .long) :: ([.fieldLink RX1 28 "InkPress$Marks" "count" "I", .fieldLink RX1 48 "InkPress$Marks" "sumOutward" "J", .fieldLink RX1 32 "InkPress$Marks" "sumX" "J", .fieldLink RX1 39 "InkPress$Marks" "sumDx" "J", .fieldLink RX1 36 "InkPress$Marks" "sumY" "J", .fieldLink RX1 42 "InkPress$Marks" "sumDy" "J"] ++ wsX10)
def wsX1_turn : List Cond := .code yX1_turn cX1_turn 1 (some .long) :: ([.fieldLink RX1 28 "InkPress$Marks" "count" "I", .fieldLink RX1 51 "InkPress$Marks" "sumAround" "J", .fieldLink RX1 32 "InkPress$Marks" "sumX" "J", .fieldLink RX1 42 "InkPress$Marks" "sumDy" "J", .fieldLink RX1 36 "InkPress$Marks" "sumY" "J", .fieldLink RX1 39 "InkPress$Marks" "sumDx" "J"] ++ wsX10)
def wsX1_across : List Cond := .code yX1_across cX1_across 1 (some .long) :: ([.fieldLink RX1 39 "InkPress$Marks" "sumDx" "J", .fieldLink RX1 32 "InkPress$Marks" "sumX" "J", .fieldLink RX1 36 "InkPress$Marks" "sumY" "J", .methodLink RX1 54 yX1_spread, .instanceMethod yX1_spread, .selects RX1 yX1_spread yX1_spread, .initialized RX1, .code yX1_spread cX1_spread 1 (some .long), .fieldLink RX1 28 "InkPress$Marks" "count" "I", .fieldLink RX1 45 "InkPress$Marks" "sumSquares" "J", .methodLink RX1 58 yX1_stretch, .instanceMethod yX1_stretch, .selects RX1 yX1_stretch yX1_stretch, .code yX1_stretch cX1_stretch 1 (some .long), .fieldLink RX1 48 "InkPress$Marks" "sumOutward" "J", .fieldLink RX1 42 "InkPress$Marks" "sumDy" "J", .methodLink RX1 61 yX1_turn, .instanceMethod yX1_turn, .selects RX1 yX1_turn yX1_turn, .code yX1_turn cX1_turn 1 (some .long), .fieldLink RX1 51 "InkPress$Marks" "sumAround" "J"] ++ wsX10)
def wsX1_up : List Cond := .code yX1_up cX1_up 1 (some .long) :: ([.fieldLink RX1 42 "InkPress$Marks" "sumDy" "J", .fieldLink RX1 36 "InkPress$Marks" "sumY" "J", .fieldLink RX1 32 "InkPress$Marks" "sumX" "J", .methodLink RX1 54 yX1_spread, .instanceMethod yX1_spread, .selects RX1 yX1_spread yX1_spread, .initialized RX1, .code yX1_spread cX1_spread 1 (some .long), .fieldLink RX1 28 "InkPress$Marks" "count" "I", .fieldLink RX1 45 "InkPress$Marks" "sumSquares" "J", .methodLink RX1 58 yX1_stretch, .instanceMethod yX1_stretch, .selects RX1 yX1_stretch yX1_stretch, .code yX1_stretch cX1_stretch 1 (some .long), .fieldLink RX1 48 "InkPress$Marks" "sumOutward" "J", .fieldLink RX1 39 "InkPress$Marks" "sumDx" "J", .methodLink RX1 61 yX1_turn, .instanceMethod yX1_turn, .selects RX1 yX1_turn yX1_turn, .code yX1_turn cX1_turn 1 (some .long), .fieldLink RX1 51 "InkPress$Marks" "sumAround" "J"] ++ wsX10)
def wsX1_upper_r1 : List Cond := [Cond.methodLink RX1 58 yX1_stretch, Cond.instanceMethod yX1_stretch, Cond.selects RX1 yX1_stretch yX1_stretch, Cond.initialized RX1, Cond.code yX1_stretch cX1_stretch 1 (some .long), Cond.fieldLink RX1 28 "InkPress$Marks" "count" "I", Cond.fieldLink RX1 48 "InkPress$Marks" "sumOutward" "J", Cond.fieldLink RX1 32 "InkPress$Marks" "sumX" "J", Cond.fieldLink RX1 39 "InkPress$Marks" "sumDx" "J", Cond.fieldLink RX1 36 "InkPress$Marks" "sumY" "J", Cond.fieldLink RX1 42 "InkPress$Marks" "sumDy" "J", Cond.methodLink RX1 61 yX1_turn, Cond.instanceMethod yX1_turn, Cond.selects RX1 yX1_turn yX1_turn, Cond.code yX1_turn cX1_turn 1 (some .long), Cond.fieldLink RX1 51 "InkPress$Marks" "sumAround" "J", Cond.methodLink RX1 64 yX1_across, Cond.instanceMethod yX1_across, Cond.selects RX1 yX1_across yX1_across, Cond.code yX1_across cX1_across 1 (some .long), Cond.methodLink RX1 54 yX1_spread, Cond.instanceMethod yX1_spread, Cond.selects RX1 yX1_spread yX1_spread, Cond.code yX1_spread cX1_spread 1 (some .long)]
def wsX1_upper_r2 : List Cond := [Cond.fieldLink RX1 45 "InkPress$Marks" "sumSquares" "J", Cond.methodLink RX1 67 yX1_up, Cond.instanceMethod yX1_up, Cond.selects RX1 yX1_up yX1_up, Cond.code yX1_up cX1_up 1 (some .long)]
def wsX1_upper : List Cond := .code yX1_upper cX1_upper 2 (some .long) :: ((wsX1_upper_r1 ++ wsX1_upper_r2) ++ wsX10)
def wsX1_lower : List Cond := .code yX1_lower cX1_lower 2 (some .long) :: ([.fieldLink RX1 28 "InkPress$Marks" "count" "I", .methodLink RX1 54 yX1_spread, .instanceMethod yX1_spread, .selects RX1 yX1_spread yX1_spread, .initialized RX1, .code yX1_spread cX1_spread 1 (some .long), .fieldLink RX1 45 "InkPress$Marks" "sumSquares" "J", .fieldLink RX1 32 "InkPress$Marks" "sumX" "J", .fieldLink RX1 36 "InkPress$Marks" "sumY" "J"] ++ wsX10)
def wsX1_inThousandths : List Cond := .code yX1_inThousandths cX1_inThousandths 6 (some .int) :: ([.fieldLink RX1 28 "InkPress$Marks" "count" "I", .constantLong RX1 74 (1000), .methodLink RX1 54 yX1_spread, .instanceMethod yX1_spread, .selects RX1 yX1_spread yX1_spread, .initialized RX1, .code yX1_spread cX1_spread 1 (some .long), .fieldLink RX1 45 "InkPress$Marks" "sumSquares" "J", .fieldLink RX1 32 "InkPress$Marks" "sumX" "J", .fieldLink RX1 36 "InkPress$Marks" "sumY" "J"] ++ wsX10)
def wsX1_offAcross_r1 : List Cond := [Cond.fieldLink RX1 28 "InkPress$Marks" "count" "I", Cond.fieldLink RX1 11 "InkPress$Marks" "x" "[I", Cond.fieldLink RX1 15 "InkPress$Marks" "y" "[I", Cond.fieldLink RX1 18 "InkPress$Marks" "dx" "[I", Cond.methodLink RX1 58 yX1_stretch, Cond.instanceMethod yX1_stretch, Cond.selects RX1 yX1_stretch yX1_stretch, Cond.initialized RX1, Cond.code yX1_stretch cX1_stretch 1 (some .long), Cond.fieldLink RX1 48 "InkPress$Marks" "sumOutward" "J", Cond.fieldLink RX1 32 "InkPress$Marks" "sumX" "J", Cond.fieldLink RX1 39 "InkPress$Marks" "sumDx" "J", Cond.fieldLink RX1 36 "InkPress$Marks" "sumY" "J", Cond.fieldLink RX1 42 "InkPress$Marks" "sumDy" "J", Cond.methodLink RX1 61 yX1_turn, Cond.instanceMethod yX1_turn, Cond.selects RX1 yX1_turn yX1_turn, Cond.code yX1_turn cX1_turn 1 (some .long), Cond.fieldLink RX1 51 "InkPress$Marks" "sumAround" "J", Cond.methodLink RX1 64 yX1_across, Cond.instanceMethod yX1_across, Cond.selects RX1 yX1_across yX1_across, Cond.code yX1_across cX1_across 1 (some .long), Cond.methodLink RX1 54 yX1_spread]
def wsX1_offAcross_r2 : List Cond := [Cond.instanceMethod yX1_spread, Cond.selects RX1 yX1_spread yX1_spread, Cond.code yX1_spread cX1_spread 1 (some .long), Cond.fieldLink RX1 45 "InkPress$Marks" "sumSquares" "J", Cond.methodLink RX1 70 yX1_inThousandths, Cond.instanceMethod yX1_inThousandths, Cond.selects RX1 yX1_inThousandths yX1_inThousandths, Cond.code yX1_inThousandths cX1_inThousandths 6 (some .int), Cond.constantLong RX1 74 (1000)]
def wsX1_offAcross : List Cond := .code yX1_offAcross cX1_offAcross 4 (some .int) :: ((wsX1_offAcross_r1 ++ wsX1_offAcross_r2) ++ wsX10)
def wsX1_offUp_r1 : List Cond := [Cond.fieldLink RX1 28 "InkPress$Marks" "count" "I", Cond.fieldLink RX1 15 "InkPress$Marks" "y" "[I", Cond.fieldLink RX1 11 "InkPress$Marks" "x" "[I", Cond.fieldLink RX1 21 "InkPress$Marks" "dy" "[I", Cond.methodLink RX1 58 yX1_stretch, Cond.instanceMethod yX1_stretch, Cond.selects RX1 yX1_stretch yX1_stretch, Cond.initialized RX1, Cond.code yX1_stretch cX1_stretch 1 (some .long), Cond.fieldLink RX1 48 "InkPress$Marks" "sumOutward" "J", Cond.fieldLink RX1 32 "InkPress$Marks" "sumX" "J", Cond.fieldLink RX1 39 "InkPress$Marks" "sumDx" "J", Cond.fieldLink RX1 36 "InkPress$Marks" "sumY" "J", Cond.fieldLink RX1 42 "InkPress$Marks" "sumDy" "J", Cond.methodLink RX1 61 yX1_turn, Cond.instanceMethod yX1_turn, Cond.selects RX1 yX1_turn yX1_turn, Cond.code yX1_turn cX1_turn 1 (some .long), Cond.fieldLink RX1 51 "InkPress$Marks" "sumAround" "J", Cond.methodLink RX1 67 yX1_up, Cond.instanceMethod yX1_up, Cond.selects RX1 yX1_up yX1_up, Cond.code yX1_up cX1_up 1 (some .long), Cond.methodLink RX1 54 yX1_spread]
def wsX1_offUp_r2 : List Cond := [Cond.instanceMethod yX1_spread, Cond.selects RX1 yX1_spread yX1_spread, Cond.code yX1_spread cX1_spread 1 (some .long), Cond.fieldLink RX1 45 "InkPress$Marks" "sumSquares" "J", Cond.methodLink RX1 70 yX1_inThousandths, Cond.instanceMethod yX1_inThousandths, Cond.selects RX1 yX1_inThousandths yX1_inThousandths, Cond.code yX1_inThousandths cX1_inThousandths 6 (some .int), Cond.constantLong RX1 74 (1000)]
def wsX1_offUp : List Cond := .code yX1_offUp cX1_offUp 4 (some .int) :: ((wsX1_offUp_r1 ++ wsX1_offUp_r2) ++ wsX10)
def wsX2_init : List Cond := .code yX2_init cX2_init 1 none :: ([.methodLink RX2 3 objectInit, .instanceMethod objectInit, .code objectInit ⟨#[0xb1]⟩ 1 none, .fieldLink RX2 9 "InkPress$PastJobs" "count" "I"] ++ wsX20)
def wsX2_isEmpty : List Cond := .code yX2_isEmpty cX2_isEmpty 1 (some .boolean) :: ([.fieldLink RX2 9 "InkPress$PastJobs" "count" "I"] ++ wsX20)
def wsX2_isFull : List Cond := .code yX2_isFull cX2_isFull 1 (some .boolean) :: ([.fieldLink RX2 9 "InkPress$PastJobs" "count" "I"] ++ wsX20)
def wsX2_add : List Cond := .code yX2_add cX2_add 3 (some .int) :: ([.fieldLink RX2 9 "InkPress$PastJobs" "count" "I", .fieldLink RX2 15 "InkPress$PastJobs" "covers" "J", .fieldLink RX2 19 "InkPress$PastJobs" "keys" "J", .fieldLink RX2 22 "InkPress$PastJobs" "coversSquared" "J", .fieldLink RX2 25 "InkPress$PastJobs" "coversByKeys" "J"] ++ wsX20)
def wsX7_held : List Cond := .code yX7_held cX7_held 4 (some .int) :: ([.methodLink RX7 253 Lib.MathLoose.min_long.x, .static Lib.MathLoose.min_long.x, .initialized "java/lang/Math", .code Lib.MathLoose.min_long.x Lib.MathLoose.min_long.code 4 (some .long), .methodLink RX7 256 Lib.MathLoose.max_long.x, .static Lib.MathLoose.max_long.x, .code Lib.MathLoose.max_long.x Lib.MathLoose.max_long.code 4 (some .long)])
def wsX2_keyFor : List Cond := .code yX2_keyFor cX2_keyFor 8 (some .int) :: ([.fieldLink RX2 9 "InkPress$PastJobs" "count" "I", .fieldLink RX2 22 "InkPress$PastJobs" "coversSquared" "J", .fieldLink RX2 15 "InkPress$PastJobs" "covers" "J", .fieldLink RX2 19 "InkPress$PastJobs" "keys" "J", .fieldLink RX2 25 "InkPress$PastJobs" "coversByKeys" "J", .static yX7_held, .initialized RX7, .code yX7_held cX7_held 4 (some .int), .methodLink RX7 253 Lib.MathLoose.min_long.x, .static Lib.MathLoose.min_long.x, .initialized "java/lang/Math", .code Lib.MathLoose.min_long.x Lib.MathLoose.min_long.code 4 (some .long), .methodLink RX7 256 Lib.MathLoose.max_long.x, .static Lib.MathLoose.max_long.x, .code Lib.MathLoose.max_long.x Lib.MathLoose.max_long.code 4 (some .long)] ++ wsX20)
def wsX3_init : List Cond := .code yX3_init cX3_init 1 none :: ([.methodLink RX3 1 objectInit, .instanceMethod objectInit, .code objectInit ⟨#[0xb1]⟩ 1 none, .fieldLink RX3 7 "InkPress$Rules" "FIRST" "[I", .methodLink RX3 13 ⟨"[I", "clone", "()Ljava/lang/Object;"⟩, .sameMethod "[I" "java/lang/Object" "clone" "()Ljava/lang/Object;", .native ⟨"java/lang/Object", "clone", "()Ljava/lang/Object;"⟩, .instanceMethod ⟨"java/lang/Object", "clone", "()Ljava/lang/Object;"⟩, .selects "[I" ⟨"[I", "clone", "()Ljava/lang/Object;"⟩ ⟨"java/lang/Object", "clone", "()Ljava/lang/Object;"⟩, .classLink RX3 14 "[I", .fieldLink RX3 18 "InkPress$Rules" "values" "[I"] ++ wsX30)
def wsX3_has : List Cond := .code yX3_has cX3_has 2 (some .boolean) :: ([.fieldLink RX3 18 "InkPress$Rules" "values" "[I"] ++ wsX30)
def wsX3_allows : List Cond := .code yX3_allows cX3_allows 3 (some .boolean) :: ([.fieldLink RX3 21 "InkPress$Rules" "LEAST" "[I", .fieldLink RX3 24 "InkPress$Rules" "MOST" "[I", .static yX7_within, .initialized RX7, .code yX7_within cX7_within 3 (some .boolean)])
def wsX3_valueOf : List Cond := .code yX3_valueOf cX3_valueOf 2 (some .int) :: ([.fieldLink RX3 18 "InkPress$Rules" "values" "[I"] ++ wsX30)
def wsX3_change : List Cond := .code yX3_change cX3_change 4 (some .int) :: ([.fieldLink RX3 18 "InkPress$Rules" "values" "[I"] ++ wsX30)
def wsX4_restart : List Cond := .code yX4_restart cX4_restart 1 none :: ([.fieldLink RX4 22 "InkPress$SheetLog" "count" "I", .fieldLink RX4 26 "InkPress$SheetLog" "goodCount" "I", .fieldLink RX4 29 "InkPress$SheetLog" "goodInARow" "I", .fieldLink RX4 32 "InkPress$SheetLog" "start" "I"] ++ wsX40)
def wsX4_init : List Cond := .code yX4_init cX4_init 1 none :: ([.methodLink RX4 3 objectInit, .instanceMethod objectInit, .code objectInit ⟨#[0xb1]⟩ 1 none, .arrayClass .int, .fieldLink RX4 9 "InkPress$SheetLog" "densities" "[I", .arrayClass .boolean, .fieldLink RX4 15 "InkPress$SheetLog" "good" "[Z", .methodLink RX4 19 yX4_restart, .instanceMethod yX4_restart, .selects RX4 yX4_restart yX4_restart, .initialized RX4, .code yX4_restart cX4_restart 1 none, .fieldLink RX4 22 "InkPress$SheetLog" "count" "I", .fieldLink RX4 26 "InkPress$SheetLog" "goodCount" "I", .fieldLink RX4 29 "InkPress$SheetLog" "goodInARow" "I", .fieldLink RX4 32 "InkPress$SheetLog" "start" "I"] ++ wsX40)
def wsX4_has : List Cond := .code yX4_has cX4_has 2 (some .boolean) :: ([.fieldLink RX4 22 "InkPress$SheetLog" "count" "I"] ++ wsX40)
def wsX4_begin : List Cond := .code yX4_begin cX4_begin 1 none :: ([.fieldLink RX4 22 "InkPress$SheetLog" "count" "I"] ++ wsX40)
def wsX4_note : List Cond := .code yX4_note cX4_note 3 none :: ([.fieldLink RX4 9 "InkPress$SheetLog" "densities" "[I", .fieldLink RX4 22 "InkPress$SheetLog" "count" "I"] ++ wsX40)
def wsX4_judge : List Cond := .code yX4_judge cX4_judge 3 none :: ([.fieldLink RX4 15 "InkPress$SheetLog" "good" "[Z", .fieldLink RX4 22 "InkPress$SheetLog" "count" "I", .fieldLink RX4 29 "InkPress$SheetLog" "goodInARow" "I", .fieldLink RX4 26 "InkPress$SheetLog" "goodCount" "I", .fieldLink RX4 32 "InkPress$SheetLog" "start" "I"] ++ wsX40)
def wsX4_wasGood : List Cond := .code yX4_wasGood cX4_wasGood 2 (some .boolean) :: ([.fieldLink RX4 15 "InkPress$SheetLog" "good" "[Z"] ++ wsX40)
def wsX4_densityOn : List Cond := .code yX4_densityOn cX4_densityOn 3 (some .int) :: ([.fieldLink RX4 9 "InkPress$SheetLog" "densities" "[I"] ++ wsX40)
def wsX4_latestDensity : List Cond := .code yX4_latestDensity cX4_latestDensity 2 (some .int) :: ([.fieldLink RX4 22 "InkPress$SheetLog" "count" "I", .methodLink RX4 35 yX4_densityOn, .instanceMethod yX4_densityOn, .selects RX4 yX4_densityOn yX4_densityOn, .initialized RX4, .code yX4_densityOn cX4_densityOn 3 (some .int), .fieldLink RX4 9 "InkPress$SheetLog" "densities" "[I"] ++ wsX40)
def wsX5_restart : List Cond := .code yX5_restart cX5_restart 4 none :: ([.fieldLink RX5 19 "InkPress$Train" "zones" "I", .fieldLink RX5 23 "InkPress$Train" "rollers" "I", .fieldLink RX5 26 "InkPress$Train" "fed" "I", .fieldLink RX5 29 "InkPress$Train" "onPaper" "I", .fieldLink RX5 32 "InkPress$Train" "onBars" "I", .fieldLink RX5 9 "InkPress$Train" "ink" "[I"] ++ wsX50)
def wsX5_init : List Cond := .code yX5_init cX5_init 1 none :: ([.methodLink RX5 3 objectInit, .instanceMethod objectInit, .code objectInit ⟨#[0xb1]⟩ 1 none, .arrayClass .int, .fieldLink RX5 9 "InkPress$Train" "ink" "[I", .methodLink RX5 15 yX5_restart, .instanceMethod yX5_restart, .selects RX5 yX5_restart yX5_restart, .initialized RX5, .code yX5_restart cX5_restart 4 none, .fieldLink RX5 19 "InkPress$Train" "zones" "I", .fieldLink RX5 23 "InkPress$Train" "rollers" "I", .fieldLink RX5 26 "InkPress$Train" "fed" "I", .fieldLink RX5 29 "InkPress$Train" "onPaper" "I", .fieldLink RX5 32 "InkPress$Train" "onBars" "I"] ++ wsX50)
def wsX5_has : List Cond := .code yX5_has cX5_has 2 (some .boolean) :: ([.fieldLink RX5 23 "InkPress$Train" "rollers" "I"] ++ wsX50)
def wsX5_inkAt : List Cond := .code yX5_inkAt cX5_inkAt 3 (some .int) :: ([.fieldLink RX5 9 "InkPress$Train" "ink" "[I"] ++ wsX50)
def wsX5_inkOn : List Cond := .code yX5_inkOn cX5_inkOn 3 (some .int) :: ([.fieldLink RX5 9 "InkPress$Train" "ink" "[I"] ++ wsX50)
def wsX5_feedZone : List Cond := .code yX5_feedZone cX5_feedZone 3 none :: ([.fieldLink RX5 9 "InkPress$Train" "ink" "[I", .fieldLink RX5 26 "InkPress$Train" "fed" "I"] ++ wsX50)
def wsX5_share : List Cond := .code yX5_share cX5_share 3 (some .int) :: ([])
def wsX5_passOn : List Cond := .code yX5_passOn cX5_passOn 6 none :: ([.fieldLink RX5 23 "InkPress$Train" "rollers" "I", .fieldLink RX5 19 "InkPress$Train" "zones" "I", .fieldLink RX5 9 "InkPress$Train" "ink" "[I", .methodLink RX5 35 yX5_share, .static yX5_share, .initialized RX5, .code yX5_share cX5_share 3 (some .int)] ++ wsX50)
def wsX5_driftAside : List Cond := .code yX5_driftAside cX5_driftAside 7 none :: ([.fieldLink RX5 23 "InkPress$Train" "rollers" "I", .fieldLink RX5 9 "InkPress$Train" "ink" "[I", .fieldLink RX5 19 "InkPress$Train" "zones" "I", .methodLink RX5 35 yX5_share, .static yX5_share, .initialized RX5, .code yX5_share cX5_share 3 (some .int)] ++ wsX50)
def wsX5_takeOff : List Cond := .code yX5_takeOff cX5_takeOff 7 (some .int) :: ([.fieldLink RX5 23 "InkPress$Train" "rollers" "I", .fieldLink RX5 9 "InkPress$Train" "ink" "[I", .fieldLink RX5 29 "InkPress$Train" "onPaper" "I", .fieldLink RX5 32 "InkPress$Train" "onBars" "I", .methodLink RX5 35 yX5_share, .static yX5_share, .initialized RX5, .code yX5_share cX5_share 3 (some .int)] ++ wsX50)
def wsX6_restart : List Cond := .code yX6_restart cX6_restart 3 none :: ([.fieldLink RX6 22 "InkPress$Zones" "count" "I", .fieldLink RX6 15 "InkPress$Zones" "values" "[I", .fieldLink RX6 9 "InkPress$Zones" "FIRST" "[I"] ++ wsX60)
def wsX6_init : List Cond := .code yX6_init cX6_init 1 none :: ([.methodLink RX6 3 objectInit, .instanceMethod objectInit, .code objectInit ⟨#[0xb1]⟩ 1 none, .fieldLink RX6 9 "InkPress$Zones" "FIRST" "[I", .arrayClass .int, .fieldLink RX6 15 "InkPress$Zones" "values" "[I", .methodLink RX6 18 yX6_restart, .instanceMethod yX6_restart, .selects RX6 yX6_restart yX6_restart, .initialized RX6, .code yX6_restart cX6_restart 3 none, .fieldLink RX6 22 "InkPress$Zones" "count" "I"] ++ wsX60)
def wsX6_has : List Cond := .code yX6_has cX6_has 2 (some .boolean) :: ([.fieldLink RX6 22 "InkPress$Zones" "count" "I"] ++ wsX60)
def wsX6_allows : List Cond := .code yX6_allows cX6_allows 3 (some .boolean) :: ([.fieldLink RX6 26 "InkPress$Zones" "MOST" "[I", .static yX7_within, .initialized RX7, .code yX7_within cX7_within 3 (some .boolean)])
def wsX6_valueOf : List Cond := .code yX6_valueOf cX6_valueOf 3 (some .int) :: ([.fieldLink RX6 15 "InkPress$Zones" "values" "[I"] ++ wsX60)
def wsX6_change : List Cond := .code yX6_change cX6_change 6 (some .int) :: ([.fieldLink RX6 15 "InkPress$Zones" "values" "[I"] ++ wsX60)
def wsX7_init_r1 : List Cond := [Cond.methodLink RX7 1 objectInit, Cond.instanceMethod objectInit, Cond.code objectInit ⟨#[0xb1]⟩ 1 none, Cond.classLink RX7 7 RX3, Cond.instantiable RX3 1, Cond.initialized RX3, Cond.fieldLink RX7 10 "InkPress" "rules" "LInkPress$Rules;", Cond.classLink RX7 16 RX6, Cond.instantiable RX6 2, Cond.initialized RX6, Cond.fieldLink RX7 19 "InkPress" "zones" "LInkPress$Zones;", Cond.classLink RX7 23 RX5, Cond.instantiable RX5 6, Cond.initialized RX5, Cond.fieldLink RX7 26 "InkPress" "train" "LInkPress$Train;", Cond.classLink RX7 30 RX4, Cond.instantiable RX4 6, Cond.initialized RX4, Cond.fieldLink RX7 33 "InkPress" "sheets" "LInkPress$SheetLog;", Cond.classLink RX7 37 RX2, Cond.instantiable RX2 5, Cond.initialized RX2, Cond.fieldLink RX7 40 "InkPress" "pastJobs" "LInkPress$PastJobs;", Cond.classLink RX7 44 RX1]
def wsX7_init_r2 : List Cond := [Cond.instantiable RX1 12, Cond.initialized RX1, Cond.fieldLink RX7 47 "InkPress" "marks" "LInkPress$Marks;", Cond.classLink RX7 51 RX0, Cond.instantiable RX0 7, Cond.initialized RX0, Cond.fieldLink RX7 54 "InkPress" "jobs" "LInkPress$Jobs;", Cond.fieldLink RX7 58 "InkPress" "steering" "Z", Cond.methodLink RX7 9 yX3_init, Cond.instanceMethod yX3_init, Cond.code yX3_init cX3_init 1 none, Cond.methodLink RX3 1 objectInit, Cond.fieldLink RX3 7 "InkPress$Rules" "FIRST" "[I", Cond.methodLink RX3 13 ⟨"[I", "clone", "()Ljava/lang/Object;"⟩, Cond.sameMethod "[I" "java/lang/Object" "clone" "()Ljava/lang/Object;", Cond.native ⟨"java/lang/Object", "clone", "()Ljava/lang/Object;"⟩, Cond.instanceMethod ⟨"java/lang/Object", "clone", "()Ljava/lang/Object;"⟩, Cond.selects "[I" ⟨"[I", "clone", "()Ljava/lang/Object;"⟩ ⟨"java/lang/Object", "clone", "()Ljava/lang/Object;"⟩, Cond.classLink RX3 14 "[I", Cond.fieldLink RX3 18 "InkPress$Rules" "values" "[I", Cond.methodLink RX7 18 yX6_init, Cond.instanceMethod yX6_init, Cond.code yX6_init cX6_init 1 none, Cond.methodLink RX6 3 objectInit]
def wsX7_init_r3 : List Cond := [Cond.fieldLink RX6 9 "InkPress$Zones" "FIRST" "[I", Cond.arrayClass .int, Cond.fieldLink RX6 15 "InkPress$Zones" "values" "[I", Cond.methodLink RX6 18 yX6_restart, Cond.instanceMethod yX6_restart, Cond.selects RX6 yX6_restart yX6_restart, Cond.code yX6_restart cX6_restart 3 none, Cond.fieldLink RX6 22 "InkPress$Zones" "count" "I", Cond.methodLink RX7 25 yX5_init, Cond.instanceMethod yX5_init, Cond.code yX5_init cX5_init 1 none, Cond.methodLink RX5 3 objectInit, Cond.fieldLink RX5 9 "InkPress$Train" "ink" "[I", Cond.methodLink RX5 15 yX5_restart, Cond.instanceMethod yX5_restart, Cond.selects RX5 yX5_restart yX5_restart, Cond.code yX5_restart cX5_restart 4 none, Cond.fieldLink RX5 19 "InkPress$Train" "zones" "I", Cond.fieldLink RX5 23 "InkPress$Train" "rollers" "I", Cond.fieldLink RX5 26 "InkPress$Train" "fed" "I", Cond.fieldLink RX5 29 "InkPress$Train" "onPaper" "I", Cond.fieldLink RX5 32 "InkPress$Train" "onBars" "I", Cond.methodLink RX7 32 yX4_init, Cond.instanceMethod yX4_init]
def wsX7_init_r4 : List Cond := [Cond.code yX4_init cX4_init 1 none, Cond.methodLink RX4 3 objectInit, Cond.fieldLink RX4 9 "InkPress$SheetLog" "densities" "[I", Cond.arrayClass .boolean, Cond.fieldLink RX4 15 "InkPress$SheetLog" "good" "[Z", Cond.methodLink RX4 19 yX4_restart, Cond.instanceMethod yX4_restart, Cond.selects RX4 yX4_restart yX4_restart, Cond.code yX4_restart cX4_restart 1 none, Cond.fieldLink RX4 22 "InkPress$SheetLog" "count" "I", Cond.fieldLink RX4 26 "InkPress$SheetLog" "goodCount" "I", Cond.fieldLink RX4 29 "InkPress$SheetLog" "goodInARow" "I", Cond.fieldLink RX4 32 "InkPress$SheetLog" "start" "I", Cond.methodLink RX7 39 yX2_init, Cond.instanceMethod yX2_init, Cond.code yX2_init cX2_init 1 none, Cond.methodLink RX2 3 objectInit, Cond.fieldLink RX2 9 "InkPress$PastJobs" "count" "I", Cond.methodLink RX7 46 yX1_init, Cond.instanceMethod yX1_init, Cond.code yX1_init cX1_init 1 none, Cond.methodLink RX1 3 objectInit, Cond.fieldLink RX1 11 "InkPress$Marks" "x" "[I", Cond.fieldLink RX1 15 "InkPress$Marks" "y" "[I"]
def wsX7_init_r5 : List Cond := [Cond.fieldLink RX1 18 "InkPress$Marks" "dx" "[I", Cond.fieldLink RX1 21 "InkPress$Marks" "dy" "[I", Cond.methodLink RX7 53 yX0_init, Cond.instanceMethod yX0_init, Cond.code yX0_init cX0_init 2 none, Cond.methodLink RX0 5 objectInit, Cond.fieldLink RX0 11 "InkPress$Jobs" "colours" "[I", Cond.fieldLink RX0 15 "InkPress$Jobs" "papers" "[I", Cond.fieldLink RX0 18 "InkPress$Jobs" "washes" "[I", Cond.fieldLink RX0 21 "InkPress$Jobs" "costsToCome" "[I", Cond.fieldLink RX0 24 "InkPress$Jobs" "best" "[I"]
def wsX7_init : List Cond := .code yX7_init cX7_init 1 none :: ((wsX7_init_r1 ++ (wsX7_init_r2 ++ (wsX7_init_r3 ++ (wsX7_init_r4 ++ wsX7_init_r5)))) ++ wsX30 ++ wsX70 ++ wsX60 ++ wsX50 ++ wsX40 ++ wsX20 ++ wsX10 ++ wsX00)
def wsX7_press_r1 : List Cond := [Cond.fieldLink RX7 19 "InkPress" "zones" "LInkPress$Zones;", Cond.fieldLink RX7 26 "InkPress" "train" "LInkPress$Train;", Cond.fieldLink RX7 33 "InkPress" "sheets" "LInkPress$SheetLog;", Cond.fieldLink RX7 58 "InkPress" "steering" "Z", Cond.methodLink RX7 62 yX7_within, Cond.static yX7_within, Cond.initialized RX7, Cond.code yX7_within cX7_within 3 (some .boolean), Cond.methodLink RX7 66 yX6_restart, Cond.instanceMethod yX6_restart, Cond.selects RX6 yX6_restart yX6_restart, Cond.initialized RX6, Cond.code yX6_restart cX6_restart 3 none, Cond.fieldLink RX6 22 "InkPress$Zones" "count" "I", Cond.fieldLink RX6 15 "InkPress$Zones" "values" "[I", Cond.fieldLink RX6 9 "InkPress$Zones" "FIRST" "[I", Cond.methodLink RX7 70 yX5_restart, Cond.instanceMethod yX5_restart, Cond.selects RX5 yX5_restart yX5_restart, Cond.initialized RX5, Cond.code yX5_restart cX5_restart 4 none, Cond.fieldLink RX5 19 "InkPress$Train" "zones" "I", Cond.fieldLink RX5 23 "InkPress$Train" "rollers" "I", Cond.fieldLink RX5 26 "InkPress$Train" "fed" "I"]
def wsX7_press_r2 : List Cond := [Cond.fieldLink RX5 29 "InkPress$Train" "onPaper" "I", Cond.fieldLink RX5 32 "InkPress$Train" "onBars" "I", Cond.fieldLink RX5 9 "InkPress$Train" "ink" "[I", Cond.methodLink RX7 73 yX4_restart, Cond.instanceMethod yX4_restart, Cond.selects RX4 yX4_restart yX4_restart, Cond.initialized RX4, Cond.code yX4_restart cX4_restart 1 none, Cond.fieldLink RX4 22 "InkPress$SheetLog" "count" "I", Cond.fieldLink RX4 26 "InkPress$SheetLog" "goodCount" "I", Cond.fieldLink RX4 29 "InkPress$SheetLog" "goodInARow" "I", Cond.fieldLink RX4 32 "InkPress$SheetLog" "start" "I"]
def wsX7_press : List Cond := .code yX7_press cX7_press 3 (some .int) :: ((wsX7_press_r1 ++ wsX7_press_r2) ++ wsX70 ++ wsX60 ++ wsX50 ++ wsX40)
def wsX7_rule : List Cond := .code yX7_rule cX7_rule 3 (some .int) :: ([.fieldLink RX7 10 "InkPress" "rules" "LInkPress$Rules;", .constant RX7 79 (-1000001), .constant RX7 84 (-1000002), .methodLink RX7 75 yX3_has, .instanceMethod yX3_has, .selects RX3 yX3_has yX3_has, .initialized RX3, .code yX3_has cX3_has 2 (some .boolean), .fieldLink RX3 18 "InkPress$Rules" "values" "[I", .methodLink RX7 80 yX3_allows, .instanceMethod yX3_allows, .selects RX3 yX3_allows yX3_allows, .code yX3_allows cX3_allows 3 (some .boolean), .fieldLink RX3 21 "InkPress$Rules" "LEAST" "[I", .fieldLink RX3 24 "InkPress$Rules" "MOST" "[I", .static yX7_within, .initialized RX7, .code yX7_within cX7_within 3 (some .boolean), .methodLink RX7 85 yX3_change, .instanceMethod yX3_change, .selects RX3 yX3_change yX3_change, .code yX3_change cX3_change 4 (some .int)] ++ wsX70 ++ wsX30)
def wsX7_set : List Cond := .code yX7_set cX7_set 4 (some .int) :: ([.fieldLink RX7 19 "InkPress" "zones" "LInkPress$Zones;", .methodLink RX7 89 yX6_has, .instanceMethod yX6_has, .selects RX6 yX6_has yX6_has, .initialized RX6, .code yX6_has cX6_has 2 (some .boolean), .fieldLink RX6 22 "InkPress$Zones" "count" "I", .methodLink RX7 62 yX7_within, .static yX7_within, .initialized RX7, .code yX7_within cX7_within 3 (some .boolean), .methodLink RX7 90 yX6_allows, .instanceMethod yX6_allows, .selects RX6 yX6_allows yX6_allows, .code yX6_allows cX6_allows 3 (some .boolean), .fieldLink RX6 26 "InkPress$Zones" "MOST" "[I", .methodLink RX7 91 yX6_change, .instanceMethod yX6_change, .selects RX6 yX6_change yX6_change, .code yX6_change cX6_change 6 (some .int), .fieldLink RX6 15 "InkPress$Zones" "values" "[I"] ++ wsX70 ++ wsX60)
def wsX7_zone_r1 : List Cond := [Cond.fieldLink RX7 19 "InkPress" "zones" "LInkPress$Zones;", Cond.fieldLink RX7 33 "InkPress" "sheets" "LInkPress$SheetLog;", Cond.methodLink RX7 89 yX6_has, Cond.instanceMethod yX6_has, Cond.selects RX6 yX6_has yX6_has, Cond.initialized RX6, Cond.code yX6_has cX6_has 2 (some .boolean), Cond.fieldLink RX6 22 "InkPress$Zones" "count" "I", Cond.methodLink RX7 62 yX7_within, Cond.static yX7_within, Cond.initialized RX7, Cond.code yX7_within cX7_within 3 (some .boolean), Cond.methodLink RX7 94 yX4_latestDensity, Cond.instanceMethod yX4_latestDensity, Cond.selects RX4 yX4_latestDensity yX4_latestDensity, Cond.initialized RX4, Cond.code yX4_latestDensity cX4_latestDensity 2 (some .int), Cond.fieldLink RX4 22 "InkPress$SheetLog" "count" "I", Cond.methodLink RX4 35 yX4_densityOn, Cond.instanceMethod yX4_densityOn, Cond.selects RX4 yX4_densityOn yX4_densityOn, Cond.code yX4_densityOn cX4_densityOn 3 (some .int), Cond.fieldLink RX4 9 "InkPress$SheetLog" "densities" "[I", Cond.methodLink RX7 98 yX6_valueOf]
def wsX7_zone_r2 : List Cond := [Cond.instanceMethod yX6_valueOf, Cond.selects RX6 yX6_valueOf yX6_valueOf, Cond.code yX6_valueOf cX6_valueOf 3 (some .int), Cond.fieldLink RX6 15 "InkPress$Zones" "values" "[I"]
def wsX7_zone : List Cond := .code yX7_zone cX7_zone 3 (some .int) :: ((wsX7_zone_r1 ++ wsX7_zone_r2) ++ wsX70 ++ wsX60 ++ wsX40)
def wsX7_ink : List Cond := .code yX7_ink cX7_ink 3 (some .int) :: ([.fieldLink RX7 26 "InkPress" "train" "LInkPress$Train;", .fieldLink RX7 19 "InkPress" "zones" "LInkPress$Zones;", .methodLink RX7 101 yX5_has, .instanceMethod yX5_has, .selects RX5 yX5_has yX5_has, .initialized RX5, .code yX5_has cX5_has 2 (some .boolean), .fieldLink RX5 23 "InkPress$Train" "rollers" "I", .methodLink RX7 89 yX6_has, .instanceMethod yX6_has, .selects RX6 yX6_has yX6_has, .initialized RX6, .code yX6_has cX6_has 2 (some .boolean), .fieldLink RX6 22 "InkPress$Zones" "count" "I", .methodLink RX7 102 yX5_inkAt, .instanceMethod yX5_inkAt, .selects RX5 yX5_inkAt yX5_inkAt, .code yX5_inkAt cX5_inkAt 3 (some .int), .fieldLink RX5 9 "InkPress$Train" "ink" "[I"] ++ wsX70 ++ wsX50 ++ wsX60)
def wsX7_printSheet_r1 : List Cond := [Cond.fieldLink RX7 19 "InkPress" "zones" "LInkPress$Zones;", Cond.fieldLink RX7 26 "InkPress" "train" "LInkPress$Train;", Cond.fieldLink RX7 10 "InkPress" "rules" "LInkPress$Rules;", Cond.fieldLink RX7 33 "InkPress" "sheets" "LInkPress$SheetLog;", Cond.methodLink RX7 240 Lib.Math.abs.name, Cond.static Lib.Math.abs.name, Cond.initialized "java/lang/Math", Cond.code Lib.Math.abs.name Lib.Math.abs.code 1 (some .int), Cond.methodLink RX7 98 yX6_valueOf, Cond.instanceMethod yX6_valueOf, Cond.selects RX6 yX6_valueOf yX6_valueOf, Cond.initialized RX6, Cond.code yX6_valueOf cX6_valueOf 3 (some .int), Cond.fieldLink RX6 15 "InkPress$Zones" "values" "[I", Cond.methodLink RX7 220 yX3_valueOf, Cond.instanceMethod yX3_valueOf, Cond.selects RX3 yX3_valueOf yX3_valueOf, Cond.initialized RX3, Cond.code yX3_valueOf cX3_valueOf 2 (some .int), Cond.fieldLink RX3 18 "InkPress$Rules" "values" "[I", Cond.methodLink RX7 222 yX5_feedZone, Cond.instanceMethod yX5_feedZone, Cond.selects RX5 yX5_feedZone yX5_feedZone, Cond.initialized RX5]
def wsX7_printSheet_r2 : List Cond := [Cond.code yX5_feedZone cX5_feedZone 3 none, Cond.fieldLink RX5 9 "InkPress$Train" "ink" "[I", Cond.fieldLink RX5 26 "InkPress$Train" "fed" "I", Cond.methodLink RX7 225 yX5_passOn, Cond.instanceMethod yX5_passOn, Cond.selects RX5 yX5_passOn yX5_passOn, Cond.code yX5_passOn cX5_passOn 6 none, Cond.fieldLink RX5 23 "InkPress$Train" "rollers" "I", Cond.fieldLink RX5 19 "InkPress$Train" "zones" "I", Cond.methodLink RX5 35 yX5_share, Cond.static yX5_share, Cond.code yX5_share cX5_share 3 (some .int), Cond.methodLink RX7 228 yX5_driftAside, Cond.instanceMethod yX5_driftAside, Cond.selects RX5 yX5_driftAside yX5_driftAside, Cond.code yX5_driftAside cX5_driftAside 7 none, Cond.methodLink RX7 231 yX4_begin, Cond.instanceMethod yX4_begin, Cond.selects RX4 yX4_begin yX4_begin, Cond.initialized RX4, Cond.code yX4_begin cX4_begin 1 none, Cond.fieldLink RX4 22 "InkPress$SheetLog" "count" "I", Cond.methodLink RX7 234 yX5_takeOff, Cond.instanceMethod yX5_takeOff]
def wsX7_printSheet_r3 : List Cond := [Cond.selects RX5 yX5_takeOff yX5_takeOff, Cond.code yX5_takeOff cX5_takeOff 7 (some .int), Cond.fieldLink RX5 29 "InkPress$Train" "onPaper" "I", Cond.fieldLink RX5 32 "InkPress$Train" "onBars" "I", Cond.methodLink RX7 237 yX4_note, Cond.instanceMethod yX4_note, Cond.selects RX4 yX4_note yX4_note, Cond.code yX4_note cX4_note 3 none, Cond.fieldLink RX4 9 "InkPress$SheetLog" "densities" "[I", Cond.methodLink RX7 245 yX4_judge, Cond.instanceMethod yX4_judge, Cond.selects RX4 yX4_judge yX4_judge, Cond.code yX4_judge cX4_judge 3 none, Cond.fieldLink RX4 15 "InkPress$SheetLog" "good" "[Z", Cond.fieldLink RX4 29 "InkPress$SheetLog" "goodInARow" "I", Cond.fieldLink RX4 26 "InkPress$SheetLog" "goodCount" "I", Cond.fieldLink RX4 32 "InkPress$SheetLog" "start" "I"]
def wsX7_printSheet : List Cond := .code yX7_printSheet cX7_printSheet 5 none :: ((wsX7_printSheet_r1 ++ (wsX7_printSheet_r2 ++ wsX7_printSheet_r3)) ++ wsX70 ++ wsX60 ++ wsX30 ++ wsX50 ++ wsX40)
def wsX7_isSteeringDue : List Cond := .code yX7_isSteeringDue cX7_isSteeringDue 2 (some .boolean) :: ([.fieldLink RX7 10 "InkPress" "rules" "LInkPress$Rules;", .fieldLink RX7 33 "InkPress" "sheets" "LInkPress$SheetLog;", .methodLink RX7 220 yX3_valueOf, .instanceMethod yX3_valueOf, .selects RX3 yX3_valueOf yX3_valueOf, .initialized RX3, .code yX3_valueOf cX3_valueOf 2 (some .int), .fieldLink RX3 18 "InkPress$Rules" "values" "[I"] ++ wsX70 ++ wsX40 ++ wsX30)
def wsX7_steerKeys_r1 : List Cond := [Cond.fieldLink RX7 10 "InkPress" "rules" "LInkPress$Rules;", Cond.fieldLink RX7 19 "InkPress" "zones" "LInkPress$Zones;", Cond.fieldLink RX7 33 "InkPress" "sheets" "LInkPress$SheetLog;", Cond.methodLink RX7 220 yX3_valueOf, Cond.instanceMethod yX3_valueOf, Cond.selects RX3 yX3_valueOf yX3_valueOf, Cond.initialized RX3, Cond.code yX3_valueOf cX3_valueOf 2 (some .int), Cond.fieldLink RX3 18 "InkPress$Rules" "values" "[I", Cond.methodLink RX7 98 yX6_valueOf, Cond.instanceMethod yX6_valueOf, Cond.selects RX6 yX6_valueOf yX6_valueOf, Cond.initialized RX6, Cond.code yX6_valueOf cX6_valueOf 3 (some .int), Cond.fieldLink RX6 15 "InkPress$Zones" "values" "[I", Cond.methodLink RX7 94 yX4_latestDensity, Cond.instanceMethod yX4_latestDensity, Cond.selects RX4 yX4_latestDensity yX4_latestDensity, Cond.initialized RX4, Cond.code yX4_latestDensity cX4_latestDensity 2 (some .int), Cond.fieldLink RX4 22 "InkPress$SheetLog" "count" "I", Cond.methodLink RX4 35 yX4_densityOn, Cond.instanceMethod yX4_densityOn, Cond.selects RX4 yX4_densityOn yX4_densityOn]
def wsX7_steerKeys_r2 : List Cond := [Cond.code yX4_densityOn cX4_densityOn 3 (some .int), Cond.fieldLink RX4 9 "InkPress$SheetLog" "densities" "[I", Cond.methodLink RX7 249 yX7_held, Cond.static yX7_held, Cond.initialized RX7, Cond.code yX7_held cX7_held 4 (some .int), Cond.methodLink RX7 253 Lib.MathLoose.min_long.x, Cond.static Lib.MathLoose.min_long.x, Cond.initialized "java/lang/Math", Cond.code Lib.MathLoose.min_long.x Lib.MathLoose.min_long.code 4 (some .long), Cond.methodLink RX7 256 Lib.MathLoose.max_long.x, Cond.static Lib.MathLoose.max_long.x, Cond.code Lib.MathLoose.max_long.x Lib.MathLoose.max_long.code 4 (some .long), Cond.methodLink RX7 91 yX6_change, Cond.instanceMethod yX6_change, Cond.selects RX6 yX6_change yX6_change, Cond.code yX6_change cX6_change 6 (some .int)]
def wsX7_steerKeys : List Cond := .code yX7_steerKeys cX7_steerKeys 5 none :: ((wsX7_steerKeys_r1 ++ wsX7_steerKeys_r2) ++ wsX70 ++ wsX60 ++ wsX30 ++ wsX40)
def wsX7_print_r1 : List Cond := [Cond.fieldLink RX7 33 "InkPress" "sheets" "LInkPress$SheetLog;", Cond.fieldLink RX7 58 "InkPress" "steering" "Z", Cond.methodLink RX7 62 yX7_within, Cond.static yX7_within, Cond.initialized RX7, Cond.code yX7_within cX7_within 3 (some .boolean), Cond.methodLink RX7 109 yX7_printSheet, Cond.instanceMethod yX7_printSheet, Cond.selects RX7 yX7_printSheet yX7_printSheet, Cond.code yX7_printSheet cX7_printSheet 5 none, Cond.fieldLink RX7 19 "InkPress" "zones" "LInkPress$Zones;", Cond.fieldLink RX7 26 "InkPress" "train" "LInkPress$Train;", Cond.fieldLink RX7 10 "InkPress" "rules" "LInkPress$Rules;", Cond.methodLink RX7 240 Lib.Math.abs.name, Cond.static Lib.Math.abs.name, Cond.initialized "java/lang/Math", Cond.code Lib.Math.abs.name Lib.Math.abs.code 1 (some .int), Cond.methodLink RX7 98 yX6_valueOf, Cond.instanceMethod yX6_valueOf, Cond.selects RX6 yX6_valueOf yX6_valueOf, Cond.initialized RX6, Cond.code yX6_valueOf cX6_valueOf 3 (some .int), Cond.fieldLink RX6 15 "InkPress$Zones" "values" "[I", Cond.methodLink RX7 220 yX3_valueOf]
def wsX7_print_r2 : List Cond := [Cond.instanceMethod yX3_valueOf, Cond.selects RX3 yX3_valueOf yX3_valueOf, Cond.initialized RX3, Cond.code yX3_valueOf cX3_valueOf 2 (some .int), Cond.fieldLink RX3 18 "InkPress$Rules" "values" "[I", Cond.methodLink RX7 222 yX5_feedZone, Cond.instanceMethod yX5_feedZone, Cond.selects RX5 yX5_feedZone yX5_feedZone, Cond.initialized RX5, Cond.code yX5_feedZone cX5_feedZone 3 none, Cond.fieldLink RX5 9 "InkPress$Train" "ink" "[I", Cond.fieldLink RX5 26 "InkPress$Train" "fed" "I", Cond.methodLink RX7 225 yX5_passOn, Cond.instanceMethod yX5_passOn, Cond.selects RX5 yX5_passOn yX5_passOn, Cond.code yX5_passOn cX5_passOn 6 none, Cond.fieldLink RX5 23 "InkPress$Train" "rollers" "I", Cond.fieldLink RX5 19 "InkPress$Train" "zones" "I", Cond.methodLink RX5 35 yX5_share, Cond.static yX5_share, Cond.code yX5_share cX5_share 3 (some .int), Cond.methodLink RX7 228 yX5_driftAside, Cond.instanceMethod yX5_driftAside, Cond.selects RX5 yX5_driftAside yX5_driftAside]
def wsX7_print_r3 : List Cond := [Cond.code yX5_driftAside cX5_driftAside 7 none, Cond.methodLink RX7 231 yX4_begin, Cond.instanceMethod yX4_begin, Cond.selects RX4 yX4_begin yX4_begin, Cond.initialized RX4, Cond.code yX4_begin cX4_begin 1 none, Cond.fieldLink RX4 22 "InkPress$SheetLog" "count" "I", Cond.methodLink RX7 234 yX5_takeOff, Cond.instanceMethod yX5_takeOff, Cond.selects RX5 yX5_takeOff yX5_takeOff, Cond.code yX5_takeOff cX5_takeOff 7 (some .int), Cond.fieldLink RX5 29 "InkPress$Train" "onPaper" "I", Cond.fieldLink RX5 32 "InkPress$Train" "onBars" "I", Cond.methodLink RX7 237 yX4_note, Cond.instanceMethod yX4_note, Cond.selects RX4 yX4_note yX4_note, Cond.code yX4_note cX4_note 3 none, Cond.fieldLink RX4 9 "InkPress$SheetLog" "densities" "[I", Cond.methodLink RX7 245 yX4_judge, Cond.instanceMethod yX4_judge, Cond.selects RX4 yX4_judge yX4_judge, Cond.code yX4_judge cX4_judge 3 none, Cond.fieldLink RX4 15 "InkPress$SheetLog" "good" "[Z", Cond.fieldLink RX4 29 "InkPress$SheetLog" "goodInARow" "I"]
def wsX7_print_r4 : List Cond := [Cond.fieldLink RX4 26 "InkPress$SheetLog" "goodCount" "I", Cond.fieldLink RX4 32 "InkPress$SheetLog" "start" "I", Cond.methodLink RX7 112 yX7_isSteeringDue, Cond.instanceMethod yX7_isSteeringDue, Cond.selects RX7 yX7_isSteeringDue yX7_isSteeringDue, Cond.code yX7_isSteeringDue cX7_isSteeringDue 2 (some .boolean), Cond.methodLink RX7 116 yX7_steerKeys, Cond.instanceMethod yX7_steerKeys, Cond.selects RX7 yX7_steerKeys yX7_steerKeys, Cond.code yX7_steerKeys cX7_steerKeys 5 none, Cond.methodLink RX7 94 yX4_latestDensity, Cond.instanceMethod yX4_latestDensity, Cond.selects RX4 yX4_latestDensity yX4_latestDensity, Cond.code yX4_latestDensity cX4_latestDensity 2 (some .int), Cond.methodLink RX4 35 yX4_densityOn, Cond.instanceMethod yX4_densityOn, Cond.selects RX4 yX4_densityOn yX4_densityOn, Cond.code yX4_densityOn cX4_densityOn 3 (some .int), Cond.methodLink RX7 249 yX7_held, Cond.static yX7_held, Cond.code yX7_held cX7_held 4 (some .int), Cond.methodLink RX7 253 Lib.MathLoose.min_long.x, Cond.static Lib.MathLoose.min_long.x, Cond.code Lib.MathLoose.min_long.x Lib.MathLoose.min_long.code 4 (some .long)]
def wsX7_print_r5 : List Cond := [Cond.methodLink RX7 256 Lib.MathLoose.max_long.x, Cond.static Lib.MathLoose.max_long.x, Cond.code Lib.MathLoose.max_long.x Lib.MathLoose.max_long.code 4 (some .long), Cond.methodLink RX7 91 yX6_change, Cond.instanceMethod yX6_change, Cond.selects RX6 yX6_change yX6_change, Cond.code yX6_change cX6_change 6 (some .int)]
def wsX7_print : List Cond := .code yX7_print cX7_print 3 (some .int) :: ((wsX7_print_r1 ++ (wsX7_print_r2 ++ (wsX7_print_r3 ++ (wsX7_print_r4 ++ wsX7_print_r5)))) ++ wsX70 ++ wsX40 ++ wsX60 ++ wsX30 ++ wsX50)
def wsX7_steer : List Cond := .code yX7_steer cX7_steer 3 (some .int) :: ([.fieldLink RX7 58 "InkPress" "steering" "Z"] ++ wsX70)
def wsX7_good : List Cond := .code yX7_good cX7_good 2 (some .int) :: ([.fieldLink RX7 33 "InkPress" "sheets" "LInkPress$SheetLog;", .methodLink RX7 119 yX4_has, .instanceMethod yX4_has, .selects RX4 yX4_has yX4_has, .initialized RX4, .code yX4_has cX4_has 2 (some .boolean), .fieldLink RX4 22 "InkPress$SheetLog" "count" "I", .methodLink RX7 120 yX4_wasGood, .instanceMethod yX4_wasGood, .selects RX4 yX4_wasGood yX4_wasGood, .code yX4_wasGood cX4_wasGood 2 (some .boolean), .fieldLink RX4 15 "InkPress$SheetLog" "good" "[Z"] ++ wsX70 ++ wsX40)
def wsX7_density : List Cond := .code yX7_density cX7_density 3 (some .int) :: ([.fieldLink RX7 33 "InkPress" "sheets" "LInkPress$SheetLog;", .fieldLink RX7 19 "InkPress" "zones" "LInkPress$Zones;", .methodLink RX7 119 yX4_has, .instanceMethod yX4_has, .selects RX4 yX4_has yX4_has, .initialized RX4, .code yX4_has cX4_has 2 (some .boolean), .fieldLink RX4 22 "InkPress$SheetLog" "count" "I", .methodLink RX7 89 yX6_has, .instanceMethod yX6_has, .selects RX6 yX6_has yX6_has, .initialized RX6, .code yX6_has cX6_has 2 (some .boolean), .fieldLink RX6 22 "InkPress$Zones" "count" "I", .methodLink RX7 123 yX4_densityOn, .instanceMethod yX4_densityOn, .selects RX4 yX4_densityOn yX4_densityOn, .code yX4_densityOn cX4_densityOn 3 (some .int), .fieldLink RX4 9 "InkPress$SheetLog" "densities" "[I"] ++ wsX70 ++ wsX40 ++ wsX60)
def wsX7_past : List Cond := .code yX7_past cX7_past 3 (some .int) :: ([.fieldLink RX7 40 "InkPress" "pastJobs" "LInkPress$PastJobs;", .methodLink RX7 62 yX7_within, .static yX7_within, .initialized RX7, .code yX7_within cX7_within 3 (some .boolean), .methodLink RX7 126 yX2_isFull, .instanceMethod yX2_isFull, .selects RX2 yX2_isFull yX2_isFull, .initialized RX2, .code yX2_isFull cX2_isFull 1 (some .boolean), .fieldLink RX2 9 "InkPress$PastJobs" "count" "I", .methodLink RX7 129 yX2_add, .instanceMethod yX2_add, .selects RX2 yX2_add yX2_add, .code yX2_add cX2_add 3 (some .int), .fieldLink RX2 15 "InkPress$PastJobs" "covers" "J", .fieldLink RX2 19 "InkPress$PastJobs" "keys" "J", .fieldLink RX2 22 "InkPress$PastJobs" "coversSquared" "J", .fieldLink RX2 25 "InkPress$PastJobs" "coversByKeys" "J"] ++ wsX70 ++ wsX20)
def wsX7_preset_r1 : List Cond := [Cond.fieldLink RX7 40 "InkPress" "pastJobs" "LInkPress$PastJobs;", Cond.methodLink RX7 62 yX7_within, Cond.static yX7_within, Cond.initialized RX7, Cond.code yX7_within cX7_within 3 (some .boolean), Cond.methodLink RX7 132 yX2_isEmpty, Cond.instanceMethod yX2_isEmpty, Cond.selects RX2 yX2_isEmpty yX2_isEmpty, Cond.initialized RX2, Cond.code yX2_isEmpty cX2_isEmpty 1 (some .boolean), Cond.fieldLink RX2 9 "InkPress$PastJobs" "count" "I", Cond.methodLink RX7 135 yX2_keyFor, Cond.instanceMethod yX2_keyFor, Cond.selects RX2 yX2_keyFor yX2_keyFor, Cond.code yX2_keyFor cX2_keyFor 8 (some .int), Cond.fieldLink RX2 22 "InkPress$PastJobs" "coversSquared" "J", Cond.fieldLink RX2 15 "InkPress$PastJobs" "covers" "J", Cond.fieldLink RX2 19 "InkPress$PastJobs" "keys" "J", Cond.fieldLink RX2 25 "InkPress$PastJobs" "coversByKeys" "J", Cond.static yX7_held, Cond.code yX7_held cX7_held 4 (some .int), Cond.methodLink RX7 253 Lib.MathLoose.min_long.x, Cond.static Lib.MathLoose.min_long.x, Cond.initialized "java/lang/Math"]
def wsX7_preset_r2 : List Cond := [Cond.code Lib.MathLoose.min_long.x Lib.MathLoose.min_long.code 4 (some .long), Cond.methodLink RX7 256 Lib.MathLoose.max_long.x, Cond.static Lib.MathLoose.max_long.x, Cond.code Lib.MathLoose.max_long.x Lib.MathLoose.max_long.code 4 (some .long)]
def wsX7_preset : List Cond := .code yX7_preset cX7_preset 2 (some .int) :: ((wsX7_preset_r1 ++ wsX7_preset_r2) ++ wsX70 ++ wsX20)
def wsX7_presets_r1 : List Cond := [Cond.fieldLink RX7 40 "InkPress" "pastJobs" "LInkPress$PastJobs;", Cond.fieldLink RX7 19 "InkPress" "zones" "LInkPress$Zones;", Cond.methodLink RX7 132 yX2_isEmpty, Cond.instanceMethod yX2_isEmpty, Cond.selects RX2 yX2_isEmpty yX2_isEmpty, Cond.initialized RX2, Cond.code yX2_isEmpty cX2_isEmpty 1 (some .boolean), Cond.fieldLink RX2 9 "InkPress$PastJobs" "count" "I", Cond.methodLink RX7 98 yX6_valueOf, Cond.instanceMethod yX6_valueOf, Cond.selects RX6 yX6_valueOf yX6_valueOf, Cond.initialized RX6, Cond.code yX6_valueOf cX6_valueOf 3 (some .int), Cond.fieldLink RX6 15 "InkPress$Zones" "values" "[I", Cond.methodLink RX7 135 yX2_keyFor, Cond.instanceMethod yX2_keyFor, Cond.selects RX2 yX2_keyFor yX2_keyFor, Cond.code yX2_keyFor cX2_keyFor 8 (some .int), Cond.fieldLink RX2 22 "InkPress$PastJobs" "coversSquared" "J", Cond.fieldLink RX2 15 "InkPress$PastJobs" "covers" "J", Cond.fieldLink RX2 19 "InkPress$PastJobs" "keys" "J", Cond.fieldLink RX2 25 "InkPress$PastJobs" "coversByKeys" "J", Cond.static yX7_held, Cond.initialized RX7]
def wsX7_presets_r2 : List Cond := [Cond.code yX7_held cX7_held 4 (some .int), Cond.methodLink RX7 253 Lib.MathLoose.min_long.x, Cond.static Lib.MathLoose.min_long.x, Cond.initialized "java/lang/Math", Cond.code Lib.MathLoose.min_long.x Lib.MathLoose.min_long.code 4 (some .long), Cond.methodLink RX7 256 Lib.MathLoose.max_long.x, Cond.static Lib.MathLoose.max_long.x, Cond.code Lib.MathLoose.max_long.x Lib.MathLoose.max_long.code 4 (some .long), Cond.methodLink RX7 91 yX6_change, Cond.instanceMethod yX6_change, Cond.selects RX6 yX6_change yX6_change, Cond.code yX6_change cX6_change 6 (some .int)]
def wsX7_presets : List Cond := .code yX7_presets cX7_presets 4 (some .int) :: ((wsX7_presets_r1 ++ wsX7_presets_r2) ++ wsX70 ++ wsX60 ++ wsX20)
def wsX7_told : List Cond := .code yX7_told cX7_told 2 (some .int) :: ([.fieldLink RX7 33 "InkPress" "sheets" "LInkPress$SheetLog;", .fieldLink RX7 26 "InkPress" "train" "LInkPress$Train;", .fieldLink RX7 58 "InkPress" "steering" "Z", .fieldLink RX7 40 "InkPress" "pastJobs" "LInkPress$PastJobs;", .constant RX7 84 (-1000002), .methodLink RX7 148 yX5_inkOn, .instanceMethod yX5_inkOn, .selects RX5 yX5_inkOn yX5_inkOn, .initialized RX5, .code yX5_inkOn cX5_inkOn 3 (some .int), .fieldLink RX5 9 "InkPress$Train" "ink" "[I"] ++ wsX70 ++ wsX40 ++ wsX50 ++ wsX20)
def wsX7_mark_r1 : List Cond := [Cond.fieldLink RX7 47 "InkPress" "marks" "LInkPress$Marks;", Cond.methodLink RX7 159 yX1_isPlace, Cond.static yX1_isPlace, Cond.initialized RX1, Cond.code yX1_isPlace cX1_isPlace 1 (some .boolean), Cond.static yX7_within, Cond.initialized RX7, Cond.code yX7_within cX7_within 3 (some .boolean), Cond.methodLink RX7 162 yX1_isOffset, Cond.static yX1_isOffset, Cond.code yX1_isOffset cX1_isOffset 1 (some .boolean), Cond.methodLink RX7 165 yX1_isFull, Cond.instanceMethod yX1_isFull, Cond.selects RX1 yX1_isFull yX1_isFull, Cond.code yX1_isFull cX1_isFull 1 (some .boolean), Cond.fieldLink RX1 28 "InkPress$Marks" "count" "I", Cond.methodLink RX7 166 yX1_add, Cond.instanceMethod yX1_add, Cond.selects RX1 yX1_add yX1_add, Cond.code yX1_add cX1_add 5 (some .int), Cond.fieldLink RX1 11 "InkPress$Marks" "x" "[I", Cond.fieldLink RX1 15 "InkPress$Marks" "y" "[I", Cond.fieldLink RX1 18 "InkPress$Marks" "dx" "[I", Cond.fieldLink RX1 21 "InkPress$Marks" "dy" "[I"]
def wsX7_mark_r2 : List Cond := [Cond.fieldLink RX1 32 "InkPress$Marks" "sumX" "J", Cond.fieldLink RX1 36 "InkPress$Marks" "sumY" "J", Cond.fieldLink RX1 39 "InkPress$Marks" "sumDx" "J", Cond.fieldLink RX1 42 "InkPress$Marks" "sumDy" "J", Cond.fieldLink RX1 45 "InkPress$Marks" "sumSquares" "J", Cond.fieldLink RX1 48 "InkPress$Marks" "sumOutward" "J", Cond.fieldLink RX1 51 "InkPress$Marks" "sumAround" "J"]
def wsX7_mark : List Cond := .code yX7_mark cX7_mark 5 (some .int) :: ((wsX7_mark_r1 ++ wsX7_mark_r2) ++ wsX70 ++ wsX10)
def wsX7_clear : List Cond := .code yX7_clear cX7_clear 1 (some .int) :: ([.fieldLink RX7 47 "InkPress" "marks" "LInkPress$Marks;", .methodLink RX7 169 yX1_removeAll, .instanceMethod yX1_removeAll, .selects RX1 yX1_removeAll yX1_removeAll, .initialized RX1, .code yX1_removeAll cX1_removeAll 2 (some .int), .fieldLink RX1 28 "InkPress$Marks" "count" "I", .fieldLink RX1 32 "InkPress$Marks" "sumX" "J", .fieldLink RX1 36 "InkPress$Marks" "sumY" "J", .fieldLink RX1 39 "InkPress$Marks" "sumDx" "J", .fieldLink RX1 42 "InkPress$Marks" "sumDy" "J", .fieldLink RX1 45 "InkPress$Marks" "sumSquares" "J", .fieldLink RX1 48 "InkPress$Marks" "sumOutward" "J", .fieldLink RX1 51 "InkPress$Marks" "sumAround" "J"] ++ wsX70 ++ wsX10)
def wsX7_commonDivisor : List Cond := .code yX7_commonDivisor cX7_commonDivisor 11 (some .long) :: ([.methodLink RX7 259 Lib.MathLoose.abs_long.x, .static Lib.MathLoose.abs_long.x, .initialized "java/lang/Math", .code Lib.MathLoose.abs_long.x Lib.MathLoose.abs_long.code 2 (some .long)])
def wsX7_fit_r1 : List Cond := [Cond.constantLong RX7 172 (-1000002), Cond.fieldLink RX7 47 "InkPress" "marks" "LInkPress$Marks;", Cond.constantLong RX7 177 (-1000005), Cond.methodLink RX7 62 yX7_within, Cond.static yX7_within, Cond.initialized RX7, Cond.code yX7_within cX7_within 3 (some .boolean), Cond.methodLink RX7 174 yX1_isTold, Cond.instanceMethod yX1_isTold, Cond.selects RX1 yX1_isTold yX1_isTold, Cond.initialized RX1, Cond.code yX1_isTold cX1_isTold 1 (some .boolean), Cond.methodLink RX1 54 yX1_spread, Cond.instanceMethod yX1_spread, Cond.selects RX1 yX1_spread yX1_spread, Cond.code yX1_spread cX1_spread 1 (some .long), Cond.fieldLink RX1 28 "InkPress$Marks" "count" "I", Cond.fieldLink RX1 45 "InkPress$Marks" "sumSquares" "J", Cond.fieldLink RX1 32 "InkPress$Marks" "sumX" "J", Cond.fieldLink RX1 36 "InkPress$Marks" "sumY" "J", Cond.methodLink RX7 179 yX1_upper, Cond.instanceMethod yX1_upper, Cond.selects RX1 yX1_upper yX1_upper, Cond.code yX1_upper cX1_upper 2 (some .long)]
def wsX7_fit_r2 : List Cond := [Cond.methodLink RX1 58 yX1_stretch, Cond.instanceMethod yX1_stretch, Cond.selects RX1 yX1_stretch yX1_stretch, Cond.code yX1_stretch cX1_stretch 1 (some .long), Cond.fieldLink RX1 48 "InkPress$Marks" "sumOutward" "J", Cond.fieldLink RX1 39 "InkPress$Marks" "sumDx" "J", Cond.fieldLink RX1 42 "InkPress$Marks" "sumDy" "J", Cond.methodLink RX1 61 yX1_turn, Cond.instanceMethod yX1_turn, Cond.selects RX1 yX1_turn yX1_turn, Cond.code yX1_turn cX1_turn 1 (some .long), Cond.fieldLink RX1 51 "InkPress$Marks" "sumAround" "J", Cond.methodLink RX1 64 yX1_across, Cond.instanceMethod yX1_across, Cond.selects RX1 yX1_across yX1_across, Cond.code yX1_across cX1_across 1 (some .long), Cond.methodLink RX1 67 yX1_up, Cond.instanceMethod yX1_up, Cond.selects RX1 yX1_up yX1_up, Cond.code yX1_up cX1_up 1 (some .long), Cond.methodLink RX7 183 yX1_lower, Cond.instanceMethod yX1_lower, Cond.selects RX1 yX1_lower yX1_lower, Cond.code yX1_lower cX1_lower 2 (some .long)]
def wsX7_fit_r3 : List Cond := [Cond.methodLink RX7 186 yX7_commonDivisor, Cond.static yX7_commonDivisor, Cond.code yX7_commonDivisor cX7_commonDivisor 11 (some .long), Cond.methodLink RX7 259 Lib.MathLoose.abs_long.x, Cond.static Lib.MathLoose.abs_long.x, Cond.initialized "java/lang/Math", Cond.code Lib.MathLoose.abs_long.x Lib.MathLoose.abs_long.code 2 (some .long)]
def wsX7_fit : List Cond := .code yX7_fit cX7_fit 11 (some .long) :: ((wsX7_fit_r1 ++ (wsX7_fit_r2 ++ wsX7_fit_r3)) ++ wsX70 ++ wsX10)
def wsX7_off_r1 : List Cond := [Cond.fieldLink RX7 47 "InkPress" "marks" "LInkPress$Marks;", Cond.constant RX7 79 (-1000001), Cond.constant RX7 84 (-1000002), Cond.constant RX7 191 (-1000005), Cond.methodLink RX7 190 yX1_has, Cond.instanceMethod yX1_has, Cond.selects RX1 yX1_has yX1_has, Cond.initialized RX1, Cond.code yX1_has cX1_has 2 (some .boolean), Cond.fieldLink RX1 28 "InkPress$Marks" "count" "I", Cond.methodLink RX7 62 yX7_within, Cond.static yX7_within, Cond.initialized RX7, Cond.code yX7_within cX7_within 3 (some .boolean), Cond.methodLink RX7 174 yX1_isTold, Cond.instanceMethod yX1_isTold, Cond.selects RX1 yX1_isTold yX1_isTold, Cond.code yX1_isTold cX1_isTold 1 (some .boolean), Cond.methodLink RX1 54 yX1_spread, Cond.instanceMethod yX1_spread, Cond.selects RX1 yX1_spread yX1_spread, Cond.code yX1_spread cX1_spread 1 (some .long), Cond.fieldLink RX1 45 "InkPress$Marks" "sumSquares" "J", Cond.fieldLink RX1 32 "InkPress$Marks" "sumX" "J"]
def wsX7_off_r2 : List Cond := [Cond.fieldLink RX1 36 "InkPress$Marks" "sumY" "J", Cond.methodLink RX7 192 yX1_offAcross, Cond.instanceMethod yX1_offAcross, Cond.selects RX1 yX1_offAcross yX1_offAcross, Cond.code yX1_offAcross cX1_offAcross 4 (some .int), Cond.fieldLink RX1 11 "InkPress$Marks" "x" "[I", Cond.fieldLink RX1 15 "InkPress$Marks" "y" "[I", Cond.fieldLink RX1 18 "InkPress$Marks" "dx" "[I", Cond.methodLink RX1 58 yX1_stretch, Cond.instanceMethod yX1_stretch, Cond.selects RX1 yX1_stretch yX1_stretch, Cond.code yX1_stretch cX1_stretch 1 (some .long), Cond.fieldLink RX1 48 "InkPress$Marks" "sumOutward" "J", Cond.fieldLink RX1 39 "InkPress$Marks" "sumDx" "J", Cond.fieldLink RX1 42 "InkPress$Marks" "sumDy" "J", Cond.methodLink RX1 61 yX1_turn, Cond.instanceMethod yX1_turn, Cond.selects RX1 yX1_turn yX1_turn, Cond.code yX1_turn cX1_turn 1 (some .long), Cond.fieldLink RX1 51 "InkPress$Marks" "sumAround" "J", Cond.methodLink RX1 64 yX1_across, Cond.instanceMethod yX1_across, Cond.selects RX1 yX1_across yX1_across, Cond.code yX1_across cX1_across 1 (some .long)]
def wsX7_off_r3 : List Cond := [Cond.methodLink RX1 70 yX1_inThousandths, Cond.instanceMethod yX1_inThousandths, Cond.selects RX1 yX1_inThousandths yX1_inThousandths, Cond.code yX1_inThousandths cX1_inThousandths 6 (some .int), Cond.constantLong RX1 74 (1000), Cond.methodLink RX7 195 yX1_offUp, Cond.instanceMethod yX1_offUp, Cond.selects RX1 yX1_offUp yX1_offUp, Cond.code yX1_offUp cX1_offUp 4 (some .int), Cond.fieldLink RX1 21 "InkPress$Marks" "dy" "[I", Cond.methodLink RX1 67 yX1_up, Cond.instanceMethod yX1_up, Cond.selects RX1 yX1_up yX1_up, Cond.code yX1_up cX1_up 1 (some .long)]
def wsX7_off : List Cond := .code yX7_off cX7_off 3 (some .int) :: ((wsX7_off_r1 ++ (wsX7_off_r2 ++ wsX7_off_r3)) ++ wsX70 ++ wsX10)
def wsX7_job : List Cond := .code yX7_job cX7_job 3 (some .int) :: ([.fieldLink RX7 54 "InkPress" "jobs" "LInkPress$Jobs;", .methodLink RX7 198 yX0_isColour, .static yX0_isColour, .initialized RX0, .code yX0_isColour cX0_isColour 1 (some .boolean), .methodLink RX7 201 yX0_isPaper, .static yX0_isPaper, .code yX0_isPaper cX0_isPaper 1 (some .boolean), .methodLink RX7 204 yX0_isFull, .instanceMethod yX0_isFull, .selects RX0 yX0_isFull yX0_isFull, .code yX0_isFull cX0_isFull 1 (some .boolean), .fieldLink RX0 31 "InkPress$Jobs" "count" "I", .methodLink RX7 205 yX0_add, .instanceMethod yX0_add, .selects RX0 yX0_add yX0_add, .code yX0_add cX0_add 3 (some .int), .fieldLink RX0 11 "InkPress$Jobs" "colours" "[I", .fieldLink RX0 15 "InkPress$Jobs" "papers" "[I", .fieldLink RX0 35 "InkPress$Jobs" "isPlanned" "Z"] ++ wsX70 ++ wsX00)
def wsX7_forget : List Cond := .code yX7_forget cX7_forget 1 (some .int) :: ([.fieldLink RX7 54 "InkPress" "jobs" "LInkPress$Jobs;", .methodLink RX7 206 yX0_removeAll, .instanceMethod yX0_removeAll, .selects RX0 yX0_removeAll yX0_removeAll, .initialized RX0, .code yX0_removeAll cX0_removeAll 2 (some .int), .fieldLink RX0 31 "InkPress$Jobs" "count" "I", .fieldLink RX0 35 "InkPress$Jobs" "isPlanned" "Z"] ++ wsX70 ++ wsX00)
def wsX7_wash : List Cond := .code yX7_wash cX7_wash 4 (some .int) :: ([.fieldLink RX7 54 "InkPress" "jobs" "LInkPress$Jobs;", .methodLink RX7 198 yX0_isColour, .static yX0_isColour, .initialized RX0, .code yX0_isColour cX0_isColour 1 (some .boolean), .methodLink RX7 207 yX0_isWashCost, .static yX0_isWashCost, .code yX0_isWashCost cX0_isWashCost 1 (some .boolean), .static yX7_within, .initialized RX7, .code yX7_within cX7_within 3 (some .boolean), .methodLink RX7 210 yX0_changeWash, .instanceMethod yX0_changeWash, .selects RX0 yX0_changeWash yX0_changeWash, .code yX0_changeWash cX0_changeWash 6 (some .int), .fieldLink RX0 18 "InkPress$Jobs" "washes" "[I", .fieldLink RX0 35 "InkPress$Jobs" "isPlanned" "Z"] ++ wsX70 ++ wsX00)
def wsX7_order_r1 : List Cond := [Cond.fieldLink RX7 54 "InkPress" "jobs" "LInkPress$Jobs;", Cond.methodLink RX7 213 yX0_leastCosts, Cond.instanceMethod yX0_leastCosts, Cond.selects RX0 yX0_leastCosts yX0_leastCosts, Cond.initialized RX0, Cond.code yX0_leastCosts cX0_leastCosts 1 (some .int), Cond.fieldLink RX0 21 "InkPress$Jobs" "costsToCome" "[I", Cond.methodLink RX0 39 yX0_plan, Cond.instanceMethod yX0_plan, Cond.selects RX0 yX0_plan yX0_plan, Cond.code yX0_plan cX0_plan 3 none, Cond.fieldLink RX0 35 "InkPress$Jobs" "isPlanned" "Z", Cond.fieldLink RX0 31 "InkPress$Jobs" "count" "I", Cond.methodLink RX0 42 yX0_holds, Cond.static yX0_holds, Cond.code yX0_holds cX0_holds 2 (some .boolean), Cond.methodLink RX0 46 yX0_weigh, Cond.instanceMethod yX0_weigh, Cond.selects RX0 yX0_weigh yX0_weigh, Cond.code yX0_weigh cX0_weigh 4 none, Cond.methodLink RX0 53 yX0_bestNext, Cond.instanceMethod yX0_bestNext, Cond.selects RX0 yX0_bestNext yX0_bestNext, Cond.code yX0_bestNext cX0_bestNext 7 (some .int)]
def wsX7_order_r2 : List Cond := [Cond.methodLink RX0 57 yX0_costsBy, Cond.instanceMethod yX0_costsBy, Cond.selects RX0 yX0_costsBy yX0_costsBy, Cond.code yX0_costsBy cX0_costsBy 6 (some .int), Cond.fieldLink RX0 18 "InkPress$Jobs" "washes" "[I", Cond.fieldLink RX0 11 "InkPress$Jobs" "colours" "[I", Cond.fieldLink RX0 15 "InkPress$Jobs" "papers" "[I", Cond.methodLink RX0 50 yX0_walk, Cond.instanceMethod yX0_walk, Cond.selects RX0 yX0_walk yX0_walk, Cond.code yX0_walk cX0_walk 5 none, Cond.fieldLink RX0 24 "InkPress$Jobs" "best" "[I"]
def wsX7_order : List Cond := .code yX7_order cX7_order 1 (some .int) :: ((wsX7_order_r1 ++ wsX7_order_r2) ++ wsX70 ++ wsX00)
def wsX7_orderAt_r1 : List Cond := [Cond.fieldLink RX7 54 "InkPress" "jobs" "LInkPress$Jobs;", Cond.methodLink RX7 216 yX0_has, Cond.instanceMethod yX0_has, Cond.selects RX0 yX0_has yX0_has, Cond.initialized RX0, Cond.code yX0_has cX0_has 2 (some .boolean), Cond.fieldLink RX0 31 "InkPress$Jobs" "count" "I", Cond.methodLink RX7 217 yX0_inOrder, Cond.instanceMethod yX0_inOrder, Cond.selects RX0 yX0_inOrder yX0_inOrder, Cond.code yX0_inOrder cX0_inOrder 2 (some .int), Cond.fieldLink RX0 24 "InkPress$Jobs" "best" "[I", Cond.methodLink RX0 39 yX0_plan, Cond.instanceMethod yX0_plan, Cond.selects RX0 yX0_plan yX0_plan, Cond.code yX0_plan cX0_plan 3 none, Cond.fieldLink RX0 35 "InkPress$Jobs" "isPlanned" "Z", Cond.methodLink RX0 42 yX0_holds, Cond.static yX0_holds, Cond.code yX0_holds cX0_holds 2 (some .boolean), Cond.methodLink RX0 46 yX0_weigh, Cond.instanceMethod yX0_weigh, Cond.selects RX0 yX0_weigh yX0_weigh, Cond.code yX0_weigh cX0_weigh 4 none]
def wsX7_orderAt_r2 : List Cond := [Cond.fieldLink RX0 21 "InkPress$Jobs" "costsToCome" "[I", Cond.methodLink RX0 53 yX0_bestNext, Cond.instanceMethod yX0_bestNext, Cond.selects RX0 yX0_bestNext yX0_bestNext, Cond.code yX0_bestNext cX0_bestNext 7 (some .int), Cond.methodLink RX0 57 yX0_costsBy, Cond.instanceMethod yX0_costsBy, Cond.selects RX0 yX0_costsBy yX0_costsBy, Cond.code yX0_costsBy cX0_costsBy 6 (some .int), Cond.fieldLink RX0 18 "InkPress$Jobs" "washes" "[I", Cond.fieldLink RX0 11 "InkPress$Jobs" "colours" "[I", Cond.fieldLink RX0 15 "InkPress$Jobs" "papers" "[I", Cond.methodLink RX0 50 yX0_walk, Cond.instanceMethod yX0_walk, Cond.selects RX0 yX0_walk yX0_walk, Cond.code yX0_walk cX0_walk 5 none]
def wsX7_orderAt : List Cond := .code yX7_orderAt cX7_orderAt 2 (some .int) :: ((wsX7_orderAt_r1 ++ wsX7_orderAt_r2) ++ wsX70 ++ wsX00)
def wsX8_begin : List Cond := .code yX8_begin cX8_begin 2 none :: ([.fieldLink RX8 20 "InkPressModel" "key" "[I", .fieldLink RX8 23 "InkPressModel" "cover" "[I", .fieldLink RX8 26 "InkPressModel" "target" "[I", .fieldLink RX8 29 "InkPressModel" "ink" "[I", .fieldLink RX8 81 "InkPressModel" "sheets" "I", .fieldLink RX8 84 "InkPressModel" "goodMany" "I", .fieldLink RX8 87 "InkPressModel" "together" "I", .fieldLink RX8 39 "InkPressModel" "start" "I", .fieldLink RX8 90 "InkPressModel" "fed" "I", .fieldLink RX8 93 "InkPressModel" "paper" "I", .fieldLink RX8 96 "InkPressModel" "bars" "I", .fieldLink RX8 99 "InkPressModel" "steers" "Z"] ++ wsX80)
def wsX8_init_r1 : List Cond := [Cond.methodLink RX8 1 objectInit, Cond.instanceMethod objectInit, Cond.code objectInit ⟨#[0xb1]⟩ 1 none, Cond.fieldLink RX8 7 "InkPressModel" "zones" "I", Cond.fieldLink RX8 13 "InkPressModel" "rollers" "I", Cond.arrayClass .int, Cond.fieldLink RX8 16 "InkPressModel" "rules" "[I", Cond.fieldLink RX8 20 "InkPressModel" "key" "[I", Cond.fieldLink RX8 23 "InkPressModel" "cover" "[I", Cond.fieldLink RX8 26 "InkPressModel" "target" "[I", Cond.fieldLink RX8 29 "InkPressModel" "ink" "[I", Cond.fieldLink RX8 32 "InkPressModel" "density" "[I", Cond.arrayClass .boolean, Cond.fieldLink RX8 35 "InkPressModel" "isGood" "[Z", Cond.fieldLink RX8 39 "InkPressModel" "start" "I", Cond.fieldLink RX8 42 "InkPressModel" "aside" "[I", Cond.fieldLink RX8 45 "InkPressModel" "pastCover" "[I", Cond.fieldLink RX8 48 "InkPressModel" "pastKey" "[I", Cond.fieldLink RX8 51 "InkPressModel" "markX" "[I", Cond.fieldLink RX8 54 "InkPressModel" "markY" "[I", Cond.fieldLink RX8 57 "InkPressModel" "markDx" "[I", Cond.fieldLink RX8 60 "InkPressModel" "markDy" "[I", Cond.fieldLink RX8 63 "InkPressModel" "colour" "[I", Cond.fieldLink RX8 66 "InkPressModel" "sheetOf" "[I"]
def wsX8_init_r2 : List Cond := [Cond.fieldLink RX8 69 "InkPressModel" "washes" "[I", Cond.fieldLink RX8 72 "InkPressModel" "row" "[I", Cond.fieldLink RX8 75 "InkPressModel" "best" "[I", Cond.methodLink RX8 78 yX8_begin, Cond.instanceMethod yX8_begin, Cond.selects RX8 yX8_begin yX8_begin, Cond.initialized RX8, Cond.code yX8_begin cX8_begin 2 none, Cond.fieldLink RX8 81 "InkPressModel" "sheets" "I", Cond.fieldLink RX8 84 "InkPressModel" "goodMany" "I", Cond.fieldLink RX8 87 "InkPressModel" "together" "I", Cond.fieldLink RX8 90 "InkPressModel" "fed" "I", Cond.fieldLink RX8 93 "InkPressModel" "paper" "I", Cond.fieldLink RX8 96 "InkPressModel" "bars" "I", Cond.fieldLink RX8 99 "InkPressModel" "steers" "Z"]
def wsX8_init : List Cond := .code yX8_init cX8_init 3 none :: ((wsX8_init_r1 ++ wsX8_init_r2) ++ wsX80)
def wsX8_in : List Cond := .code yX8_in cX8_in 6 (some .boolean) :: ([])
def wsX8_isZone : List Cond := .code yX8_isZone cX8_isZone 2 (some .boolean) :: ([.fieldLink RX8 7 "InkPressModel" "zones" "I", .methodLink RX8 103 yX8_in, .static yX8_in, .initialized RX8, .code yX8_in cX8_in 6 (some .boolean)] ++ wsX80)
def wsX8_press_r1 : List Cond := [Cond.constantLong RX8 107 (2), Cond.constantLong RX8 109 (8), Cond.constantLong RX8 111 (5), Cond.fieldLink RX8 7 "InkPressModel" "zones" "I", Cond.fieldLink RX8 13 "InkPressModel" "rollers" "I", Cond.methodLink RX8 103 yX8_in, Cond.static yX8_in, Cond.initialized RX8, Cond.code yX8_in cX8_in 6 (some .boolean), Cond.methodLink RX8 78 yX8_begin, Cond.instanceMethod yX8_begin, Cond.selects RX8 yX8_begin yX8_begin, Cond.code yX8_begin cX8_begin 2 none, Cond.fieldLink RX8 20 "InkPressModel" "key" "[I", Cond.fieldLink RX8 23 "InkPressModel" "cover" "[I", Cond.fieldLink RX8 26 "InkPressModel" "target" "[I", Cond.fieldLink RX8 29 "InkPressModel" "ink" "[I", Cond.fieldLink RX8 81 "InkPressModel" "sheets" "I", Cond.fieldLink RX8 84 "InkPressModel" "goodMany" "I", Cond.fieldLink RX8 87 "InkPressModel" "together" "I", Cond.fieldLink RX8 39 "InkPressModel" "start" "I", Cond.fieldLink RX8 90 "InkPressModel" "fed" "I", Cond.fieldLink RX8 93 "InkPressModel" "paper" "I", Cond.fieldLink RX8 96 "InkPressModel" "bars" "I"]
def wsX8_press_r2 : List Cond := [Cond.fieldLink RX8 99 "InkPressModel" "steers" "Z"]
def wsX8_press : List Cond := .code yX8_press cX8_press 3 (some .int) :: ((wsX8_press_r1 ++ wsX8_press_r2) ++ wsX80)
def wsX8_mostOf : List Cond := .code yX8_mostOf cX8_mostOf 1 (some .int) :: ([])
def wsX8_rule : List Cond := .code yX8_rule cX8_rule 4 (some .int) :: ([.constantLong RX8 109 (8), .constant RX8 113 (-1000001), .constant RX8 118 (-1000002), .fieldLink RX8 16 "InkPressModel" "rules" "[I", .methodLink RX8 103 yX8_in, .static yX8_in, .initialized RX8, .code yX8_in cX8_in 6 (some .boolean), .methodLink RX8 114 yX8_mostOf, .static yX8_mostOf, .code yX8_mostOf cX8_mostOf 1 (some .int)] ++ wsX80)
def wsX8_set : List Cond := .code yX8_set cX8_set 5 (some .int) :: ([.constantLong RX8 107 (2), .constantLong RX8 123 (1000), .constantLong RX8 125 (100), .fieldLink RX8 20 "InkPressModel" "key" "[I", .fieldLink RX8 23 "InkPressModel" "cover" "[I", .fieldLink RX8 26 "InkPressModel" "target" "[I", .methodLink RX8 119 yX8_isZone, .instanceMethod yX8_isZone, .selects RX8 yX8_isZone yX8_isZone, .initialized RX8, .code yX8_isZone cX8_isZone 2 (some .boolean), .fieldLink RX8 7 "InkPressModel" "zones" "I", .methodLink RX8 103 yX8_in, .static yX8_in, .code yX8_in cX8_in 6 (some .boolean)] ++ wsX80)
def wsX8_densityOf : List Cond := .code yX8_densityOf cX8_densityOf 3 (some .int) :: ([.fieldLink RX8 32 "InkPressModel" "density" "[I"] ++ wsX80)
def wsX8_zone : List Cond := .code yX8_zone cX8_zone 3 (some .int) :: ([.fieldLink RX8 20 "InkPressModel" "key" "[I", .fieldLink RX8 23 "InkPressModel" "cover" "[I", .fieldLink RX8 26 "InkPressModel" "target" "[I", .fieldLink RX8 81 "InkPressModel" "sheets" "I", .methodLink RX8 119 yX8_isZone, .instanceMethod yX8_isZone, .selects RX8 yX8_isZone yX8_isZone, .initialized RX8, .code yX8_isZone cX8_isZone 2 (some .boolean), .fieldLink RX8 7 "InkPressModel" "zones" "I", .methodLink RX8 103 yX8_in, .static yX8_in, .code yX8_in cX8_in 6 (some .boolean), .methodLink RX8 127 yX8_densityOf, .instanceMethod yX8_densityOf, .selects RX8 yX8_densityOf yX8_densityOf, .code yX8_densityOf cX8_densityOf 3 (some .int), .fieldLink RX8 32 "InkPressModel" "density" "[I"] ++ wsX80)
def wsX8_ink : List Cond := .code yX8_ink cX8_ink 3 (some .int) :: ([.fieldLink RX8 13 "InkPressModel" "rollers" "I", .fieldLink RX8 29 "InkPressModel" "ink" "[I", .methodLink RX8 103 yX8_in, .static yX8_in, .initialized RX8, .code yX8_in cX8_in 6 (some .boolean), .methodLink RX8 119 yX8_isZone, .instanceMethod yX8_isZone, .selects RX8 yX8_isZone yX8_isZone, .code yX8_isZone cX8_isZone 2 (some .boolean), .fieldLink RX8 7 "InkPressModel" "zones" "I"] ++ wsX80)
def wsX8_drift : List Cond := .code yX8_drift cX8_drift 4 none :: ([.fieldLink RX8 7 "InkPressModel" "zones" "I", .fieldLink RX8 42 "InkPressModel" "aside" "[I", .fieldLink RX8 29 "InkPressModel" "ink" "[I", .fieldLink RX8 16 "InkPressModel" "rules" "[I"] ++ wsX80)
def wsX8_held : List Cond := .code yX8_held cX8_held 3 (some .int) :: ([])
def wsX8_steerKeys : List Cond := .code yX8_steerKeys cX8_steerKeys 3 none :: ([.fieldLink RX8 7 "InkPressModel" "zones" "I", .fieldLink RX8 26 "InkPressModel" "target" "[I", .fieldLink RX8 81 "InkPressModel" "sheets" "I", .fieldLink RX8 16 "InkPressModel" "rules" "[I", .fieldLink RX8 20 "InkPressModel" "key" "[I", .methodLink RX8 127 yX8_densityOf, .instanceMethod yX8_densityOf, .selects RX8 yX8_densityOf yX8_densityOf, .initialized RX8, .code yX8_densityOf cX8_densityOf 3 (some .int), .fieldLink RX8 32 "InkPressModel" "density" "[I", .methodLink RX8 140 yX8_held, .static yX8_held, .code yX8_held cX8_held 3 (some .int)] ++ wsX80)
def wsX8_sheet_r1 : List Cond := [Cond.fieldLink RX8 7 "InkPressModel" "zones" "I", Cond.fieldLink RX8 29 "InkPressModel" "ink" "[I", Cond.fieldLink RX8 20 "InkPressModel" "key" "[I", Cond.fieldLink RX8 16 "InkPressModel" "rules" "[I", Cond.fieldLink RX8 90 "InkPressModel" "fed" "I", Cond.fieldLink RX8 13 "InkPressModel" "rollers" "I", Cond.constantLong RX8 125 (100), Cond.fieldLink RX8 23 "InkPressModel" "cover" "[I", Cond.constantLong RX8 135 (10000), Cond.fieldLink RX8 93 "InkPressModel" "paper" "I", Cond.fieldLink RX8 96 "InkPressModel" "bars" "I", Cond.fieldLink RX8 32 "InkPressModel" "density" "[I", Cond.fieldLink RX8 81 "InkPressModel" "sheets" "I", Cond.fieldLink RX8 26 "InkPressModel" "target" "[I", Cond.fieldLink RX8 35 "InkPressModel" "isGood" "[Z", Cond.fieldLink RX8 84 "InkPressModel" "goodMany" "I", Cond.fieldLink RX8 87 "InkPressModel" "together" "I", Cond.fieldLink RX8 39 "InkPressModel" "start" "I", Cond.fieldLink RX8 99 "InkPressModel" "steers" "Z", Cond.methodLink RX8 131 yX8_drift, Cond.instanceMethod yX8_drift, Cond.selects RX8 yX8_drift yX8_drift, Cond.initialized RX8, Cond.code yX8_drift cX8_drift 4 none]
def wsX8_sheet_r2 : List Cond := [Cond.fieldLink RX8 42 "InkPressModel" "aside" "[I", Cond.methodLink RX8 137 yX8_steerKeys, Cond.instanceMethod yX8_steerKeys, Cond.selects RX8 yX8_steerKeys yX8_steerKeys, Cond.code yX8_steerKeys cX8_steerKeys 3 none, Cond.methodLink RX8 127 yX8_densityOf, Cond.instanceMethod yX8_densityOf, Cond.selects RX8 yX8_densityOf yX8_densityOf, Cond.code yX8_densityOf cX8_densityOf 3 (some .int), Cond.methodLink RX8 140 yX8_held, Cond.static yX8_held, Cond.code yX8_held cX8_held 3 (some .int)]
def wsX8_sheet : List Cond := .code yX8_sheet cX8_sheet 8 none :: ((wsX8_sheet_r1 ++ wsX8_sheet_r2) ++ wsX80)
def wsX8_print_r1 : List Cond := [Cond.constantLong RX8 144 (200), Cond.fieldLink RX8 81 "InkPressModel" "sheets" "I", Cond.methodLink RX8 103 yX8_in, Cond.static yX8_in, Cond.initialized RX8, Cond.code yX8_in cX8_in 6 (some .boolean), Cond.methodLink RX8 146 yX8_sheet, Cond.instanceMethod yX8_sheet, Cond.selects RX8 yX8_sheet yX8_sheet, Cond.code yX8_sheet cX8_sheet 8 none, Cond.fieldLink RX8 7 "InkPressModel" "zones" "I", Cond.fieldLink RX8 29 "InkPressModel" "ink" "[I", Cond.fieldLink RX8 20 "InkPressModel" "key" "[I", Cond.fieldLink RX8 16 "InkPressModel" "rules" "[I", Cond.fieldLink RX8 90 "InkPressModel" "fed" "I", Cond.fieldLink RX8 13 "InkPressModel" "rollers" "I", Cond.constantLong RX8 125 (100), Cond.fieldLink RX8 23 "InkPressModel" "cover" "[I", Cond.constantLong RX8 135 (10000), Cond.fieldLink RX8 93 "InkPressModel" "paper" "I", Cond.fieldLink RX8 96 "InkPressModel" "bars" "I", Cond.fieldLink RX8 32 "InkPressModel" "density" "[I", Cond.fieldLink RX8 26 "InkPressModel" "target" "[I", Cond.fieldLink RX8 35 "InkPressModel" "isGood" "[Z"]
def wsX8_print_r2 : List Cond := [Cond.fieldLink RX8 84 "InkPressModel" "goodMany" "I", Cond.fieldLink RX8 87 "InkPressModel" "together" "I", Cond.fieldLink RX8 39 "InkPressModel" "start" "I", Cond.fieldLink RX8 99 "InkPressModel" "steers" "Z", Cond.methodLink RX8 131 yX8_drift, Cond.instanceMethod yX8_drift, Cond.selects RX8 yX8_drift yX8_drift, Cond.code yX8_drift cX8_drift 4 none, Cond.fieldLink RX8 42 "InkPressModel" "aside" "[I", Cond.methodLink RX8 137 yX8_steerKeys, Cond.instanceMethod yX8_steerKeys, Cond.selects RX8 yX8_steerKeys yX8_steerKeys, Cond.code yX8_steerKeys cX8_steerKeys 3 none, Cond.methodLink RX8 127 yX8_densityOf, Cond.instanceMethod yX8_densityOf, Cond.selects RX8 yX8_densityOf yX8_densityOf, Cond.code yX8_densityOf cX8_densityOf 3 (some .int), Cond.methodLink RX8 140 yX8_held, Cond.static yX8_held, Cond.code yX8_held cX8_held 3 (some .int)]
def wsX8_print : List Cond := .code yX8_print cX8_print 3 (some .int) :: ((wsX8_print_r1 ++ wsX8_print_r2) ++ wsX80)
def wsX8_steer : List Cond := .code yX8_steer cX8_steer 3 (some .int) :: ([.fieldLink RX8 99 "InkPressModel" "steers" "Z"] ++ wsX80)
def wsX8_good : List Cond := .code yX8_good cX8_good 2 (some .int) :: ([.fieldLink RX8 81 "InkPressModel" "sheets" "I", .fieldLink RX8 35 "InkPressModel" "isGood" "[Z", .methodLink RX8 103 yX8_in, .static yX8_in, .initialized RX8, .code yX8_in cX8_in 6 (some .boolean)] ++ wsX80)
def wsX8_density : List Cond := .code yX8_density cX8_density 3 (some .int) :: ([.fieldLink RX8 81 "InkPressModel" "sheets" "I", .methodLink RX8 103 yX8_in, .static yX8_in, .initialized RX8, .code yX8_in cX8_in 6 (some .boolean), .methodLink RX8 119 yX8_isZone, .instanceMethod yX8_isZone, .selects RX8 yX8_isZone yX8_isZone, .code yX8_isZone cX8_isZone 2 (some .boolean), .fieldLink RX8 7 "InkPressModel" "zones" "I", .methodLink RX8 127 yX8_densityOf, .instanceMethod yX8_densityOf, .selects RX8 yX8_densityOf yX8_densityOf, .code yX8_densityOf cX8_densityOf 3 (some .int), .fieldLink RX8 32 "InkPressModel" "density" "[I"] ++ wsX80)
def wsX8_past : List Cond := .code yX8_past cX8_past 3 (some .int) :: ([.constantLong RX8 125 (100), .fieldLink RX8 149 "InkPressModel" "pastMany" "I", .fieldLink RX8 45 "InkPressModel" "pastCover" "[I", .fieldLink RX8 48 "InkPressModel" "pastKey" "[I", .methodLink RX8 103 yX8_in, .static yX8_in, .initialized RX8, .code yX8_in cX8_in 6 (some .boolean)] ++ wsX80)
def wsX8_presetOf : List Cond := .code yX8_presetOf cX8_presetOf 14 (some .int) :: ([.fieldLink RX8 149 "InkPressModel" "pastMany" "I", .fieldLink RX8 45 "InkPressModel" "pastCover" "[I", .fieldLink RX8 48 "InkPressModel" "pastKey" "[I", .constantLong RX8 125 (100)] ++ wsX80)
def wsX8_preset : List Cond := .code yX8_preset cX8_preset 2 (some .int) :: ([.constantLong RX8 125 (100), .fieldLink RX8 149 "InkPressModel" "pastMany" "I", .methodLink RX8 103 yX8_in, .static yX8_in, .initialized RX8, .code yX8_in cX8_in 6 (some .boolean), .methodLink RX8 152 yX8_presetOf, .instanceMethod yX8_presetOf, .selects RX8 yX8_presetOf yX8_presetOf, .code yX8_presetOf cX8_presetOf 14 (some .int), .fieldLink RX8 45 "InkPressModel" "pastCover" "[I", .fieldLink RX8 48 "InkPressModel" "pastKey" "[I"] ++ wsX80)
def wsX8_presets : List Cond := .code yX8_presets cX8_presets 4 (some .int) :: ([.fieldLink RX8 149 "InkPressModel" "pastMany" "I", .fieldLink RX8 7 "InkPressModel" "zones" "I", .fieldLink RX8 23 "InkPressModel" "cover" "[I", .fieldLink RX8 20 "InkPressModel" "key" "[I", .methodLink RX8 152 yX8_presetOf, .instanceMethod yX8_presetOf, .selects RX8 yX8_presetOf yX8_presetOf, .initialized RX8, .code yX8_presetOf cX8_presetOf 14 (some .int), .fieldLink RX8 45 "InkPressModel" "pastCover" "[I", .fieldLink RX8 48 "InkPressModel" "pastKey" "[I", .constantLong RX8 125 (100)] ++ wsX80)
def wsX8_told : List Cond := .code yX8_told cX8_told 4 (some .int) :: ([.fieldLink RX8 29 "InkPressModel" "ink" "[I", .fieldLink RX8 81 "InkPressModel" "sheets" "I", .fieldLink RX8 84 "InkPressModel" "goodMany" "I", .fieldLink RX8 39 "InkPressModel" "start" "I", .fieldLink RX8 90 "InkPressModel" "fed" "I", .fieldLink RX8 93 "InkPressModel" "paper" "I", .fieldLink RX8 96 "InkPressModel" "bars" "I", .fieldLink RX8 99 "InkPressModel" "steers" "Z", .fieldLink RX8 149 "InkPressModel" "pastMany" "I", .constant RX8 118 (-1000002)] ++ wsX80)
def wsX8_isPlace : List Cond := .code yX8_isPlace cX8_isPlace 3 (some .boolean) :: ([.methodLink RX8 103 yX8_in, .static yX8_in, .initialized RX8, .code yX8_in cX8_in 6 (some .boolean)])
def wsX8_mark : List Cond := .code yX8_mark cX8_mark 5 (some .int) :: ([.fieldLink RX8 159 "InkPressModel" "marks" "I", .fieldLink RX8 51 "InkPressModel" "markX" "[I", .fieldLink RX8 54 "InkPressModel" "markY" "[I", .fieldLink RX8 57 "InkPressModel" "markDx" "[I", .fieldLink RX8 60 "InkPressModel" "markDy" "[I", .methodLink RX8 155 yX8_isPlace, .static yX8_isPlace, .initialized RX8, .code yX8_isPlace cX8_isPlace 3 (some .boolean), .methodLink RX8 103 yX8_in, .static yX8_in, .code yX8_in cX8_in 6 (some .boolean)] ++ wsX80)
def wsX8_clear : List Cond := .code yX8_clear cX8_clear 2 (some .int) :: ([.fieldLink RX8 159 "InkPressModel" "marks" "I"] ++ wsX80)
def wsX8_findFit : List Cond := .code yX8_findFit cX8_findFit 16 (some .boolean) :: ([.fieldLink RX8 159 "InkPressModel" "marks" "I", .fieldLink RX8 51 "InkPressModel" "markX" "[I", .fieldLink RX8 54 "InkPressModel" "markY" "[I", .fieldLink RX8 57 "InkPressModel" "markDx" "[I", .fieldLink RX8 60 "InkPressModel" "markDy" "[I", .fieldLink RX8 162 "InkPressModel" "all" "J", .fieldLink RX8 166 "InkPressModel" "stretch" "J", .fieldLink RX8 169 "InkPressModel" "turn" "J", .fieldLink RX8 172 "InkPressModel" "across" "J", .fieldLink RX8 175 "InkPressModel" "above" "J"] ++ wsX80)
def wsX8_lowest : List Cond := .code yX8_lowest cX8_lowest 11 (some .long) :: ([])
def wsX8_fit : List Cond := .code yX8_fit cX8_fit 3 (some .long) :: ([.constantLong RX8 178 (3), .constantLong RX8 180 (-1000002), .constantLong RX8 186 (-1000005), .fieldLink RX8 166 "InkPressModel" "stretch" "J", .fieldLink RX8 162 "InkPressModel" "all" "J", .fieldLink RX8 169 "InkPressModel" "turn" "J", .fieldLink RX8 172 "InkPressModel" "across" "J", .fieldLink RX8 159 "InkPressModel" "marks" "I", .fieldLink RX8 175 "InkPressModel" "above" "J", .methodLink RX8 103 yX8_in, .static yX8_in, .initialized RX8, .code yX8_in cX8_in 6 (some .boolean), .methodLink RX8 182 yX8_findFit, .instanceMethod yX8_findFit, .selects RX8 yX8_findFit yX8_findFit, .code yX8_findFit cX8_findFit 16 (some .boolean), .fieldLink RX8 51 "InkPressModel" "markX" "[I", .fieldLink RX8 54 "InkPressModel" "markY" "[I", .fieldLink RX8 57 "InkPressModel" "markDx" "[I", .fieldLink RX8 60 "InkPressModel" "markDy" "[I", .methodLink RX8 188 yX8_lowest, .static yX8_lowest, .code yX8_lowest cX8_lowest 11 (some .long)] ++ wsX80)
def wsX8_off : List Cond := .code yX8_off cX8_off 7 (some .int) :: ([.fieldLink RX8 159 "InkPressModel" "marks" "I", .constant RX8 113 (-1000001), .constant RX8 118 (-1000002), .constant RX8 192 (-1000005), .fieldLink RX8 162 "InkPressModel" "all" "J", .fieldLink RX8 57 "InkPressModel" "markDx" "[I", .fieldLink RX8 166 "InkPressModel" "stretch" "J", .fieldLink RX8 51 "InkPressModel" "markX" "[I", .fieldLink RX8 169 "InkPressModel" "turn" "J", .fieldLink RX8 54 "InkPressModel" "markY" "[I", .fieldLink RX8 172 "InkPressModel" "across" "J", .fieldLink RX8 60 "InkPressModel" "markDy" "[I", .fieldLink RX8 175 "InkPressModel" "above" "J", .constantLong RX8 123 (1000), .methodLink RX8 103 yX8_in, .static yX8_in, .initialized RX8, .code yX8_in cX8_in 6 (some .boolean), .methodLink RX8 182 yX8_findFit, .instanceMethod yX8_findFit, .selects RX8 yX8_findFit yX8_findFit, .code yX8_findFit cX8_findFit 16 (some .boolean)] ++ wsX80)
def wsX8_job : List Cond := .code yX8_job cX8_job 3 (some .int) :: ([.constantLong RX8 178 (3), .constantLong RX8 111 (5), .fieldLink RX8 193 "InkPressModel" "jobs" "I", .fieldLink RX8 63 "InkPressModel" "colour" "[I", .fieldLink RX8 66 "InkPressModel" "sheetOf" "[I", .methodLink RX8 103 yX8_in, .static yX8_in, .initialized RX8, .code yX8_in cX8_in 6 (some .boolean)] ++ wsX80)
def wsX8_forget : List Cond := .code yX8_forget cX8_forget 2 (some .int) :: ([.fieldLink RX8 193 "InkPressModel" "jobs" "I"] ++ wsX80)
def wsX8_wash : List Cond := .code yX8_wash cX8_wash 5 (some .int) :: ([.constantLong RX8 178 (3), .constantLong RX8 125 (100), .fieldLink RX8 69 "InkPressModel" "washes" "[I", .methodLink RX8 103 yX8_in, .static yX8_in, .initialized RX8, .code yX8_in cX8_in 6 (some .boolean)] ++ wsX80)
def wsX8_layRow : List Cond := .code yX8_layRow cX8_layRow 9 none :: ([.fieldLink RX8 193 "InkPressModel" "jobs" "I", .fieldLink RX8 72 "InkPressModel" "row" "[I"] ++ wsX80)
def wsX8_costOf : List Cond := .code yX8_costOf cX8_costOf 5 (some .int) :: ([.fieldLink RX8 193 "InkPressModel" "jobs" "I", .fieldLink RX8 69 "InkPressModel" "washes" "[I", .fieldLink RX8 63 "InkPressModel" "colour" "[I", .fieldLink RX8 72 "InkPressModel" "row" "[I", .fieldLink RX8 66 "InkPressModel" "sheetOf" "[I"] ++ wsX80)
def wsX8_order : List Cond := .code yX8_order cX8_order 6 (some .int) :: ([.fieldLink RX8 193 "InkPressModel" "jobs" "I", .fieldLink RX8 75 "InkPressModel" "best" "[I", .fieldLink RX8 72 "InkPressModel" "row" "[I", .methodLink RX8 196 yX8_layRow, .instanceMethod yX8_layRow, .selects RX8 yX8_layRow yX8_layRow, .initialized RX8, .code yX8_layRow cX8_layRow 9 none, .methodLink RX8 200 yX8_costOf, .instanceMethod yX8_costOf, .selects RX8 yX8_costOf yX8_costOf, .code yX8_costOf cX8_costOf 5 (some .int), .fieldLink RX8 69 "InkPressModel" "washes" "[I", .fieldLink RX8 63 "InkPressModel" "colour" "[I", .fieldLink RX8 66 "InkPressModel" "sheetOf" "[I"] ++ wsX80)
def wsX8_orderAt : List Cond := .code yX8_orderAt cX8_orderAt 3 (some .int) :: ([.fieldLink RX8 193 "InkPressModel" "jobs" "I", .fieldLink RX8 75 "InkPressModel" "best" "[I", .methodLink RX8 103 yX8_in, .static yX8_in, .initialized RX8, .code yX8_in cX8_in 6 (some .boolean), .methodLink RX8 204 yX8_order, .instanceMethod yX8_order, .selects RX8 yX8_order yX8_order, .code yX8_order cX8_order 6 (some .int), .fieldLink RX8 72 "InkPressModel" "row" "[I", .methodLink RX8 196 yX8_layRow, .instanceMethod yX8_layRow, .selects RX8 yX8_layRow yX8_layRow, .code yX8_layRow cX8_layRow 9 none, .methodLink RX8 200 yX8_costOf, .instanceMethod yX8_costOf, .selects RX8 yX8_costOf yX8_costOf, .code yX8_costOf cX8_costOf 5 (some .int), .fieldLink RX8 69 "InkPressModel" "washes" "[I", .fieldLink RX8 63 "InkPressModel" "colour" "[I", .fieldLink RX8 66 "InkPressModel" "sheetOf" "[I"] ++ wsX80)
def wsJ9_abs_0f7a4 : List Cond := .code yJ9_abs_0f7a4 cJ9_abs_0f7a4 1 (some .int) :: ([])
def wsJ9_abs_067f4 : List Cond := .code yJ9_abs_067f4 cJ9_abs_067f4 2 (some .long) :: ([])
def wsJ9_max_f86c9 : List Cond := .code yJ9_max_f86c9 cJ9_max_f86c9 4 (some .long) :: ([])
def wsJ9_min_f86c9 : List Cond := .code yJ9_min_f86c9 cJ9_min_f86c9 4 (some .long) :: ([])
def wsL_law_r1 : List Cond := [Cond.classLink RL 7 RX7, Cond.instantiable RX7 8, Cond.initialized RX7, Cond.classLink RL 10 RX8, Cond.instantiable RX8 37, Cond.initialized RX8, Cond.methodLink RL 9 yX7_init, Cond.instanceMethod yX7_init, Cond.code yX7_init cX7_init 1 none, Cond.methodLink RX7 1 objectInit, Cond.instanceMethod objectInit, Cond.code objectInit ⟨#[0xb1]⟩ 1 none, Cond.classLink RX7 7 RX3, Cond.instantiable RX3 1, Cond.initialized RX3, Cond.fieldLink RX7 10 "InkPress" "rules" "LInkPress$Rules;", Cond.classLink RX7 16 RX6, Cond.instantiable RX6 2, Cond.initialized RX6, Cond.fieldLink RX7 19 "InkPress" "zones" "LInkPress$Zones;", Cond.classLink RX7 23 RX5, Cond.instantiable RX5 6, Cond.initialized RX5, Cond.fieldLink RX7 26 "InkPress" "train" "LInkPress$Train;"]
def wsL_law_r2 : List Cond := [Cond.classLink RX7 30 RX4, Cond.instantiable RX4 6, Cond.initialized RX4, Cond.fieldLink RX7 33 "InkPress" "sheets" "LInkPress$SheetLog;", Cond.classLink RX7 37 RX2, Cond.instantiable RX2 5, Cond.initialized RX2, Cond.fieldLink RX7 40 "InkPress" "pastJobs" "LInkPress$PastJobs;", Cond.classLink RX7 44 RX1, Cond.instantiable RX1 12, Cond.initialized RX1, Cond.fieldLink RX7 47 "InkPress" "marks" "LInkPress$Marks;", Cond.classLink RX7 51 RX0, Cond.instantiable RX0 7, Cond.initialized RX0, Cond.fieldLink RX7 54 "InkPress" "jobs" "LInkPress$Jobs;", Cond.fieldLink RX7 58 "InkPress" "steering" "Z", Cond.methodLink RX7 9 yX3_init, Cond.instanceMethod yX3_init, Cond.code yX3_init cX3_init 1 none, Cond.methodLink RX3 1 objectInit, Cond.fieldLink RX3 7 "InkPress$Rules" "FIRST" "[I", Cond.methodLink RX3 13 ⟨"[I", "clone", "()Ljava/lang/Object;"⟩, Cond.sameMethod "[I" "java/lang/Object" "clone" "()Ljava/lang/Object;"]
def wsL_law_r3 : List Cond := [Cond.native ⟨"java/lang/Object", "clone", "()Ljava/lang/Object;"⟩, Cond.instanceMethod ⟨"java/lang/Object", "clone", "()Ljava/lang/Object;"⟩, Cond.selects "[I" ⟨"[I", "clone", "()Ljava/lang/Object;"⟩ ⟨"java/lang/Object", "clone", "()Ljava/lang/Object;"⟩, Cond.classLink RX3 14 "[I", Cond.fieldLink RX3 18 "InkPress$Rules" "values" "[I", Cond.methodLink RX7 18 yX6_init, Cond.instanceMethod yX6_init, Cond.code yX6_init cX6_init 1 none, Cond.methodLink RX6 3 objectInit, Cond.fieldLink RX6 9 "InkPress$Zones" "FIRST" "[I", Cond.arrayClass .int, Cond.fieldLink RX6 15 "InkPress$Zones" "values" "[I", Cond.methodLink RX6 18 yX6_restart, Cond.instanceMethod yX6_restart, Cond.selects RX6 yX6_restart yX6_restart, Cond.code yX6_restart cX6_restart 3 none, Cond.fieldLink RX6 22 "InkPress$Zones" "count" "I", Cond.methodLink RX7 25 yX5_init, Cond.instanceMethod yX5_init, Cond.code yX5_init cX5_init 1 none, Cond.methodLink RX5 3 objectInit, Cond.fieldLink RX5 9 "InkPress$Train" "ink" "[I", Cond.methodLink RX5 15 yX5_restart, Cond.instanceMethod yX5_restart]
def wsL_law_r4 : List Cond := [Cond.selects RX5 yX5_restart yX5_restart, Cond.code yX5_restart cX5_restart 4 none, Cond.fieldLink RX5 19 "InkPress$Train" "zones" "I", Cond.fieldLink RX5 23 "InkPress$Train" "rollers" "I", Cond.fieldLink RX5 26 "InkPress$Train" "fed" "I", Cond.fieldLink RX5 29 "InkPress$Train" "onPaper" "I", Cond.fieldLink RX5 32 "InkPress$Train" "onBars" "I", Cond.methodLink RX7 32 yX4_init, Cond.instanceMethod yX4_init, Cond.code yX4_init cX4_init 1 none, Cond.methodLink RX4 3 objectInit, Cond.fieldLink RX4 9 "InkPress$SheetLog" "densities" "[I", Cond.arrayClass .boolean, Cond.fieldLink RX4 15 "InkPress$SheetLog" "good" "[Z", Cond.methodLink RX4 19 yX4_restart, Cond.instanceMethod yX4_restart, Cond.selects RX4 yX4_restart yX4_restart, Cond.code yX4_restart cX4_restart 1 none, Cond.fieldLink RX4 22 "InkPress$SheetLog" "count" "I", Cond.fieldLink RX4 26 "InkPress$SheetLog" "goodCount" "I", Cond.fieldLink RX4 29 "InkPress$SheetLog" "goodInARow" "I", Cond.fieldLink RX4 32 "InkPress$SheetLog" "start" "I", Cond.methodLink RX7 39 yX2_init, Cond.instanceMethod yX2_init]
def wsL_law_r5 : List Cond := [Cond.code yX2_init cX2_init 1 none, Cond.methodLink RX2 3 objectInit, Cond.fieldLink RX2 9 "InkPress$PastJobs" "count" "I", Cond.methodLink RX7 46 yX1_init, Cond.instanceMethod yX1_init, Cond.code yX1_init cX1_init 1 none, Cond.methodLink RX1 3 objectInit, Cond.fieldLink RX1 11 "InkPress$Marks" "x" "[I", Cond.fieldLink RX1 15 "InkPress$Marks" "y" "[I", Cond.fieldLink RX1 18 "InkPress$Marks" "dx" "[I", Cond.fieldLink RX1 21 "InkPress$Marks" "dy" "[I", Cond.methodLink RX7 53 yX0_init, Cond.instanceMethod yX0_init, Cond.code yX0_init cX0_init 2 none, Cond.methodLink RX0 5 objectInit, Cond.fieldLink RX0 11 "InkPress$Jobs" "colours" "[I", Cond.fieldLink RX0 15 "InkPress$Jobs" "papers" "[I", Cond.fieldLink RX0 18 "InkPress$Jobs" "washes" "[I", Cond.fieldLink RX0 21 "InkPress$Jobs" "costsToCome" "[I", Cond.fieldLink RX0 24 "InkPress$Jobs" "best" "[I", Cond.methodLink RL 12 yX8_init, Cond.instanceMethod yX8_init, Cond.code yX8_init cX8_init 3 none, Cond.methodLink RX8 1 objectInit]
def wsL_law_r6 : List Cond := [Cond.fieldLink RX8 7 "InkPressModel" "zones" "I", Cond.fieldLink RX8 13 "InkPressModel" "rollers" "I", Cond.fieldLink RX8 16 "InkPressModel" "rules" "[I", Cond.fieldLink RX8 20 "InkPressModel" "key" "[I", Cond.fieldLink RX8 23 "InkPressModel" "cover" "[I", Cond.fieldLink RX8 26 "InkPressModel" "target" "[I", Cond.fieldLink RX8 29 "InkPressModel" "ink" "[I", Cond.fieldLink RX8 32 "InkPressModel" "density" "[I", Cond.fieldLink RX8 35 "InkPressModel" "isGood" "[Z", Cond.fieldLink RX8 39 "InkPressModel" "start" "I", Cond.fieldLink RX8 42 "InkPressModel" "aside" "[I", Cond.fieldLink RX8 45 "InkPressModel" "pastCover" "[I", Cond.fieldLink RX8 48 "InkPressModel" "pastKey" "[I", Cond.fieldLink RX8 51 "InkPressModel" "markX" "[I", Cond.fieldLink RX8 54 "InkPressModel" "markY" "[I", Cond.fieldLink RX8 57 "InkPressModel" "markDx" "[I", Cond.fieldLink RX8 60 "InkPressModel" "markDy" "[I", Cond.fieldLink RX8 63 "InkPressModel" "colour" "[I", Cond.fieldLink RX8 66 "InkPressModel" "sheetOf" "[I", Cond.fieldLink RX8 69 "InkPressModel" "washes" "[I", Cond.fieldLink RX8 72 "InkPressModel" "row" "[I", Cond.fieldLink RX8 75 "InkPressModel" "best" "[I", Cond.methodLink RX8 78 yX8_begin, Cond.instanceMethod yX8_begin]
def wsL_law_r7 : List Cond := [Cond.selects RX8 yX8_begin yX8_begin, Cond.code yX8_begin cX8_begin 2 none, Cond.fieldLink RX8 81 "InkPressModel" "sheets" "I", Cond.fieldLink RX8 84 "InkPressModel" "goodMany" "I", Cond.fieldLink RX8 87 "InkPressModel" "together" "I", Cond.fieldLink RX8 90 "InkPressModel" "fed" "I", Cond.fieldLink RX8 93 "InkPressModel" "paper" "I", Cond.fieldLink RX8 96 "InkPressModel" "bars" "I", Cond.fieldLink RX8 99 "InkPressModel" "steers" "Z", Cond.methodLink RL 13 yX7_press, Cond.instanceMethod yX7_press, Cond.selects RX7 yX7_press yX7_press, Cond.code yX7_press cX7_press 3 (some .int), Cond.methodLink RX7 62 yX7_within, Cond.static yX7_within, Cond.code yX7_within cX7_within 3 (some .boolean), Cond.methodLink RX7 66 yX6_restart, Cond.methodLink RX7 70 yX5_restart, Cond.methodLink RX7 73 yX4_restart, Cond.methodLink RL 17 yX8_press, Cond.instanceMethod yX8_press, Cond.selects RX8 yX8_press yX8_press, Cond.code yX8_press cX8_press 3 (some .int), Cond.constantLong RX8 107 (2)]
def wsL_law_r8 : List Cond := [Cond.constantLong RX8 109 (8), Cond.constantLong RX8 111 (5), Cond.methodLink RX8 103 yX8_in, Cond.static yX8_in, Cond.code yX8_in cX8_in 6 (some .boolean), Cond.methodLink RL 18 yX7_rule, Cond.instanceMethod yX7_rule, Cond.selects RX7 yX7_rule yX7_rule, Cond.code yX7_rule cX7_rule 3 (some .int), Cond.constant RX7 79 (-1000001), Cond.constant RX7 84 (-1000002), Cond.methodLink RX7 75 yX3_has, Cond.instanceMethod yX3_has, Cond.selects RX3 yX3_has yX3_has, Cond.code yX3_has cX3_has 2 (some .boolean), Cond.methodLink RX7 80 yX3_allows, Cond.instanceMethod yX3_allows, Cond.selects RX3 yX3_allows yX3_allows, Cond.code yX3_allows cX3_allows 3 (some .boolean), Cond.fieldLink RX3 21 "InkPress$Rules" "LEAST" "[I", Cond.fieldLink RX3 24 "InkPress$Rules" "MOST" "[I", Cond.methodLink RX7 85 yX3_change, Cond.instanceMethod yX3_change, Cond.selects RX3 yX3_change yX3_change]
def wsL_law_r9 : List Cond := [Cond.code yX3_change cX3_change 4 (some .int), Cond.methodLink RL 21 yX8_rule, Cond.instanceMethod yX8_rule, Cond.selects RX8 yX8_rule yX8_rule, Cond.code yX8_rule cX8_rule 4 (some .int), Cond.constant RX8 113 (-1000001), Cond.constant RX8 118 (-1000002), Cond.methodLink RX8 114 yX8_mostOf, Cond.static yX8_mostOf, Cond.code yX8_mostOf cX8_mostOf 1 (some .int), Cond.methodLink RL 22 yX7_set, Cond.instanceMethod yX7_set, Cond.selects RX7 yX7_set yX7_set, Cond.code yX7_set cX7_set 4 (some .int), Cond.methodLink RX7 89 yX6_has, Cond.instanceMethod yX6_has, Cond.selects RX6 yX6_has yX6_has, Cond.code yX6_has cX6_has 2 (some .boolean), Cond.methodLink RX7 90 yX6_allows, Cond.instanceMethod yX6_allows, Cond.selects RX6 yX6_allows yX6_allows, Cond.code yX6_allows cX6_allows 3 (some .boolean), Cond.fieldLink RX6 26 "InkPress$Zones" "MOST" "[I", Cond.methodLink RX7 91 yX6_change]
def wsL_law_r10 : List Cond := [Cond.instanceMethod yX6_change, Cond.selects RX6 yX6_change yX6_change, Cond.code yX6_change cX6_change 6 (some .int), Cond.methodLink RL 26 yX8_set, Cond.instanceMethod yX8_set, Cond.selects RX8 yX8_set yX8_set, Cond.code yX8_set cX8_set 5 (some .int), Cond.constantLong RX8 123 (1000), Cond.constantLong RX8 125 (100), Cond.methodLink RX8 119 yX8_isZone, Cond.instanceMethod yX8_isZone, Cond.selects RX8 yX8_isZone yX8_isZone, Cond.code yX8_isZone cX8_isZone 2 (some .boolean), Cond.methodLink RL 27 yX7_zone, Cond.instanceMethod yX7_zone, Cond.selects RX7 yX7_zone yX7_zone, Cond.code yX7_zone cX7_zone 3 (some .int), Cond.methodLink RX7 94 yX4_latestDensity, Cond.instanceMethod yX4_latestDensity, Cond.selects RX4 yX4_latestDensity yX4_latestDensity, Cond.code yX4_latestDensity cX4_latestDensity 2 (some .int), Cond.methodLink RX4 35 yX4_densityOn, Cond.instanceMethod yX4_densityOn, Cond.selects RX4 yX4_densityOn yX4_densityOn]
def wsL_law_r11 : List Cond := [Cond.code yX4_densityOn cX4_densityOn 3 (some .int), Cond.methodLink RX7 98 yX6_valueOf, Cond.instanceMethod yX6_valueOf, Cond.selects RX6 yX6_valueOf yX6_valueOf, Cond.code yX6_valueOf cX6_valueOf 3 (some .int), Cond.methodLink RL 30 yX8_zone, Cond.instanceMethod yX8_zone, Cond.selects RX8 yX8_zone yX8_zone, Cond.code yX8_zone cX8_zone 3 (some .int), Cond.methodLink RX8 127 yX8_densityOf, Cond.instanceMethod yX8_densityOf, Cond.selects RX8 yX8_densityOf yX8_densityOf, Cond.code yX8_densityOf cX8_densityOf 3 (some .int), Cond.methodLink RL 31 yX7_ink, Cond.instanceMethod yX7_ink, Cond.selects RX7 yX7_ink yX7_ink, Cond.code yX7_ink cX7_ink 3 (some .int), Cond.methodLink RX7 101 yX5_has, Cond.instanceMethod yX5_has, Cond.selects RX5 yX5_has yX5_has, Cond.code yX5_has cX5_has 2 (some .boolean), Cond.methodLink RX7 102 yX5_inkAt, Cond.instanceMethod yX5_inkAt, Cond.selects RX5 yX5_inkAt yX5_inkAt]
def wsL_law_r12 : List Cond := [Cond.code yX5_inkAt cX5_inkAt 3 (some .int), Cond.methodLink RL 34 yX8_ink, Cond.instanceMethod yX8_ink, Cond.selects RX8 yX8_ink yX8_ink, Cond.code yX8_ink cX8_ink 3 (some .int), Cond.methodLink RL 35 yX7_print, Cond.instanceMethod yX7_print, Cond.selects RX7 yX7_print yX7_print, Cond.code yX7_print cX7_print 3 (some .int), Cond.methodLink RX7 109 yX7_printSheet, Cond.instanceMethod yX7_printSheet, Cond.selects RX7 yX7_printSheet yX7_printSheet, Cond.code yX7_printSheet cX7_printSheet 5 none, Cond.methodLink RX7 240 Lib.Math.abs.name, Cond.static Lib.Math.abs.name, Cond.initialized "java/lang/Math", Cond.code Lib.Math.abs.name Lib.Math.abs.code 1 (some .int), Cond.methodLink RX7 220 yX3_valueOf, Cond.instanceMethod yX3_valueOf, Cond.selects RX3 yX3_valueOf yX3_valueOf, Cond.code yX3_valueOf cX3_valueOf 2 (some .int), Cond.methodLink RX7 222 yX5_feedZone, Cond.instanceMethod yX5_feedZone, Cond.selects RX5 yX5_feedZone yX5_feedZone]
def wsL_law_r13 : List Cond := [Cond.code yX5_feedZone cX5_feedZone 3 none, Cond.methodLink RX7 225 yX5_passOn, Cond.instanceMethod yX5_passOn, Cond.selects RX5 yX5_passOn yX5_passOn, Cond.code yX5_passOn cX5_passOn 6 none, Cond.methodLink RX5 35 yX5_share, Cond.static yX5_share, Cond.code yX5_share cX5_share 3 (some .int), Cond.methodLink RX7 228 yX5_driftAside, Cond.instanceMethod yX5_driftAside, Cond.selects RX5 yX5_driftAside yX5_driftAside, Cond.code yX5_driftAside cX5_driftAside 7 none, Cond.methodLink RX7 231 yX4_begin, Cond.instanceMethod yX4_begin, Cond.selects RX4 yX4_begin yX4_begin, Cond.code yX4_begin cX4_begin 1 none, Cond.methodLink RX7 234 yX5_takeOff, Cond.instanceMethod yX5_takeOff, Cond.selects RX5 yX5_takeOff yX5_takeOff, Cond.code yX5_takeOff cX5_takeOff 7 (some .int), Cond.methodLink RX7 237 yX4_note, Cond.instanceMethod yX4_note, Cond.selects RX4 yX4_note yX4_note, Cond.code yX4_note cX4_note 3 none]
def wsL_law_r14 : List Cond := [Cond.methodLink RX7 245 yX4_judge, Cond.instanceMethod yX4_judge, Cond.selects RX4 yX4_judge yX4_judge, Cond.code yX4_judge cX4_judge 3 none, Cond.methodLink RX7 112 yX7_isSteeringDue, Cond.instanceMethod yX7_isSteeringDue, Cond.selects RX7 yX7_isSteeringDue yX7_isSteeringDue, Cond.code yX7_isSteeringDue cX7_isSteeringDue 2 (some .boolean), Cond.methodLink RX7 116 yX7_steerKeys, Cond.instanceMethod yX7_steerKeys, Cond.selects RX7 yX7_steerKeys yX7_steerKeys, Cond.code yX7_steerKeys cX7_steerKeys 5 none, Cond.methodLink RX7 249 yX7_held, Cond.static yX7_held, Cond.code yX7_held cX7_held 4 (some .int), Cond.methodLink RX7 253 Lib.MathLoose.min_long.x, Cond.static Lib.MathLoose.min_long.x, Cond.code Lib.MathLoose.min_long.x Lib.MathLoose.min_long.code 4 (some .long), Cond.methodLink RX7 256 Lib.MathLoose.max_long.x, Cond.static Lib.MathLoose.max_long.x, Cond.code Lib.MathLoose.max_long.x Lib.MathLoose.max_long.code 4 (some .long), Cond.methodLink RL 39 yX8_print, Cond.instanceMethod yX8_print, Cond.selects RX8 yX8_print yX8_print]
def wsL_law_r15 : List Cond := [Cond.code yX8_print cX8_print 3 (some .int), Cond.constantLong RX8 144 (200), Cond.methodLink RX8 146 yX8_sheet, Cond.instanceMethod yX8_sheet, Cond.selects RX8 yX8_sheet yX8_sheet, Cond.code yX8_sheet cX8_sheet 8 none, Cond.constantLong RX8 135 (10000), Cond.methodLink RX8 131 yX8_drift, Cond.instanceMethod yX8_drift, Cond.selects RX8 yX8_drift yX8_drift, Cond.code yX8_drift cX8_drift 4 none, Cond.methodLink RX8 137 yX8_steerKeys, Cond.instanceMethod yX8_steerKeys, Cond.selects RX8 yX8_steerKeys yX8_steerKeys, Cond.code yX8_steerKeys cX8_steerKeys 3 none, Cond.methodLink RX8 140 yX8_held, Cond.static yX8_held, Cond.code yX8_held cX8_held 3 (some .int), Cond.methodLink RL 40 yX7_steer, Cond.instanceMethod yX7_steer, Cond.selects RX7 yX7_steer yX7_steer, Cond.code yX7_steer cX7_steer 3 (some .int), Cond.methodLink RL 44 yX8_steer, Cond.instanceMethod yX8_steer]
def wsL_law_r16 : List Cond := [Cond.selects RX8 yX8_steer yX8_steer, Cond.code yX8_steer cX8_steer 3 (some .int), Cond.methodLink RL 45 yX7_good, Cond.instanceMethod yX7_good, Cond.selects RX7 yX7_good yX7_good, Cond.code yX7_good cX7_good 2 (some .int), Cond.methodLink RX7 119 yX4_has, Cond.instanceMethod yX4_has, Cond.selects RX4 yX4_has yX4_has, Cond.code yX4_has cX4_has 2 (some .boolean), Cond.methodLink RX7 120 yX4_wasGood, Cond.instanceMethod yX4_wasGood, Cond.selects RX4 yX4_wasGood yX4_wasGood, Cond.code yX4_wasGood cX4_wasGood 2 (some .boolean), Cond.methodLink RL 48 yX8_good, Cond.instanceMethod yX8_good, Cond.selects RX8 yX8_good yX8_good, Cond.code yX8_good cX8_good 2 (some .int), Cond.methodLink RL 49 yX7_density, Cond.instanceMethod yX7_density, Cond.selects RX7 yX7_density yX7_density, Cond.code yX7_density cX7_density 3 (some .int), Cond.methodLink RX7 123 yX4_densityOn, Cond.methodLink RL 52 yX8_density]
def wsL_law_r17 : List Cond := [Cond.instanceMethod yX8_density, Cond.selects RX8 yX8_density yX8_density, Cond.code yX8_density cX8_density 3 (some .int), Cond.methodLink RL 53 yX7_past, Cond.instanceMethod yX7_past, Cond.selects RX7 yX7_past yX7_past, Cond.code yX7_past cX7_past 3 (some .int), Cond.methodLink RX7 126 yX2_isFull, Cond.instanceMethod yX2_isFull, Cond.selects RX2 yX2_isFull yX2_isFull, Cond.code yX2_isFull cX2_isFull 1 (some .boolean), Cond.methodLink RX7 129 yX2_add, Cond.instanceMethod yX2_add, Cond.selects RX2 yX2_add yX2_add, Cond.code yX2_add cX2_add 3 (some .int), Cond.fieldLink RX2 15 "InkPress$PastJobs" "covers" "J", Cond.fieldLink RX2 19 "InkPress$PastJobs" "keys" "J", Cond.fieldLink RX2 22 "InkPress$PastJobs" "coversSquared" "J", Cond.fieldLink RX2 25 "InkPress$PastJobs" "coversByKeys" "J", Cond.methodLink RL 56 yX8_past, Cond.instanceMethod yX8_past, Cond.selects RX8 yX8_past yX8_past, Cond.code yX8_past cX8_past 3 (some .int), Cond.fieldLink RX8 149 "InkPressModel" "pastMany" "I"]
def wsL_law_r18 : List Cond := [Cond.methodLink RL 57 yX7_preset, Cond.instanceMethod yX7_preset, Cond.selects RX7 yX7_preset yX7_preset, Cond.code yX7_preset cX7_preset 2 (some .int), Cond.methodLink RX7 132 yX2_isEmpty, Cond.instanceMethod yX2_isEmpty, Cond.selects RX2 yX2_isEmpty yX2_isEmpty, Cond.code yX2_isEmpty cX2_isEmpty 1 (some .boolean), Cond.methodLink RX7 135 yX2_keyFor, Cond.instanceMethod yX2_keyFor, Cond.selects RX2 yX2_keyFor yX2_keyFor, Cond.code yX2_keyFor cX2_keyFor 8 (some .int), Cond.methodLink RL 60 yX8_preset, Cond.instanceMethod yX8_preset, Cond.selects RX8 yX8_preset yX8_preset, Cond.code yX8_preset cX8_preset 2 (some .int), Cond.methodLink RX8 152 yX8_presetOf, Cond.instanceMethod yX8_presetOf, Cond.selects RX8 yX8_presetOf yX8_presetOf, Cond.code yX8_presetOf cX8_presetOf 14 (some .int), Cond.methodLink RL 61 yX7_presets, Cond.instanceMethod yX7_presets, Cond.selects RX7 yX7_presets yX7_presets, Cond.code yX7_presets cX7_presets 4 (some .int)]
def wsL_law_r19 : List Cond := [Cond.methodLink RL 65 yX8_presets, Cond.instanceMethod yX8_presets, Cond.selects RX8 yX8_presets yX8_presets, Cond.code yX8_presets cX8_presets 4 (some .int), Cond.methodLink RL 66 yX7_told, Cond.instanceMethod yX7_told, Cond.selects RX7 yX7_told yX7_told, Cond.code yX7_told cX7_told 2 (some .int), Cond.methodLink RX7 148 yX5_inkOn, Cond.instanceMethod yX5_inkOn, Cond.selects RX5 yX5_inkOn yX5_inkOn, Cond.code yX5_inkOn cX5_inkOn 3 (some .int), Cond.methodLink RL 69 yX8_told, Cond.instanceMethod yX8_told, Cond.selects RX8 yX8_told yX8_told, Cond.code yX8_told cX8_told 4 (some .int), Cond.methodLink RL 70 yX7_mark, Cond.instanceMethod yX7_mark, Cond.selects RX7 yX7_mark yX7_mark, Cond.code yX7_mark cX7_mark 5 (some .int), Cond.methodLink RX7 159 yX1_isPlace, Cond.static yX1_isPlace, Cond.code yX1_isPlace cX1_isPlace 1 (some .boolean), Cond.methodLink RX7 162 yX1_isOffset]
def wsL_law_r20 : List Cond := [Cond.static yX1_isOffset, Cond.code yX1_isOffset cX1_isOffset 1 (some .boolean), Cond.methodLink RX7 165 yX1_isFull, Cond.instanceMethod yX1_isFull, Cond.selects RX1 yX1_isFull yX1_isFull, Cond.code yX1_isFull cX1_isFull 1 (some .boolean), Cond.fieldLink RX1 28 "InkPress$Marks" "count" "I", Cond.methodLink RX7 166 yX1_add, Cond.instanceMethod yX1_add, Cond.selects RX1 yX1_add yX1_add, Cond.code yX1_add cX1_add 5 (some .int), Cond.fieldLink RX1 32 "InkPress$Marks" "sumX" "J", Cond.fieldLink RX1 36 "InkPress$Marks" "sumY" "J", Cond.fieldLink RX1 39 "InkPress$Marks" "sumDx" "J", Cond.fieldLink RX1 42 "InkPress$Marks" "sumDy" "J", Cond.fieldLink RX1 45 "InkPress$Marks" "sumSquares" "J", Cond.fieldLink RX1 48 "InkPress$Marks" "sumOutward" "J", Cond.fieldLink RX1 51 "InkPress$Marks" "sumAround" "J", Cond.methodLink RL 74 yX8_mark, Cond.instanceMethod yX8_mark, Cond.selects RX8 yX8_mark yX8_mark, Cond.code yX8_mark cX8_mark 5 (some .int), Cond.fieldLink RX8 159 "InkPressModel" "marks" "I", Cond.methodLink RX8 155 yX8_isPlace]
def wsL_law_r21 : List Cond := [Cond.static yX8_isPlace, Cond.code yX8_isPlace cX8_isPlace 3 (some .boolean), Cond.methodLink RL 75 yX7_clear, Cond.instanceMethod yX7_clear, Cond.selects RX7 yX7_clear yX7_clear, Cond.code yX7_clear cX7_clear 1 (some .int), Cond.methodLink RX7 169 yX1_removeAll, Cond.instanceMethod yX1_removeAll, Cond.selects RX1 yX1_removeAll yX1_removeAll, Cond.code yX1_removeAll cX1_removeAll 2 (some .int), Cond.methodLink RL 78 yX8_clear, Cond.instanceMethod yX8_clear, Cond.selects RX8 yX8_clear yX8_clear, Cond.code yX8_clear cX8_clear 2 (some .int), Cond.methodLink RL 79 yX7_fit, Cond.instanceMethod yX7_fit, Cond.selects RX7 yX7_fit yX7_fit, Cond.code yX7_fit cX7_fit 11 (some .long), Cond.constantLong RX7 172 (-1000002), Cond.constantLong RX7 177 (-1000005), Cond.methodLink RX7 174 yX1_isTold, Cond.instanceMethod yX1_isTold, Cond.selects RX1 yX1_isTold yX1_isTold, Cond.code yX1_isTold cX1_isTold 1 (some .boolean)]
def wsL_law_r22 : List Cond := [Cond.methodLink RX1 54 yX1_spread, Cond.instanceMethod yX1_spread, Cond.selects RX1 yX1_spread yX1_spread, Cond.code yX1_spread cX1_spread 1 (some .long), Cond.methodLink RX7 179 yX1_upper, Cond.instanceMethod yX1_upper, Cond.selects RX1 yX1_upper yX1_upper, Cond.code yX1_upper cX1_upper 2 (some .long), Cond.methodLink RX1 58 yX1_stretch, Cond.instanceMethod yX1_stretch, Cond.selects RX1 yX1_stretch yX1_stretch, Cond.code yX1_stretch cX1_stretch 1 (some .long), Cond.methodLink RX1 61 yX1_turn, Cond.instanceMethod yX1_turn, Cond.selects RX1 yX1_turn yX1_turn, Cond.code yX1_turn cX1_turn 1 (some .long), Cond.methodLink RX1 64 yX1_across, Cond.instanceMethod yX1_across, Cond.selects RX1 yX1_across yX1_across, Cond.code yX1_across cX1_across 1 (some .long), Cond.methodLink RX1 67 yX1_up, Cond.instanceMethod yX1_up, Cond.selects RX1 yX1_up yX1_up, Cond.code yX1_up cX1_up 1 (some .long)]
def wsL_law_r23 : List Cond := [Cond.methodLink RX7 183 yX1_lower, Cond.instanceMethod yX1_lower, Cond.selects RX1 yX1_lower yX1_lower, Cond.code yX1_lower cX1_lower 2 (some .long), Cond.methodLink RX7 186 yX7_commonDivisor, Cond.static yX7_commonDivisor, Cond.code yX7_commonDivisor cX7_commonDivisor 11 (some .long), Cond.methodLink RX7 259 Lib.MathLoose.abs_long.x, Cond.static Lib.MathLoose.abs_long.x, Cond.code Lib.MathLoose.abs_long.x Lib.MathLoose.abs_long.code 2 (some .long), Cond.methodLink RL 83 yX8_fit, Cond.instanceMethod yX8_fit, Cond.selects RX8 yX8_fit yX8_fit, Cond.code yX8_fit cX8_fit 3 (some .long), Cond.constantLong RX8 178 (3), Cond.constantLong RX8 180 (-1000002), Cond.constantLong RX8 186 (-1000005), Cond.fieldLink RX8 166 "InkPressModel" "stretch" "J", Cond.fieldLink RX8 162 "InkPressModel" "all" "J", Cond.fieldLink RX8 169 "InkPressModel" "turn" "J", Cond.fieldLink RX8 172 "InkPressModel" "across" "J", Cond.fieldLink RX8 175 "InkPressModel" "above" "J", Cond.methodLink RX8 182 yX8_findFit, Cond.instanceMethod yX8_findFit]
def wsL_law_r24 : List Cond := [Cond.selects RX8 yX8_findFit yX8_findFit, Cond.code yX8_findFit cX8_findFit 16 (some .boolean), Cond.methodLink RX8 188 yX8_lowest, Cond.static yX8_lowest, Cond.code yX8_lowest cX8_lowest 11 (some .long), Cond.methodLink RL 84 yX7_off, Cond.instanceMethod yX7_off, Cond.selects RX7 yX7_off yX7_off, Cond.code yX7_off cX7_off 3 (some .int), Cond.constant RX7 191 (-1000005), Cond.methodLink RX7 190 yX1_has, Cond.instanceMethod yX1_has, Cond.selects RX1 yX1_has yX1_has, Cond.code yX1_has cX1_has 2 (some .boolean), Cond.methodLink RX7 192 yX1_offAcross, Cond.instanceMethod yX1_offAcross, Cond.selects RX1 yX1_offAcross yX1_offAcross, Cond.code yX1_offAcross cX1_offAcross 4 (some .int), Cond.methodLink RX1 70 yX1_inThousandths, Cond.instanceMethod yX1_inThousandths, Cond.selects RX1 yX1_inThousandths yX1_inThousandths, Cond.code yX1_inThousandths cX1_inThousandths 6 (some .int), Cond.constantLong RX1 74 (1000), Cond.methodLink RX7 195 yX1_offUp]
def wsL_law_r25 : List Cond := [Cond.instanceMethod yX1_offUp, Cond.selects RX1 yX1_offUp yX1_offUp, Cond.code yX1_offUp cX1_offUp 4 (some .int), Cond.methodLink RL 87 yX8_off, Cond.instanceMethod yX8_off, Cond.selects RX8 yX8_off yX8_off, Cond.code yX8_off cX8_off 7 (some .int), Cond.constant RX8 192 (-1000005), Cond.methodLink RL 88 yX7_job, Cond.instanceMethod yX7_job, Cond.selects RX7 yX7_job yX7_job, Cond.code yX7_job cX7_job 3 (some .int), Cond.methodLink RX7 198 yX0_isColour, Cond.static yX0_isColour, Cond.code yX0_isColour cX0_isColour 1 (some .boolean), Cond.methodLink RX7 201 yX0_isPaper, Cond.static yX0_isPaper, Cond.code yX0_isPaper cX0_isPaper 1 (some .boolean), Cond.methodLink RX7 204 yX0_isFull, Cond.instanceMethod yX0_isFull, Cond.selects RX0 yX0_isFull yX0_isFull, Cond.code yX0_isFull cX0_isFull 1 (some .boolean), Cond.fieldLink RX0 31 "InkPress$Jobs" "count" "I", Cond.methodLink RX7 205 yX0_add]
def wsL_law_r26 : List Cond := [Cond.instanceMethod yX0_add, Cond.selects RX0 yX0_add yX0_add, Cond.code yX0_add cX0_add 3 (some .int), Cond.fieldLink RX0 35 "InkPress$Jobs" "isPlanned" "Z", Cond.methodLink RL 91 yX8_job, Cond.instanceMethod yX8_job, Cond.selects RX8 yX8_job yX8_job, Cond.code yX8_job cX8_job 3 (some .int), Cond.fieldLink RX8 193 "InkPressModel" "jobs" "I", Cond.methodLink RL 92 yX7_forget, Cond.instanceMethod yX7_forget, Cond.selects RX7 yX7_forget yX7_forget, Cond.code yX7_forget cX7_forget 1 (some .int), Cond.methodLink RX7 206 yX0_removeAll, Cond.instanceMethod yX0_removeAll, Cond.selects RX0 yX0_removeAll yX0_removeAll, Cond.code yX0_removeAll cX0_removeAll 2 (some .int), Cond.methodLink RL 95 yX8_forget, Cond.instanceMethod yX8_forget, Cond.selects RX8 yX8_forget yX8_forget, Cond.code yX8_forget cX8_forget 2 (some .int), Cond.methodLink RL 96 yX7_wash, Cond.instanceMethod yX7_wash, Cond.selects RX7 yX7_wash yX7_wash]
def wsL_law_r27 : List Cond := [Cond.code yX7_wash cX7_wash 4 (some .int), Cond.methodLink RX7 207 yX0_isWashCost, Cond.static yX0_isWashCost, Cond.code yX0_isWashCost cX0_isWashCost 1 (some .boolean), Cond.methodLink RX7 210 yX0_changeWash, Cond.instanceMethod yX0_changeWash, Cond.selects RX0 yX0_changeWash yX0_changeWash, Cond.code yX0_changeWash cX0_changeWash 6 (some .int), Cond.methodLink RL 99 yX8_wash, Cond.instanceMethod yX8_wash, Cond.selects RX8 yX8_wash yX8_wash, Cond.code yX8_wash cX8_wash 5 (some .int), Cond.methodLink RL 100 yX7_order, Cond.instanceMethod yX7_order, Cond.selects RX7 yX7_order yX7_order, Cond.code yX7_order cX7_order 1 (some .int), Cond.methodLink RX7 213 yX0_leastCosts, Cond.instanceMethod yX0_leastCosts, Cond.selects RX0 yX0_leastCosts yX0_leastCosts, Cond.code yX0_leastCosts cX0_leastCosts 1 (some .int), Cond.methodLink RX0 39 yX0_plan, Cond.instanceMethod yX0_plan, Cond.selects RX0 yX0_plan yX0_plan, Cond.code yX0_plan cX0_plan 3 none]
def wsL_law_r28 : List Cond := [Cond.methodLink RX0 42 yX0_holds, Cond.static yX0_holds, Cond.code yX0_holds cX0_holds 2 (some .boolean), Cond.methodLink RX0 46 yX0_weigh, Cond.instanceMethod yX0_weigh, Cond.selects RX0 yX0_weigh yX0_weigh, Cond.code yX0_weigh cX0_weigh 4 none, Cond.methodLink RX0 53 yX0_bestNext, Cond.instanceMethod yX0_bestNext, Cond.selects RX0 yX0_bestNext yX0_bestNext, Cond.code yX0_bestNext cX0_bestNext 7 (some .int), Cond.methodLink RX0 57 yX0_costsBy, Cond.instanceMethod yX0_costsBy, Cond.selects RX0 yX0_costsBy yX0_costsBy, Cond.code yX0_costsBy cX0_costsBy 6 (some .int), Cond.methodLink RX0 50 yX0_walk, Cond.instanceMethod yX0_walk, Cond.selects RX0 yX0_walk yX0_walk, Cond.code yX0_walk cX0_walk 5 none, Cond.methodLink RL 103 yX8_order, Cond.instanceMethod yX8_order, Cond.selects RX8 yX8_order yX8_order, Cond.code yX8_order cX8_order 6 (some .int), Cond.methodLink RX8 196 yX8_layRow]
def wsL_law_r29 : List Cond := [Cond.instanceMethod yX8_layRow, Cond.selects RX8 yX8_layRow yX8_layRow, Cond.code yX8_layRow cX8_layRow 9 none, Cond.methodLink RX8 200 yX8_costOf, Cond.instanceMethod yX8_costOf, Cond.selects RX8 yX8_costOf yX8_costOf, Cond.code yX8_costOf cX8_costOf 5 (some .int), Cond.methodLink RL 104 yX7_orderAt, Cond.instanceMethod yX7_orderAt, Cond.selects RX7 yX7_orderAt yX7_orderAt, Cond.code yX7_orderAt cX7_orderAt 2 (some .int), Cond.methodLink RX7 216 yX0_has, Cond.instanceMethod yX0_has, Cond.selects RX0 yX0_has yX0_has, Cond.code yX0_has cX0_has 2 (some .boolean), Cond.methodLink RX7 217 yX0_inOrder, Cond.instanceMethod yX0_inOrder, Cond.selects RX0 yX0_inOrder yX0_inOrder, Cond.code yX0_inOrder cX0_inOrder 2 (some .int), Cond.methodLink RL 107 yX8_orderAt, Cond.instanceMethod yX8_orderAt, Cond.selects RX8 yX8_orderAt yX8_orderAt, Cond.code yX8_orderAt cX8_orderAt 3 (some .int), Cond.methodLink RX8 204 yX8_order]
def wsL_law : List Cond := (wsL_law_r1 ++ (wsL_law_r2 ++ (wsL_law_r3 ++ (wsL_law_r4 ++ (wsL_law_r5 ++ (wsL_law_r6 ++ (wsL_law_r7 ++ (wsL_law_r8 ++ (wsL_law_r9 ++ (wsL_law_r10 ++ (wsL_law_r11 ++ (wsL_law_r12 ++ (wsL_law_r13 ++ (wsL_law_r14 ++ (wsL_law_r15 ++ (wsL_law_r16 ++ (wsL_law_r17 ++ (wsL_law_r18 ++ (wsL_law_r19 ++ (wsL_law_r20 ++ (wsL_law_r21 ++ (wsL_law_r22 ++ (wsL_law_r23 ++ (wsL_law_r24 ++ (wsL_law_r25 ++ (wsL_law_r26 ++ (wsL_law_r27 ++ (wsL_law_r28 ++ wsL_law_r29)))))))))))))))))))))))))))) ++ wsX70 ++ wsX80 ++ wsX30 ++ wsX60 ++ wsX50 ++ wsX40 ++ wsX20 ++ wsX10 ++ wsX00 ++ ([] : List Cond)
abbrev vwCl : List vw_C := [(RX0, TX0, 7), (RX1, TX1, 12), (RX2, TX2, 5), (RX3, TX3, 1), (RX4, TX4, 6), (RX5, TX5, 6), (RX6, TX6, 2), (RX7, TX7, 8), (RX8, TX8, 37)]
end
section
/-! my own rows over the kit: worlds by fixed places, contracts of one form -/
/-- the words of nest mates that are carried as facts of the tables -/
def gNestW : List Cond := [.fieldLinkNest "InkPress" 105 "InkPress$SheetLog" "count" "I" "InkPress", .fieldLinkNest "InkPress" 138 "InkPress$Zones" "count" "I" "InkPress", .fieldLinkNest "InkPress" 139 "InkPress$SheetLog" "goodCount" "I" "InkPress", .fieldLinkNest "InkPress" 142 "InkPress$SheetLog" "start" "I" "InkPress", .fieldLinkNest "InkPress" 145 "InkPress$Train" "fed" "I" "InkPress", .fieldLinkNest "InkPress" 152 "InkPress$Train" "onPaper" "I" "InkPress", .fieldLinkNest "InkPress" 155 "InkPress$Train" "onBars" "I" "InkPress", .fieldLinkNest "InkPress" 158 "InkPress$PastJobs" "count" "I" "InkPress", .methodLinkNest "InkPress$Jobs" 27 ⟨"InkPress", "within", "(III)Z"⟩ "InkPress", .methodLinkNest "InkPress$Marks" 24 ⟨"InkPress", "within", "(III)Z"⟩ "InkPress", .methodLinkNest "InkPress$PastJobs" 28 ⟨"InkPress", "held", "(JII)I"⟩ "InkPress", .methodLinkNest "InkPress$Rules" 27 ⟨"InkPress", "within", "(III)Z"⟩ "InkPress", .methodLinkNest "InkPress$Zones" 29 ⟨"InkPress", "within", "(III)Z"⟩ "InkPress", .castable "[I" "java/lang/Cloneable"]
def gN (U : State) : Prop := ∀ w ∈ gNestW, va_Nw w U
theorem gNest_tabs : ∀ w ∈ gNestW, w.onTables = true := by decide +kernel
theorem gN.same {u U : State} (h : u.vm = U.vm) (hN : gN u) : gN U := fun w hw => va_Nw.same (gNest_tabs w hw) h (hN w hw)
theorem gN.warm {s U : State} (hW : s.WarmedH U.vm) (hN : gN s) : gN U := by
  intro w hw
  have h1 := hN w hw
  simp only [gNestW, List.mem_cons, List.not_mem_nil, or_false] at hw
  rcases hw with rfl | rfl | rfl | rfl | rfl | rfl | rfl | rfl | rfl | rfl | rfl | rfl | rfl | rfl
  all_goals first | exact va_Nw.warmF hW h1 | exact va_Nw.warmM hW h1 | exact va_Nw.warmC hW h1
/-- the static tables: which they are, and what they hold -/
def gTab (k : Nat) : List Int32 := match k with
  | 0 => [1, 1, 0, 1, 1, 1, 0, 1, 1]
  | 1 => [20, 90, 40, 90, 200, 100, 500, 50, 20]
  | 2 => [10, 50, 10, 40, 50, 10, 10, 5, 2]
  | 3 => [100, 100, 1000]
  | _ => [0, 20, 100]
def gTabC (k : Nat) : String := if k < 3 then "InkPress$Rules" else "InkPress$Zones"
def gTabN (k : Nat) : String := match k with
  | 0 => "LEAST"
  | 1 => "MOST"
  | 2 => "FIRST"
  | 3 => "MOST"
  | _ => "FIRST"
def gZ (A : Nat → Prop) (g : Nat → Nat) (U : State) (H : Heap) : Prop := ∀ k, k < 5 → va_Z (gTabC k) (gTabN k) "[I" (.ref (g k)) A U H ∧ va_T .int (g k) (gTab k).length (fun j => .int ((gTab k).getD j 0)) A U H
theorem gZ.moved {A : Nat → Prop} {g : Nat → Nat} {u U : State} {H : Heap} (hvm : u.vm.Alike U.vm) (h : gZ A g u H) : gZ A g U H := fun k hk => ⟨(h k hk).1.moved hvm, (h k hk).2.moved hvm⟩
theorem gZ.kept {A : Nat → Prop} {g : Nat → Nat} {U : State} {H H1 : Heap} (h : gZ A g U H) (hq : ∀ a : Nat, a < H.size → ¬ A a → H1[a]? = H[a]?) : gZ A g U H1 := fun k hk => ⟨(h k hk).1.kept hq, (h k hk).2.kept hq⟩
abbrev gT (cI cZ : ClassId) : List (ClassId × FieldType) := [(cI, .int), (cZ, .boolean)]
/-- a method's start: the world, the classes, the nest, the tables -/
def gPre (D : va_G) (cI cZ : ClassId) (A : Nat → Prop) (g : Nat → Nat) (G : va_W) (U : State) : Prop := va_P D vwCl G U.heap ∧ va_K D vwCl (gT cI cZ) U ∧ gN U ∧ gZ A g U U.heap
def gB (b : Bool) : Int32 := if b then 1 else 0
abbrev gMi (l : Launch) (D : va_G) (cI cZ : ClassId) (A : Nat → Prop) (g : Nat → Nat) (y : MethodName) (ws : List Cond) (rm : Room) (av : List Value) (G : va_W) (Rv : Int32) (B : va_W → Prop) : Prop :=
  Met l y ws rm (va_Pc av (gPre D cI cZ A g G)) (va_Qi (fun r (G1 : va_W) => r = Rv ∧ B G1) (fun G1 t => va_P D vwCl G1 t.heap ∧ va_D A G1) A) 0 0 A
abbrev gMl (l : Launch) (D : va_G) (cI cZ : ClassId) (A : Nat → Prop) (g : Nat → Nat) (y : MethodName) (ws : List Cond) (rm : Room) (av : List Value) (G : va_W) (Rv : Int64) (B : va_W → Prop) : Prop :=
  Met l y ws rm (va_Pc av (gPre D cI cZ A g G)) (va_Ql (fun r (G1 : va_W) => r = Rv ∧ B G1) (fun G1 t => va_P D vwCl G1 t.heap ∧ va_D A G1) A) 0 0 A
abbrev gMv (l : Launch) (D : va_G) (cI cZ : ClassId) (A : Nat → Prop) (g : Nat → Nat) (y : MethodName) (ws : List Cond) (rm : Room) (av : List Value) (G : va_W) (B : va_W → Prop) : Prop :=
  Met l y ws rm (va_Pc av (gPre D cI cZ A g G)) (va_Qv (fun (G1 : va_W) => B G1) (fun G1 t => va_P D vwCl G1 t.heap ∧ va_D A G1) A) 0 0 A
/-- where the walk stands: the world in the heap, apart, nothing else changed -/
theorem gk_step {ks : List Nat} {G0 G1 G2 : va_W} {i : Nat} (hk : ∀ k, k ∉ ks → G1[k]? = G0[k]?) (ho : ∀ k, k ≠ i → G2[k]? = G1[k]?) (h : i ∈ ks) : ∀ k, k ∉ ks → G2[k]? = G0[k]? := fun k q => (ho k (fun z => q (z ▸ h))).trans (hk k q)
theorem gk_call {ks ks' : List Nat} {G0 G1 G2 : va_W} (hk : ∀ k, k ∉ ks → G1[k]? = G0[k]?) (ho : ∀ k, k ∉ ks' → G2[k]? = G1[k]?) (h : ∀ k ∈ ks', k ∈ ks) : ∀ k, k ∉ ks → G2[k]? = G0[k]? := fun k q => (ho k (fun z => q (h k z))).trans (hk k q)
theorem gset_self {G : va_W} {i : Nat} {x y : Nat × va_E} (h : G[i]? = some x) : (G.set i y)[i]? = some y := by
  have hl : i < G.length := (List.getElem?_eq_some_iff.mp h).1
  simp [hl]
theorem gset_ne {G : va_W} {i : Nat} {y : Nat × va_E} : ∀ k, k ≠ i → (G.set i y)[k]? = G[k]? := fun k hk => by
  rw [List.getElem?_set_ne (fun h => hk h.symm)]
section MX
variable {p : Program} {l : Launch} {e : Env} {R : Room} {s : State} {m : MethodId} {args : Array Value} {below : List Frame} {meth : Method} {c : Code} {H : Heap} {locs : List Loc} {cells slots : Nat} {Q : State → Prop}
variable {cc : ByteArray} {pc : Nat} {ls : Array Slot} {rest : List Value} {D : va_G} {A : Nat → Prop} {a : Nat} {G : va_W} {H0 : Heap} {cI cZ : ClassId} {g : Nat → Nat}
theorem mx_put {cl : List vw_C} {tys : List (ClassId × FieldType)} (hexec : p.tables.exec = Jvm.exec) (hb : c.code = cc) {own ref C : String} {T : u_T} {N ci index : Nat} {Ts : List Cond} (hts : ∀ w ∈ Ts, w.before args s = true) (hin : ∀ w ∈ u_ws C T N, w ∈ Ts) (ty0 : Nat → FieldType) (hty : ∀ k, k < N → parseFieldDescriptor (T k).2.2.1 = some (ty0 k)) (hnm : ∀ a, a < N → ∀ b, b < N → a ≠ b → (T a).2.1 ≠ (T b).2.1) (hown : s.vm.findClass own = some m.cls) (hK : va_K D cl tys s) (hP : va_P D cl G H) (hD : va_D A G) (hS0 : va_S A H0 H locs) (q0 : Nat) {fs : List Value} (he : G[q0]? = some (a, .inr (ci, fs))) (hc : cl[ci]? = some (C, T, N)) (k : Nat) (hk : k < N) (hlink : (Cond.fieldLink own index ref (T k).2.1 (T k).2.2.1).before args s = true) (hsame : ∀ x, s.fieldFound? (T k).1 (T k).2.1 (T k).2.2.1 = some x → s.fieldFound? ref (T k).2.1 (T k).2.2.1 = some x) (hfin : (T k).2.2.2 = false) {ty : FieldType} {v : Value} (hd : parseFieldDescriptor (T k).2.2.1 = some ty) (hn : narrow ty v = v) (hfit : fits ty v = true) (hl : k < fs.length)
    (hdg : decode cc pc = .ok (.putfield index, 3)) (kk : ∀ (H1 : Heap) (locs1 : List Loc) (G1 : va_W), va_P D cl G1 H1 → va_D A G1 → va_S A H0 H1 locs1 → G1[q0]? = some (a, .inr (ci, fs.set k v)) → (∀ j, j ≠ q0 → G1[j]? = G[j]?) → W p l e R s m args below meth c H1 locs1 cells slots Q (F0 m (pc + 3) ls rest)) : W p l e R s m args below meth c H locs cells slots Q (F0 m pc ls (v :: .ref a :: rest)) :=
  va_put hexec hb hts hin ty0 hty hnm hown hK hP hD hS0 q0 he hc k hk hlink hsame hfin hd hn hfit hl hdg (fun H1 locs1 h1 h2 h3 => kk H1 locs1 _ h1 h2 h3 (gset_self he) gset_ne)
theorem mx_iald (hexec : p.tables.exec = Jvm.exec) (hb : c.code = cc) (hK : va_K D vwCl (gT cI cZ) s) (hP : va_P D vwCl G H) (q0 : Nat) {n : Nat} {f : Nat → Int32} (ha : G[q0]? = some (a, .inl (cI, n, .inl f))) (k : Nat) (hk : k < n) (hn : n < 2 ^ 31) (hdg : decode cc pc = .ok (.iaload, 1))
    (kk : W p l e R s m args below meth c H locs cells slots Q (F0 m (pc + 1) ls (.int (f k) :: rest))) : W p l e R s m args below meth c H locs cells slots Q (F0 m pc ls (.int (nI k) :: .ref a :: rest)) := by
  refine va_iald hexec hb hK hP q0 0 ha rfl (vp_in_nI hk hn) hdg ?_
  rw [nI_clamp (Nat.lt_trans hk hn)]
  exact kk
theorem mx_zald (hexec : p.tables.exec = Jvm.exec) (hb : c.code = cc) (hK : va_K D vwCl (gT cI cZ) s) (hP : va_P D vwCl G H) (q0 : Nat) {n : Nat} {f : Nat → Int32} (ha : G[q0]? = some (a, .inl (cZ, n, .inl f))) (k : Nat) (hk : k < n) (hn : n < 2 ^ 31) (hdg : decode cc pc = .ok (.baload, 1))
    (kk : W p l e R s m args below meth c H locs cells slots Q (F0 m (pc + 1) ls (.int (f k) :: rest))) : W p l e R s m args below meth c H locs cells slots Q (F0 m pc ls (.int (nI k) :: .ref a :: rest)) := by
  refine va_zald hexec hb hK hP q0 1 ha rfl (vp_in_nI hk hn) hdg ?_
  rw [nI_clamp (Nat.lt_trans hk hn)]
  exact kk
theorem mx_iast (hexec : p.tables.exec = Jvm.exec) (hb : c.code = cc) (hK : va_K D vwCl (gT cI cZ) s) (hP : va_P D vwCl G H) (hD : va_D A G) (hS : va_S A H0 H locs) (q0 : Nat) {n : Nat} {f : Nat → Int32} (ha : G[q0]? = some (a, .inl (cI, n, .inl f))) (k : Nat) (hk : k < n) (hn : n < 2 ^ 31) {x : Int32} (hdg : decode cc pc = .ok (.iastore, 1))
    (kk : ∀ (H1 : Heap) (locs1 : List Loc) (G1 : va_W), va_P D vwCl G1 H1 → va_D A G1 → va_S A H0 H1 locs1 → G1[q0]? = some (a, .inl (cI, n, .inl (upd f k x))) → (∀ j, j ≠ q0 → G1[j]? = G[j]?) → W p l e R s m args below meth c H1 locs1 cells slots Q (F0 m (pc + 1) ls rest)) : W p l e R s m args below meth c H locs cells slots Q (F0 m pc ls (.int x :: .int (nI k) :: .ref a :: rest)) := by
  refine va_iast hexec hb hK hP hD hS q0 0 ha rfl (vp_in_nI hk hn) hdg ?_
  rw [nI_clamp (Nat.lt_trans hk hn)]
  exact fun H1 locs1 h1 h2 h3 => kk H1 locs1 _ h1 h2 h3 (gset_self ha) gset_ne
theorem mx_zast (hexec : p.tables.exec = Jvm.exec) (hb : c.code = cc) (hK : va_K D vwCl (gT cI cZ) s) (hP : va_P D vwCl G H) (hD : va_D A G) (hS : va_S A H0 H locs) (q0 : Nat) {n : Nat} {f : Nat → Int32} (ha : G[q0]? = some (a, .inl (cZ, n, .inl f))) (k : Nat) (hk : k < n) (hn : n < 2 ^ 31) {x : Int32} (hx : vp_nar .boolean x = x) (hdg : decode cc pc = .ok (.bastore, 1))
    (kk : ∀ (H1 : Heap) (locs1 : List Loc) (G1 : va_W), va_P D vwCl G1 H1 → va_D A G1 → va_S A H0 H1 locs1 → G1[q0]? = some (a, .inl (cZ, n, .inl (upd f k x))) → (∀ j, j ≠ q0 → G1[j]? = G[j]?) → W p l e R s m args below meth c H1 locs1 cells slots Q (F0 m (pc + 1) ls rest)) : W p l e R s m args below meth c H locs cells slots Q (F0 m pc ls (.int x :: .int (nI k) :: .ref a :: rest)) := by
  refine va_zast hexec hb hK hP hD hS q0 1 ha rfl (vp_in_nI hk hn) hdg ?_
  rw [nI_clamp (Nat.lt_trans hk hn), hx]
  exact fun H1 locs1 h1 h2 h3 => kk H1 locs1 _ h1 h2 h3 (gset_self ha) gset_ne
theorem mx_iadd (hexec : p.tables.exec = Jvm.exec) (hb : c.code = cc) {x y : Nat} (hdg : decode cc pc = .ok (.iadd, 1)) (k : W p l e R s m args below meth c H locs cells slots Q (F0 m (pc + 1) ls (.int (nI (x + y)) :: rest))) : W p l e R s m args below meth c H locs cells slots Q (F0 m pc ls (.int (nI y) :: .int (nI x) :: rest)) := lv_iadd hexec hb hdg (by rw [nI_add]; exact k)
theorem mx_imul (hexec : p.tables.exec = Jvm.exec) (hb : c.code = cc) {x y : Nat} (hdg : decode cc pc = .ok (.imul, 1)) (k : W p l e R s m args below meth c H locs cells slots Q (F0 m (pc + 1) ls (.int (nI (x * y)) :: rest))) : W p l e R s m args below meth c H locs cells slots Q (F0 m pc ls (.int (nI y) :: .int (nI x) :: rest)) := lv_imul hexec hb hdg (by rw [pk_mul]; exact k)
theorem mx_isub (hexec : p.tables.exec = Jvm.exec) (hb : c.code = cc) {x y : Nat} (h : y ≤ x) (hdg : decode cc pc = .ok (.isub, 1)) (k : W p l e R s m args below meth c H locs cells slots Q (F0 m (pc + 1) ls (.int (nI (x - y)) :: rest))) : W p l e R s m args below meth c H locs cells slots Q (F0 m pc ls (.int (nI y) :: .int (nI x) :: rest)) := lv_isub hexec hb hdg (by rw [pk_sub h]; exact k)
theorem mx_idiv (hexec : p.tables.exec = Jvm.exec) (hb : c.code = cc) {x y : Nat} (hx : x < 2 ^ 31) (h0 : 0 < y) (hy : y < 2 ^ 31) (hdg : decode cc pc = .ok (.idiv, 1)) (k : W p l e R s m args below meth c H locs cells slots Q (F0 m (pc + 1) ls (.int (nI (x / y)) :: rest))) : W p l e R s m args below meth c H locs cells slots Q (F0 m pc ls (.int (nI y) :: .int (nI x) :: rest)) := lv_idiv hexec hb hdg (nI_ne0 h0 hy) (by rw [pk_div hx h0 hy]; exact k)
theorem mx_irem (hexec : p.tables.exec = Jvm.exec) (hb : c.code = cc) {x y : Nat} (hx : x < 2 ^ 31) (h0 : 0 < y) (hy : y < 2 ^ 31) (hdg : decode cc pc = .ok (.irem, 1)) (k : W p l e R s m args below meth c H locs cells slots Q (F0 m (pc + 1) ls (.int (nI (x % y)) :: rest))) : W p l e R s m args below meth c H locs cells slots Q (F0 m pc ls (.int (nI y) :: .int (nI x) :: rest)) := lv_irem hexec hb hdg (nI_ne0 h0 hy) (by rw [pk_rem hx h0 hy]; exact k)
theorem mx_cge (hexec : p.tables.exec = Jvm.exec) (hb : c.code = cc) {x y : Nat} {off : Int} {tgt : Nat} (hx : x < 2 ^ 31) (hy : y < 2 ^ 31) (hdg : decode cc pc = .ok (.if_icmp .ge off, 3)) (ht : (pc : Int) + off = (tgt : Int)) (kt : y ≤ x → W p l e R s m args below meth c H locs cells slots Q (F0 m tgt ls rest)) (kf : x < y → W p l e R s m args below meth c H locs cells slots Q (F0 m (pc + 3) ls rest)) : W p l e R s m args below meth c H locs cells slots Q (F0 m pc ls (.int (nI y) :: .int (nI x) :: rest)) := lv_icmp_ge hexec hb hdg ht (fun h => kt ((nI_leI hy hx).mp h)) (fun h => kf (Nat.not_le.mp fun q => h ((nI_leI hy hx).mpr q)))
theorem mx_clt (hexec : p.tables.exec = Jvm.exec) (hb : c.code = cc) {x y : Nat} {off : Int} {tgt : Nat} (hx : x < 2 ^ 31) (hy : y < 2 ^ 31) (hdg : decode cc pc = .ok (.if_icmp .lt off, 3)) (ht : (pc : Int) + off = (tgt : Int)) (kt : x < y → W p l e R s m args below meth c H locs cells slots Q (F0 m tgt ls rest)) (kf : y ≤ x → W p l e R s m args below meth c H locs cells slots Q (F0 m (pc + 3) ls rest)) : W p l e R s m args below meth c H locs cells slots Q (F0 m pc ls (.int (nI y) :: .int (nI x) :: rest)) := lv_icmp_lt hexec hb hdg ht (fun h => kt ((nI_ltI hx hy).mp h)) (fun h => kf (Nat.not_lt.mp fun q => h ((nI_ltI hx hy).mpr q)))
theorem mx_cgt (hexec : p.tables.exec = Jvm.exec) (hb : c.code = cc) {x y : Nat} {off : Int} {tgt : Nat} (hx : x < 2 ^ 31) (hy : y < 2 ^ 31) (hdg : decode cc pc = .ok (.if_icmp .gt off, 3)) (ht : (pc : Int) + off = (tgt : Int)) (kt : y < x → W p l e R s m args below meth c H locs cells slots Q (F0 m tgt ls rest)) (kf : x ≤ y → W p l e R s m args below meth c H locs cells slots Q (F0 m (pc + 3) ls rest)) : W p l e R s m args below meth c H locs cells slots Q (F0 m pc ls (.int (nI y) :: .int (nI x) :: rest)) := lv_icmp_gt hexec hb hdg ht (fun h => kt ((nI_ltI hy hx).mp h)) (fun h => kf (Nat.not_lt.mp fun q => h ((nI_ltI hy hx).mpr q)))
theorem mx_cle (hexec : p.tables.exec = Jvm.exec) (hb : c.code = cc) {x y : Nat} {off : Int} {tgt : Nat} (hx : x < 2 ^ 31) (hy : y < 2 ^ 31) (hdg : decode cc pc = .ok (.if_icmp .le off, 3)) (ht : (pc : Int) + off = (tgt : Int)) (kt : x ≤ y → W p l e R s m args below meth c H locs cells slots Q (F0 m tgt ls rest)) (kf : y < x → W p l e R s m args below meth c H locs cells slots Q (F0 m (pc + 3) ls rest)) : W p l e R s m args below meth c H locs cells slots Q (F0 m pc ls (.int (nI y) :: .int (nI x) :: rest)) := lv_icmp_le hexec hb hdg ht (fun h => kt ((nI_leI hx hy).mp h)) (fun h => kf (Nat.not_le.mp fun q => h ((nI_leI hx hy).mpr q)))
theorem mx_ceq (hexec : p.tables.exec = Jvm.exec) (hb : c.code = cc) {x y : Nat} {off : Int} {tgt : Nat} (hx : x < 2 ^ 31) (hy : y < 2 ^ 31) (hdg : decode cc pc = .ok (.if_icmp .eq off, 3)) (ht : (pc : Int) + off = (tgt : Int)) (kt : x = y → W p l e R s m args below meth c H locs cells slots Q (F0 m tgt ls rest)) (kf : x ≠ y → W p l e R s m args below meth c H locs cells slots Q (F0 m (pc + 3) ls rest)) : W p l e R s m args below meth c H locs cells slots Q (F0 m pc ls (.int (nI y) :: .int (nI x) :: rest)) := lv_icmp_eq hexec hb hdg ht (fun h => kt ((nI_eq hx hy).mp h)) (fun h => kf (fun q => h ((nI_eq hx hy).mpr q)))
theorem mx_cne (hexec : p.tables.exec = Jvm.exec) (hb : c.code = cc) {x y : Nat} {off : Int} {tgt : Nat} (hx : x < 2 ^ 31) (hy : y < 2 ^ 31) (hdg : decode cc pc = .ok (.if_icmp .ne off, 3)) (ht : (pc : Int) + off = (tgt : Int)) (kt : x ≠ y → W p l e R s m args below meth c H locs cells slots Q (F0 m tgt ls rest)) (kf : x = y → W p l e R s m args below meth c H locs cells slots Q (F0 m (pc + 3) ls rest)) : W p l e R s m args below meth c H locs cells slots Q (F0 m pc ls (.int (nI y) :: .int (nI x) :: rest)) := lv_icmp_ne hexec hb hdg ht (fun h => kt (fun q => h ((nI_eq hx hy).mpr q))) (fun h => kf ((nI_eq hx hy).mp h))
theorem mx_beq (hexec : p.tables.exec = Jvm.exec) (hb : c.code = cc) {x : Bool} {off : Int} {tgt : Nat} (hdg : decode cc pc = .ok (.ifCond .eq off, 3)) (ht : (pc : Int) + off = (tgt : Int)) (kt : x = false → W p l e R s m args below meth c H locs cells slots Q (F0 m tgt ls rest)) (kf : x = true → W p l e R s m args below meth c H locs cells slots Q (F0 m (pc + 3) ls rest)) : W p l e R s m args below meth c H locs cells slots Q (F0 m pc ls (.int (gB x) :: rest)) := lv_if_eq hexec hb hdg ht (fun h => kt (by cases x; rfl; exact absurd h (by decide))) (fun h => kf (by cases x; exact absurd rfl h; rfl))
theorem mx_bne (hexec : p.tables.exec = Jvm.exec) (hb : c.code = cc) {x : Bool} {off : Int} {tgt : Nat} (hdg : decode cc pc = .ok (.ifCond .ne off, 3)) (ht : (pc : Int) + off = (tgt : Int)) (kt : x = true → W p l e R s m args below meth c H locs cells slots Q (F0 m tgt ls rest)) (kf : x = false → W p l e R s m args below meth c H locs cells slots Q (F0 m (pc + 3) ls rest)) : W p l e R s m args below meth c H locs cells slots Q (F0 m pc ls (.int (gB x) :: rest)) := lv_if_ne hexec hb hdg ht (fun h => kt (by cases x; exact absurd rfl h; rfl)) (fun h => kf (by cases x; rfl; exact absurd h (by decide)))
theorem mx_neq (hexec : p.tables.exec = Jvm.exec) (hb : c.code = cc) {x : Nat} {off : Int} {tgt : Nat} (hx : x < 2 ^ 31) (hdg : decode cc pc = .ok (.ifCond .eq off, 3)) (ht : (pc : Int) + off = (tgt : Int)) (kt : x = 0 → W p l e R s m args below meth c H locs cells slots Q (F0 m tgt ls rest)) (kf : x ≠ 0 → W p l e R s m args below meth c H locs cells slots Q (F0 m (pc + 3) ls rest)) : W p l e R s m args below meth c H locs cells slots Q (F0 m pc ls (.int (nI x) :: rest)) := lv_if_eq hexec hb hdg ht (fun h => kt ((nI_eq hx (by decide)).mp (by rw [nI_0]; exact h))) (fun h => kf (fun q => h (by rw [q]; rfl)))
theorem mx_nne (hexec : p.tables.exec = Jvm.exec) (hb : c.code = cc) {x : Nat} {off : Int} {tgt : Nat} (hx : x < 2 ^ 31) (hdg : decode cc pc = .ok (.ifCond .ne off, 3)) (ht : (pc : Int) + off = (tgt : Int)) (kt : x ≠ 0 → W p l e R s m args below meth c H locs cells slots Q (F0 m tgt ls rest)) (kf : x = 0 → W p l e R s m args below meth c H locs cells slots Q (F0 m (pc + 3) ls rest)) : W p l e R s m args below meth c H locs cells slots Q (F0 m pc ls (.int (nI x) :: rest)) := lv_if_ne hexec hb hdg ht (fun h => kt (fun q => h (by rw [q]; rfl))) (fun h => kf ((nI_eq hx (by decide)).mp (by rw [nI_0]; exact h)))
theorem mx_nle (hexec : p.tables.exec = Jvm.exec) (hb : c.code = cc) {x : Nat} {off : Int} {tgt : Nat} (hx : x < 2 ^ 31) (hdg : decode cc pc = .ok (.ifCond .le off, 3)) (ht : (pc : Int) + off = (tgt : Int)) (kt : x = 0 → W p l e R s m args below meth c H locs cells slots Q (F0 m tgt ls rest)) (kf : 0 < x → W p l e R s m args below meth c H locs cells slots Q (F0 m (pc + 3) ls rest)) : W p l e R s m args below meth c H locs cells slots Q (F0 m pc ls (.int (nI x) :: rest)) := lv_if_le hexec hb hdg ht (fun h => kt (Nat.le_zero.mp ((nI_leI hx (by decide)).mp (by rw [nI_0]; exact h)))) (fun h => kf (Nat.pos_of_ne_zero (fun q => h (by rw [q, nI_0]; decide))))
end MX
theorem lg_lt {x y : Int64} : lg_cmp x y < 0 ↔ x < y := by
  unfold lg_cmp
  rcases Int64.lt_or_le x y with q | q
  · rw [if_neg (Int64.not_lt.mpr (Int64.le_of_lt q)), if_neg (fun z => Int64.lt_irrefl (z ▸ q))]
    exact ⟨fun _ => q, fun _ => by decide⟩
  · refine ⟨fun h => ?_, fun h => absurd q (Int64.not_le.mpr h)⟩
    by_cases q2 : y < x
    · rw [if_pos q2] at h
      exact absurd h (by decide)
    · rw [if_neg q2, if_pos (Int64.le_antisymm (Int64.not_lt.mp q2) q)] at h
      exact absurd h (by decide)
theorem lg_gt {x y : Int64} : 0 < lg_cmp x y ↔ y < x := by
  unfold lg_cmp
  by_cases q2 : y < x
  · rw [if_pos q2]
    exact ⟨fun _ => q2, fun _ => by decide⟩
  · rw [if_neg q2]
    by_cases q3 : x = y
    · rw [if_pos q3]
      exact ⟨fun h => absurd h (by decide), fun h => absurd h q2⟩
    · rw [if_neg q3]
      exact ⟨fun h => absurd h (by decide), fun h => absurd h q2⟩
theorem lg_ge {x y : Int64} : 0 ≤ lg_cmp x y ↔ y ≤ x := by
  rw [← Int32.not_lt, lg_lt, Int64.not_lt]
theorem lg_le {x y : Int64} : lg_cmp x y ≤ 0 ↔ x ≤ y := by
  rw [← Int32.not_lt, lg_gt, Int64.not_lt]
theorem lg_eq {x y : Int64} : lg_cmp x y = 0 ↔ x = y := by
  constructor
  · intro h
    exact Int64.le_antisymm (lg_le.mp (by rw [h]; decide)) (lg_ge.mp (by rw [h]; decide))
  · intro h
    subst h
    unfold lg_cmp
    rw [if_neg Int64.lt_irrefl, if_pos rfl]
section MC
variable {p : Program} {l : Launch} {e : Env} {R : Room} {s : State} {m : MethodId} {args : Array Value} {below : List Frame} {meth : Method} {c : Code} {H : Heap} {locs : List Loc} {cells slots : Nat} {Q : State → Prop}
variable {cc : ByteArray} {pc : Nat} {ls : Array Slot} {rest st0 : List Value} {D : va_G} {A : Nat → Prop} {a b : Nat} {G : va_W} {cI cZ : ClassId} {g : Nat → Nat}
variable {y : MethodName} {ws : List Cond} {rm : Room} {own C host : String} {index maxL n nL ci : Nat} {bytes : ByteArray} {ret : Option FieldType} {As : List Value} {Ts : List Cond} {fs : List Value} {q : vw_C} {B : va_W → Prop}
theorem g_blind {av : List Value} : FrameBlind (va_Pc av (gPre D cI cZ A g G)) := fun a U gg mk q => by
  obtain ⟨q0, qP, qK, qN, qZ⟩ := q
  exact ⟨q0, qP, va_K.moved (u := U) (U := U.calling gg mk a) (Vm.Alike.refl U.vm) qK, gN.same (u := U) (U := U.calling gg mk a) rfl qN, gZ.moved (u := U) (U := U.calling gg mk a) (Vm.Alike.refl U.vm) qZ⟩
theorem g_env (hK : va_K D vwCl (gT cI cZ) s) (hN : gN s) (hZ : gZ A g s s.heap) (hP : va_P D vwCl G H) (hS : va_S A s.heap H locs) : ∀ U : State, U.heap = H → s.WarmedH U.vm → gPre D cI cZ A g G U := fun U hU hW => ⟨by rw [hU]; exact hP, va_K.moved hW.alike hK, gN.warm hW hN, by rw [hU]; exact (hZ.kept (fun a h1 h2 => hS.2.1 a h1 h2)).moved hW.alike⟩
theorem mx_cVi {Rv : Int32} (S : CallFix p m c cc nL s args Ts own) (hM : gMi l D cI cZ A g y ws rm (.ref b :: As) G Rv B) (cw : CallW R s args own C index y bytes maxL ret ws rm 0 0 n) (q0 : Nat) (hc : vwCl[ci]? = some q) (hC : q.1 = C) (he : G[q0]? = some (b, .inr (ci, fs))) (hK : va_K D vwCl (gT cI cZ) s) (hN : gN s) (hZ : gZ A g s s.heap) (hP : va_P D vwCl G H) (hS : va_S A s.heap H locs) (hn : As.length = n) (hsize : ls.size = nL) (hstack : st0 = As.reverse ++ .ref b :: rest) (hW : (rest.map fun v => v.category).sum ≤ 8) (hdg : decode cc pc = .ok (.invokevirtual index, 3)) (hf : cells ≤ R.cells ∧ slots ≤ R.slots)
    (kk : ∀ (G1 : va_W) (H1 : Heap) (locs1 : List Loc), va_P D vwCl G1 H1 → va_D A G1 → va_S A s.heap H1 locs1 → B G1 → W p l e R s m args below meth c H1 locs1 cells slots Q (F0 m (pc + 3) ls (.int Rv :: rest))) : W p l e R s m args below meth c H locs cells slots Q (F0 m pc ls st0) := by
  refine va_calli (va_runV (As := As) (rest := rest) S hM cw ⟨g_blind, (by rw [← hC]; exact va_recv hK hP hc he), fun U hU hW => ⟨rfl, g_env hK hN hZ hP hS U hU hW⟩⟩ rfl hn hsize hstack (lv_room hW) hdg hf) hS (fun q _ h => h) (fun q h => h) (fun r G1 t H1 locs1 ht hvm hw hB hz1 hk1 hS1 => ?_)
  obtain ⟨h1, h2⟩ := hB
  rw [ht] at h1
  obtain ⟨rfl, hw⟩ := hw
  exact kk G1 H1 locs1 h1 h2 hS1 hw
theorem mx_cSi {Rv : Int32} (S : CallFix p m c cc nL s args Ts own) (hM : gMi l D cI cZ A g y ws rm (As) G Rv B) (cw : CallB R s args own index y bytes maxL ret ws rm 0 0 n ∧ (Cond.static y).before args s = true) (hK : va_K D vwCl (gT cI cZ) s) (hN : gN s) (hZ : gZ A g s s.heap) (hP : va_P D vwCl G H) (hS : va_S A s.heap H locs) (hn : As.length = n) (hsize : ls.size = nL) (hstack : st0 = As.reverse ++ rest) (hW : (rest.map fun v => v.category).sum ≤ 8) (hdg : decode cc pc = .ok (.invokestatic index, 3)) (hf : cells ≤ R.cells ∧ slots ≤ R.slots)
    (kk : ∀ (G1 : va_W) (H1 : Heap) (locs1 : List Loc), va_P D vwCl G1 H1 → va_D A G1 → va_S A s.heap H1 locs1 → B G1 → W p l e R s m args below meth c H1 locs1 cells slots Q (F0 m (pc + 3) ls (.int Rv :: rest))) : W p l e R s m args below meth c H locs cells slots Q (F0 m pc ls st0) := by
  refine va_calli (va_runS (As := As) (rest := rest) S hM cw ⟨g_blind, fun U hU hW => ⟨rfl, g_env hK hN hZ hP hS U hU hW⟩⟩ rfl hn hsize hstack (lv_room hW) hdg hf) hS (fun q _ h => h) (fun q h => h) (fun r G1 t H1 locs1 ht hvm hw hB hz1 hk1 hS1 => ?_)
  obtain ⟨h1, h2⟩ := hB
  rw [ht] at h1
  obtain ⟨rfl, hw⟩ := hw
  exact kk G1 H1 locs1 h1 h2 hS1 hw
theorem mx_cNi {Rv : Int32} (S : CallFix p m c cc nL s args Ts own) (hM : gMi l D cI cZ A g y ws rm (As) G Rv B) (cw : va_CN R s args own index y host bytes maxL ret ws rm 0 0 n ∧ (Cond.static y).before args s = true ∧ True) (hK : va_K D vwCl (gT cI cZ) s) (hN : gN s) (hZ : gZ A g s s.heap) (hP : va_P D vwCl G H) (hS : va_S A s.heap H locs) (hn : As.length = n) (hsize : ls.size = nL) (hstack : st0 = As.reverse ++ rest) (hW : (rest.map fun v => v.category).sum ≤ 8) (hdg : decode cc pc = .ok (.invokestatic index, 3)) (hf : cells ≤ R.cells ∧ slots ≤ R.slots)
    (kk : ∀ (G1 : va_W) (H1 : Heap) (locs1 : List Loc), va_P D vwCl G1 H1 → va_D A G1 → va_S A s.heap H1 locs1 → B G1 → W p l e R s m args below meth c H1 locs1 cells slots Q (F0 m (pc + 3) ls (.int Rv :: rest))) : W p l e R s m args below meth c H locs cells slots Q (F0 m pc ls st0) := by
  refine va_calli (va_runSN (As := As) (rest := rest) S hM cw ⟨g_blind, fun U hU hW => ⟨rfl, g_env hK hN hZ hP hS U hU hW⟩⟩ rfl hn hsize hstack (lv_room hW) hdg hf) hS (fun q _ h => h) (fun q h => h) (fun r G1 t H1 locs1 ht hvm hw hB hz1 hk1 hS1 => ?_)
  obtain ⟨h1, h2⟩ := hB
  rw [ht] at h1
  obtain ⟨rfl, hw⟩ := hw
  exact kk G1 H1 locs1 h1 h2 hS1 hw
theorem mx_cVl {Rv : Int64} (S : CallFix p m c cc nL s args Ts own) (hM : gMl l D cI cZ A g y ws rm (.ref b :: As) G Rv B) (cw : CallW R s args own C index y bytes maxL ret ws rm 0 0 n) (q0 : Nat) (hc : vwCl[ci]? = some q) (hC : q.1 = C) (he : G[q0]? = some (b, .inr (ci, fs))) (hK : va_K D vwCl (gT cI cZ) s) (hN : gN s) (hZ : gZ A g s s.heap) (hP : va_P D vwCl G H) (hS : va_S A s.heap H locs) (hn : As.length = n) (hsize : ls.size = nL) (hstack : st0 = As.reverse ++ .ref b :: rest) (hW : (rest.map fun v => v.category).sum ≤ 8) (hdg : decode cc pc = .ok (.invokevirtual index, 3)) (hf : cells ≤ R.cells ∧ slots ≤ R.slots)
    (kk : ∀ (G1 : va_W) (H1 : Heap) (locs1 : List Loc), va_P D vwCl G1 H1 → va_D A G1 → va_S A s.heap H1 locs1 → B G1 → W p l e R s m args below meth c H1 locs1 cells slots Q (F0 m (pc + 3) ls (.long Rv :: rest))) : W p l e R s m args below meth c H locs cells slots Q (F0 m pc ls st0) := by
  refine va_calll (va_runV (As := As) (rest := rest) S hM cw ⟨g_blind, (by rw [← hC]; exact va_recv hK hP hc he), fun U hU hW => ⟨rfl, g_env hK hN hZ hP hS U hU hW⟩⟩ rfl hn hsize hstack (lv_room hW) hdg hf) hS (fun q _ h => h) (fun q h => h) (fun r G1 t H1 locs1 ht hvm hw hB hz1 hk1 hS1 => ?_)
  obtain ⟨h1, h2⟩ := hB
  rw [ht] at h1
  obtain ⟨rfl, hw⟩ := hw
  exact kk G1 H1 locs1 h1 h2 hS1 hw
theorem mx_cSl {Rv : Int64} (S : CallFix p m c cc nL s args Ts own) (hM : gMl l D cI cZ A g y ws rm (As) G Rv B) (cw : CallB R s args own index y bytes maxL ret ws rm 0 0 n ∧ (Cond.static y).before args s = true) (hK : va_K D vwCl (gT cI cZ) s) (hN : gN s) (hZ : gZ A g s s.heap) (hP : va_P D vwCl G H) (hS : va_S A s.heap H locs) (hn : As.length = n) (hsize : ls.size = nL) (hstack : st0 = As.reverse ++ rest) (hW : (rest.map fun v => v.category).sum ≤ 8) (hdg : decode cc pc = .ok (.invokestatic index, 3)) (hf : cells ≤ R.cells ∧ slots ≤ R.slots)
    (kk : ∀ (G1 : va_W) (H1 : Heap) (locs1 : List Loc), va_P D vwCl G1 H1 → va_D A G1 → va_S A s.heap H1 locs1 → B G1 → W p l e R s m args below meth c H1 locs1 cells slots Q (F0 m (pc + 3) ls (.long Rv :: rest))) : W p l e R s m args below meth c H locs cells slots Q (F0 m pc ls st0) := by
  refine va_calll (va_runS (As := As) (rest := rest) S hM cw ⟨g_blind, fun U hU hW => ⟨rfl, g_env hK hN hZ hP hS U hU hW⟩⟩ rfl hn hsize hstack (lv_room hW) hdg hf) hS (fun q _ h => h) (fun q h => h) (fun r G1 t H1 locs1 ht hvm hw hB hz1 hk1 hS1 => ?_)
  obtain ⟨h1, h2⟩ := hB
  rw [ht] at h1
  obtain ⟨rfl, hw⟩ := hw
  exact kk G1 H1 locs1 h1 h2 hS1 hw
theorem mx_cNl {Rv : Int64} (S : CallFix p m c cc nL s args Ts own) (hM : gMl l D cI cZ A g y ws rm (As) G Rv B) (cw : va_CN R s args own index y host bytes maxL ret ws rm 0 0 n ∧ (Cond.static y).before args s = true ∧ True) (hK : va_K D vwCl (gT cI cZ) s) (hN : gN s) (hZ : gZ A g s s.heap) (hP : va_P D vwCl G H) (hS : va_S A s.heap H locs) (hn : As.length = n) (hsize : ls.size = nL) (hstack : st0 = As.reverse ++ rest) (hW : (rest.map fun v => v.category).sum ≤ 8) (hdg : decode cc pc = .ok (.invokestatic index, 3)) (hf : cells ≤ R.cells ∧ slots ≤ R.slots)
    (kk : ∀ (G1 : va_W) (H1 : Heap) (locs1 : List Loc), va_P D vwCl G1 H1 → va_D A G1 → va_S A s.heap H1 locs1 → B G1 → W p l e R s m args below meth c H1 locs1 cells slots Q (F0 m (pc + 3) ls (.long Rv :: rest))) : W p l e R s m args below meth c H locs cells slots Q (F0 m pc ls st0) := by
  refine va_calll (va_runSN (As := As) (rest := rest) S hM cw ⟨g_blind, fun U hU hW => ⟨rfl, g_env hK hN hZ hP hS U hU hW⟩⟩ rfl hn hsize hstack (lv_room hW) hdg hf) hS (fun q _ h => h) (fun q h => h) (fun r G1 t H1 locs1 ht hvm hw hB hz1 hk1 hS1 => ?_)
  obtain ⟨h1, h2⟩ := hB
  rw [ht] at h1
  obtain ⟨rfl, hw⟩ := hw
  exact kk G1 H1 locs1 h1 h2 hS1 hw
theorem mx_cVv (S : CallFix p m c cc nL s args Ts own) (hM : gMv l D cI cZ A g y ws rm (.ref b :: As) G B) (cw : CallW R s args own C index y bytes maxL ret ws rm 0 0 n) (q0 : Nat) (hc : vwCl[ci]? = some q) (hC : q.1 = C) (he : G[q0]? = some (b, .inr (ci, fs))) (hK : va_K D vwCl (gT cI cZ) s) (hN : gN s) (hZ : gZ A g s s.heap) (hP : va_P D vwCl G H) (hS : va_S A s.heap H locs) (hn : As.length = n) (hsize : ls.size = nL) (hstack : st0 = As.reverse ++ .ref b :: rest) (hW : (rest.map fun v => v.category).sum ≤ 8) (hdg : decode cc pc = .ok (.invokevirtual index, 3)) (hf : cells ≤ R.cells ∧ slots ≤ R.slots)
    (kk : ∀ (G1 : va_W) (H1 : Heap) (locs1 : List Loc), va_P D vwCl G1 H1 → va_D A G1 → va_S A s.heap H1 locs1 → B G1 → W p l e R s m args below meth c H1 locs1 cells slots Q (F0 m (pc + 3) ls (rest))) : W p l e R s m args below meth c H locs cells slots Q (F0 m pc ls st0) := by
  refine va_callv (va_runV (As := As) (rest := rest) S hM cw ⟨g_blind, (by rw [← hC]; exact va_recv hK hP hc he), fun U hU hW => ⟨rfl, g_env hK hN hZ hP hS U hU hW⟩⟩ rfl hn hsize hstack (lv_room hW) hdg hf) hS (fun q _ h => h) (fun q h => h) (fun G1 t H1 locs1 ht hvm hw hB hz1 hk1 hS1 => ?_)
  obtain ⟨h1, h2⟩ := hB
  rw [ht] at h1
  exact kk G1 H1 locs1 h1 h2 hS1 hw
theorem mx_cSv (S : CallFix p m c cc nL s args Ts own) (hM : gMv l D cI cZ A g y ws rm (As) G B) (cw : CallB R s args own index y bytes maxL ret ws rm 0 0 n ∧ (Cond.static y).before args s = true) (hK : va_K D vwCl (gT cI cZ) s) (hN : gN s) (hZ : gZ A g s s.heap) (hP : va_P D vwCl G H) (hS : va_S A s.heap H locs) (hn : As.length = n) (hsize : ls.size = nL) (hstack : st0 = As.reverse ++ rest) (hW : (rest.map fun v => v.category).sum ≤ 8) (hdg : decode cc pc = .ok (.invokestatic index, 3)) (hf : cells ≤ R.cells ∧ slots ≤ R.slots)
    (kk : ∀ (G1 : va_W) (H1 : Heap) (locs1 : List Loc), va_P D vwCl G1 H1 → va_D A G1 → va_S A s.heap H1 locs1 → B G1 → W p l e R s m args below meth c H1 locs1 cells slots Q (F0 m (pc + 3) ls (rest))) : W p l e R s m args below meth c H locs cells slots Q (F0 m pc ls st0) := by
  refine va_callv (va_runS (As := As) (rest := rest) S hM cw ⟨g_blind, fun U hU hW => ⟨rfl, g_env hK hN hZ hP hS U hU hW⟩⟩ rfl hn hsize hstack (lv_room hW) hdg hf) hS (fun q _ h => h) (fun q h => h) (fun G1 t H1 locs1 ht hvm hw hB hz1 hk1 hS1 => ?_)
  obtain ⟨h1, h2⟩ := hB
  rw [ht] at h1
  exact kk G1 H1 locs1 h1 h2 hS1 hw
theorem mx_cNv (S : CallFix p m c cc nL s args Ts own) (hM : gMv l D cI cZ A g y ws rm (As) G B) (cw : va_CN R s args own index y host bytes maxL ret ws rm 0 0 n ∧ (Cond.static y).before args s = true ∧ True) (hK : va_K D vwCl (gT cI cZ) s) (hN : gN s) (hZ : gZ A g s s.heap) (hP : va_P D vwCl G H) (hS : va_S A s.heap H locs) (hn : As.length = n) (hsize : ls.size = nL) (hstack : st0 = As.reverse ++ rest) (hW : (rest.map fun v => v.category).sum ≤ 8) (hdg : decode cc pc = .ok (.invokestatic index, 3)) (hf : cells ≤ R.cells ∧ slots ≤ R.slots)
    (kk : ∀ (G1 : va_W) (H1 : Heap) (locs1 : List Loc), va_P D vwCl G1 H1 → va_D A G1 → va_S A s.heap H1 locs1 → B G1 → W p l e R s m args below meth c H1 locs1 cells slots Q (F0 m (pc + 3) ls (rest))) : W p l e R s m args below meth c H locs cells slots Q (F0 m pc ls st0) := by
  refine va_callv (va_runSN (As := As) (rest := rest) S hM cw ⟨g_blind, fun U hU hW => ⟨rfl, g_env hK hN hZ hP hS U hU hW⟩⟩ rfl hn hsize hstack (lv_room hW) hdg hf) hS (fun q _ h => h) (fun q h => h) (fun G1 t H1 locs1 ht hvm hw hB hz1 hk1 hS1 => ?_)
  obtain ⟨h1, h2⟩ := hB
  rw [ht] at h1
  exact kk G1 H1 locs1 h1 h2 hS1 hw
theorem gof_i {l : Launch} {Rv : Int32} {ws' : List Cond} {av : List Value} {G0 : va_W} (hy : plainName y.cls = true) (hw : ws = Cond.code y cc maxL (some .int) :: ws') (hfit : (lg_sl av).length ≤ maxL) (hD : va_D A G0)
    (body : ∀ (p : Program) (e : Env) (s : State) (m : MethodId) (args : Array Value) (below : List Frame) (meth : Method) (c : Code) (Q : State → Prop), p.tables.exec = Jvm.exec → c.code = cc → c.maxLocals = maxL → (∀ w ∈ ws, w.before args s = true) → s.vm.findClass y.cls = some m.cls → va_K D vwCl (gT cI cZ) s → gN s → gZ A g s s.heap → va_P D vwCl G0 s.heap → va_S A s.heap s.heap [] → (∀ (pc : Nat) (G : va_W) (H : Heap) (locs : List Loc) (ls : Array Slot) (v : Int32), va_P D vwCl G H → va_D A G → va_S A s.heap H locs → v = Rv → B G → decode cc pc = .ok (.ireturn, 1) → W p l e rm s m args below meth c H locs 0 0 Q (F0 m pc ls [.int v])) →
      ∀ ls : Array Slot, lv_has ls maxL (lv_args 0 av) → W p l e rm s m args below meth c s.heap [] 0 0 Q (F0 m 0 ls [])) : gMi l D cI cZ A g y ws rm av G0 Rv B := by
  refine Met.ofW (cc := cc) (maxL := maxL) (ret := some .int) hy hw ?_
  intro p e s m args below meth c s₁ Bd hml hv
  obtain ⟨rfl, hP, hK, hN, hZ⟩ := hv
  have hlocks := Bd.notSynchronized
  have hl := lv_entry av (n := maxL) hfit
  rw [lg_entry_eq]
  generalize (lg_sl av ++ List.replicate (maxL - (lg_sl av).length) Slot.unset).toArray = ls at hl ⊢
  refine body p e s m _ below meth c _ Bd.exec Bd.bytes hml (atoms_spec (ws := ws) Bd.pre) (findClass_of_methodNamed Bd.named) hK hN hZ hP va_S.rf ?_ ls hl
  intro pc G H locs ls v hP hD hS hv hB hdg
  exact W.iret Bd.exec Bd.bytes Bd.returns (fun t ht _ => ⟨⟨v, G, rfl, ⟨hv, hB⟩, by rw [ht]; exact hP, hD⟩, hS.F ht⟩) hS.2.2 hdg hlocks
theorem gof_l {l : Launch} {Rv : Int64} {ws' : List Cond} {av : List Value} {G0 : va_W} (hy : plainName y.cls = true) (hw : ws = Cond.code y cc maxL (some .long) :: ws') (hfit : (lg_sl av).length ≤ maxL) (hD : va_D A G0)
    (body : ∀ (p : Program) (e : Env) (s : State) (m : MethodId) (args : Array Value) (below : List Frame) (meth : Method) (c : Code) (Q : State → Prop), p.tables.exec = Jvm.exec → c.code = cc → c.maxLocals = maxL → (∀ w ∈ ws, w.before args s = true) → s.vm.findClass y.cls = some m.cls → va_K D vwCl (gT cI cZ) s → gN s → gZ A g s s.heap → va_P D vwCl G0 s.heap → va_S A s.heap s.heap [] → (∀ (pc : Nat) (G : va_W) (H : Heap) (locs : List Loc) (ls : Array Slot) (v : Int64), va_P D vwCl G H → va_D A G → va_S A s.heap H locs → v = Rv → B G → decode cc pc = .ok (.lreturn, 1) → W p l e rm s m args below meth c H locs 0 0 Q (F0 m pc ls [.long v])) →
      ∀ ls : Array Slot, lv_has ls maxL (lv_args 0 av) → W p l e rm s m args below meth c s.heap [] 0 0 Q (F0 m 0 ls [])) : gMl l D cI cZ A g y ws rm av G0 Rv B := by
  refine Met.ofW (cc := cc) (maxL := maxL) (ret := some .long) hy hw ?_
  intro p e s m args below meth c s₁ Bd hml hv
  obtain ⟨rfl, hP, hK, hN, hZ⟩ := hv
  have hlocks := Bd.notSynchronized
  have hl := lv_entry av (n := maxL) hfit
  rw [lg_entry_eq]
  generalize (lg_sl av ++ List.replicate (maxL - (lg_sl av).length) Slot.unset).toArray = ls at hl ⊢
  refine body p e s m _ below meth c _ Bd.exec Bd.bytes hml (atoms_spec (ws := ws) Bd.pre) (findClass_of_methodNamed Bd.named) hK hN hZ hP va_S.rf ?_ ls hl
  intro pc G H locs ls v hP hD hS hv hB hdg
  exact W.lret Bd.exec Bd.bytes Bd.returns (fun t ht _ => ⟨⟨v, G, rfl, ⟨hv, hB⟩, by rw [ht]; exact hP, hD⟩, hS.F ht⟩) hS.2.2 hdg hlocks
theorem gof_z {l : Launch} {Rv : Int32} {ws' : List Cond} {av : List Value} {G0 : va_W} (hy : plainName y.cls = true) (hw : ws = Cond.code y cc maxL (some .boolean) :: ws') (hfit : (lg_sl av).length ≤ maxL) (hD : va_D A G0)
    (body : ∀ (p : Program) (e : Env) (s : State) (m : MethodId) (args : Array Value) (below : List Frame) (meth : Method) (c : Code) (Q : State → Prop), p.tables.exec = Jvm.exec → c.code = cc → c.maxLocals = maxL → (∀ w ∈ ws, w.before args s = true) → s.vm.findClass y.cls = some m.cls → va_K D vwCl (gT cI cZ) s → gN s → gZ A g s s.heap → va_P D vwCl G0 s.heap → va_S A s.heap s.heap [] → (∀ (pc : Nat) (G : va_W) (H : Heap) (locs : List Loc) (ls : Array Slot) (v : Int32), va_P D vwCl G H → va_D A G → va_S A s.heap H locs → narrow .boolean (.int v) = .int v → v = Rv → B G → decode cc pc = .ok (.ireturn, 1) → W p l e rm s m args below meth c H locs 0 0 Q (F0 m pc ls [.int v])) →
      ∀ ls : Array Slot, lv_has ls maxL (lv_args 0 av) → W p l e rm s m args below meth c s.heap [] 0 0 Q (F0 m 0 ls [])) : gMi l D cI cZ A g y ws rm av G0 Rv B := by
  refine Met.ofW (cc := cc) (maxL := maxL) (ret := some .boolean) hy hw ?_
  intro p e s m args below meth c s₁ Bd hml hv
  obtain ⟨rfl, hP, hK, hN, hZ⟩ := hv
  have hlocks := Bd.notSynchronized
  have hl := lv_entry av (n := maxL) hfit
  rw [lg_entry_eq]
  generalize (lg_sl av ++ List.replicate (maxL - (lg_sl av).length) Slot.unset).toArray = ls at hl ⊢
  refine body p e s m _ below meth c _ Bd.exec Bd.bytes hml (atoms_spec (ws := ws) Bd.pre) (findClass_of_methodNamed Bd.named) hK hN hZ hP va_S.rf ?_ ls hl
  intro pc G H locs ls v hP hD hS hnar hv hB hdg
  exact W.zret Bd.exec Bd.bytes Bd.returns hnar (fun t ht _ => ⟨⟨v, G, rfl, ⟨hv, hB⟩, by rw [ht]; exact hP, hD⟩, hS.F ht⟩) hS.2.2 hdg hlocks
theorem gof_v {l : Launch} {ws' : List Cond} {av : List Value} {G0 : va_W} (hy : plainName y.cls = true) (hw : ws = Cond.code y cc maxL (none) :: ws') (hfit : (lg_sl av).length ≤ maxL) (hD : va_D A G0)
    (body : ∀ (p : Program) (e : Env) (s : State) (m : MethodId) (args : Array Value) (below : List Frame) (meth : Method) (c : Code) (Q : State → Prop), p.tables.exec = Jvm.exec → c.code = cc → c.maxLocals = maxL → (∀ w ∈ ws, w.before args s = true) → s.vm.findClass y.cls = some m.cls → va_K D vwCl (gT cI cZ) s → gN s → gZ A g s s.heap → va_P D vwCl G0 s.heap → va_S A s.heap s.heap [] → (∀ (pc : Nat) (G : va_W) (H : Heap) (locs : List Loc) (ls : Array Slot), va_P D vwCl G H → va_D A G → va_S A s.heap H locs → B G → decode cc pc = .ok (.return_, 1) → W p l e rm s m args below meth c H locs 0 0 Q (F0 m pc ls [])) →
      ∀ ls : Array Slot, lv_has ls maxL (lv_args 0 av) → W p l e rm s m args below meth c s.heap [] 0 0 Q (F0 m 0 ls [])) : gMv l D cI cZ A g y ws rm av G0 B := by
  refine Met.ofW (cc := cc) (maxL := maxL) (ret := none) hy hw ?_
  intro p e s m args below meth c s₁ Bd hml hv
  obtain ⟨rfl, hP, hK, hN, hZ⟩ := hv
  have hlocks := Bd.notSynchronized
  have hl := lv_entry av (n := maxL) hfit
  rw [lg_entry_eq]
  generalize (lg_sl av ++ List.replicate (maxL - (lg_sl av).length) Slot.unset).toArray = ls at hl ⊢
  refine body p e s m _ below meth c _ Bd.exec Bd.bytes hml (atoms_spec (ws := ws) Bd.pre) (findClass_of_methodNamed Bd.named) hK hN hZ hP va_S.rf ?_ ls hl
  intro pc G H locs ls hP hD hS hB hdg
  exact W.vret Bd.exec Bd.bytes Bd.returns (fun t ht _ => ⟨⟨G, rfl, hB, by rw [ht]; exact hP, hD⟩, hS.F ht⟩) hS.2.2 hdg hlocks
end MC
end
section
theorem dX0_init_0 : decode cX0_init 0 = .ok (.aload_n 0, 1) := by decide +kernel
theorem dX0_init_1 : decode cX0_init 1 = .ok (.invokespecial 5, 3) := by decide +kernel
theorem dX0_init_4 : decode cX0_init 4 = .ok (.aload_n 0, 1) := by decide +kernel
theorem dX0_init_5 : decode cX0_init 5 = .ok (.bipush 8, 2) := by decide +kernel
theorem dX0_init_7 : decode cX0_init 7 = .ok (.newarray .int, 2) := by decide +kernel
theorem dX0_init_9 : decode cX0_init 9 = .ok (.putfield 11, 3) := by decide +kernel
theorem dX0_init_12 : decode cX0_init 12 = .ok (.aload_n 0, 1) := by decide +kernel
theorem dX0_init_13 : decode cX0_init 13 = .ok (.bipush 8, 2) := by decide +kernel
theorem dX0_init_15 : decode cX0_init 15 = .ok (.newarray .int, 2) := by decide +kernel
theorem dX0_init_17 : decode cX0_init 17 = .ok (.putfield 15, 3) := by decide +kernel
theorem dX0_init_20 : decode cX0_init 20 = .ok (.aload_n 0, 1) := by decide +kernel
theorem dX0_init_21 : decode cX0_init 21 = .ok (.bipush 16, 2) := by decide +kernel
theorem dX0_init_23 : decode cX0_init 23 = .ok (.newarray .int, 2) := by decide +kernel
theorem dX0_init_25 : decode cX0_init 25 = .ok (.putfield 18, 3) := by decide +kernel
theorem dX0_init_28 : decode cX0_init 28 = .ok (.aload_n 0, 1) := by decide +kernel
theorem dX0_init_29 : decode cX0_init 29 = .ok (.sipush 1024, 3) := by decide +kernel
theorem dX0_init_32 : decode cX0_init 32 = .ok (.newarray .int, 2) := by decide +kernel
theorem dX0_init_34 : decode cX0_init 34 = .ok (.putfield 21, 3) := by decide +kernel
theorem dX0_init_37 : decode cX0_init 37 = .ok (.aload_n 0, 1) := by decide +kernel
theorem dX0_init_38 : decode cX0_init 38 = .ok (.bipush 7, 2) := by decide +kernel
theorem dX0_init_40 : decode cX0_init 40 = .ok (.newarray .int, 2) := by decide +kernel
theorem dX0_init_42 : decode cX0_init 42 = .ok (.putfield 24, 3) := by decide +kernel
theorem dX0_init_45 : decode cX0_init 45 = .ok (.iconst 0, 1) := by decide +kernel
theorem dX0_init_46 : decode cX0_init 46 = .ok (.istore_n 1, 1) := by decide +kernel
theorem dX0_init_47 : decode cX0_init 47 = .ok (.iload_n 1, 1) := by decide +kernel
theorem dX0_init_48 : decode cX0_init 48 = .ok (.aload_n 0, 1) := by decide +kernel
theorem dX0_init_49 : decode cX0_init 49 = .ok (.getfield 18, 3) := by decide +kernel
theorem dX0_init_52 : decode cX0_init 52 = .ok (.arraylength, 1) := by decide +kernel
theorem dX0_init_53 : decode cX0_init 53 = .ok (.if_icmp .ge 30, 3) := by decide +kernel
theorem dX0_init_56 : decode cX0_init 56 = .ok (.aload_n 0, 1) := by decide +kernel
theorem dX0_init_57 : decode cX0_init 57 = .ok (.getfield 18, 3) := by decide +kernel
theorem dX0_init_60 : decode cX0_init 60 = .ok (.iload_n 1, 1) := by decide +kernel
theorem dX0_init_61 : decode cX0_init 61 = .ok (.iload_n 1, 1) := by decide +kernel
theorem dX0_init_62 : decode cX0_init 62 = .ok (.iconst 4, 1) := by decide +kernel
theorem dX0_init_63 : decode cX0_init 63 = .ok (.idiv, 1) := by decide +kernel
theorem dX0_init_64 : decode cX0_init 64 = .ok (.iload_n 1, 1) := by decide +kernel
theorem dX0_init_65 : decode cX0_init 65 = .ok (.iconst 4, 1) := by decide +kernel
theorem dX0_init_66 : decode cX0_init 66 = .ok (.irem, 1) := by decide +kernel
theorem dX0_init_67 : decode cX0_init 67 = .ok (.if_icmp .ne 7, 3) := by decide +kernel
theorem dX0_init_70 : decode cX0_init 70 = .ok (.iconst 0, 1) := by decide +kernel
theorem dX0_init_71 : decode cX0_init 71 = .ok (.goto 5, 3) := by decide +kernel
theorem dX0_init_74 : decode cX0_init 74 = .ok (.bipush 10, 2) := by decide +kernel
theorem dX0_init_76 : decode cX0_init 76 = .ok (.iastore, 1) := by decide +kernel
theorem dX0_init_77 : decode cX0_init 77 = .ok (.iinc 1 1, 3) := by decide +kernel
theorem dX0_init_80 : decode cX0_init 80 = .ok (.goto (-33), 3) := by decide +kernel
theorem dX0_init_83 : decode cX0_init 83 = .ok (.return_, 1) := by decide +kernel
theorem dX0_isColour_0 : decode cX0_isColour 0 = .ok (.iload_n 0, 1) := by decide +kernel
theorem dX0_isColour_1 : decode cX0_isColour 1 = .ok (.ifCond .lt 12, 3) := by decide +kernel
theorem dX0_isColour_4 : decode cX0_isColour 4 = .ok (.iload_n 0, 1) := by decide +kernel
theorem dX0_isColour_5 : decode cX0_isColour 5 = .ok (.iconst 4, 1) := by decide +kernel
theorem dX0_isColour_6 : decode cX0_isColour 6 = .ok (.if_icmp .ge 7, 3) := by decide +kernel
theorem dX0_isColour_9 : decode cX0_isColour 9 = .ok (.iconst 1, 1) := by decide +kernel
theorem dX0_isColour_10 : decode cX0_isColour 10 = .ok (.goto 4, 3) := by decide +kernel
theorem dX0_isColour_13 : decode cX0_isColour 13 = .ok (.iconst 0, 1) := by decide +kernel
theorem dX0_isColour_14 : decode cX0_isColour 14 = .ok (.ireturn, 1) := by decide +kernel
theorem dX0_isPaper_0 : decode cX0_isPaper 0 = .ok (.iload_n 0, 1) := by decide +kernel
theorem dX0_isPaper_1 : decode cX0_isPaper 1 = .ok (.ifCond .lt 13, 3) := by decide +kernel
theorem dX0_isPaper_4 : decode cX0_isPaper 4 = .ok (.iload_n 0, 1) := by decide +kernel
theorem dX0_isPaper_5 : decode cX0_isPaper 5 = .ok (.bipush 6, 2) := by decide +kernel
theorem dX0_isPaper_7 : decode cX0_isPaper 7 = .ok (.if_icmp .ge 7, 3) := by decide +kernel
theorem dX0_isPaper_10 : decode cX0_isPaper 10 = .ok (.iconst 1, 1) := by decide +kernel
theorem dX0_isPaper_11 : decode cX0_isPaper 11 = .ok (.goto 4, 3) := by decide +kernel
theorem dX0_isPaper_14 : decode cX0_isPaper 14 = .ok (.iconst 0, 1) := by decide +kernel
theorem dX0_isPaper_15 : decode cX0_isPaper 15 = .ok (.ireturn, 1) := by decide +kernel
set_option maxRecDepth 20000 in
theorem ggX0_isWashCost_X7_within : GoodIn wsX0_isWashCost wsX7_within := goodIn_r _ [3] rfl (by decide +kernel)
set_option maxRecDepth 20000 in
theorem gX0_isWashCost_X7_within_n27 : GoodIn wsX0_isWashCost (wsX7_within) := ggX0_isWashCost_X7_within
theorem dX0_isWashCost_0 : decode cX0_isWashCost 0 = .ok (.iload_n 0, 1) := by decide +kernel
theorem dX0_isWashCost_1 : decode cX0_isWashCost 1 = .ok (.iconst 0, 1) := by decide +kernel
theorem dX0_isWashCost_2 : decode cX0_isWashCost 2 = .ok (.bipush 100, 2) := by decide +kernel
theorem dX0_isWashCost_4 : decode cX0_isWashCost 4 = .ok (.invokestatic 27, 3) := by decide +kernel
theorem dX0_isWashCost_7 : decode cX0_isWashCost 7 = .ok (.ireturn, 1) := by decide +kernel
theorem dX0_has_0 : decode cX0_has 0 = .ok (.iload_n 1, 1) := by decide +kernel
theorem dX0_has_1 : decode cX0_has 1 = .ok (.ifCond .lt 15, 3) := by decide +kernel
theorem dX0_has_4 : decode cX0_has 4 = .ok (.iload_n 1, 1) := by decide +kernel
theorem dX0_has_5 : decode cX0_has 5 = .ok (.aload_n 0, 1) := by decide +kernel
theorem dX0_has_6 : decode cX0_has 6 = .ok (.getfield 31, 3) := by decide +kernel
theorem dX0_has_9 : decode cX0_has 9 = .ok (.if_icmp .ge 7, 3) := by decide +kernel
theorem dX0_has_12 : decode cX0_has 12 = .ok (.iconst 1, 1) := by decide +kernel
theorem dX0_has_13 : decode cX0_has 13 = .ok (.goto 4, 3) := by decide +kernel
theorem dX0_has_16 : decode cX0_has 16 = .ok (.iconst 0, 1) := by decide +kernel
theorem dX0_has_17 : decode cX0_has 17 = .ok (.ireturn, 1) := by decide +kernel
theorem dX0_isFull_0 : decode cX0_isFull 0 = .ok (.aload_n 0, 1) := by decide +kernel
theorem dX0_isFull_1 : decode cX0_isFull 1 = .ok (.getfield 31, 3) := by decide +kernel
theorem dX0_isFull_4 : decode cX0_isFull 4 = .ok (.bipush 7, 2) := by decide +kernel
theorem dX0_isFull_6 : decode cX0_isFull 6 = .ok (.if_icmp .lt 7, 3) := by decide +kernel
theorem dX0_isFull_9 : decode cX0_isFull 9 = .ok (.iconst 1, 1) := by decide +kernel
theorem dX0_isFull_10 : decode cX0_isFull 10 = .ok (.goto 4, 3) := by decide +kernel
theorem dX0_isFull_13 : decode cX0_isFull 13 = .ok (.iconst 0, 1) := by decide +kernel
theorem dX0_isFull_14 : decode cX0_isFull 14 = .ok (.ireturn, 1) := by decide +kernel
theorem dX0_add_0 : decode cX0_add 0 = .ok (.aload_n 0, 1) := by decide +kernel
theorem dX0_add_1 : decode cX0_add 1 = .ok (.getfield 11, 3) := by decide +kernel
theorem dX0_add_4 : decode cX0_add 4 = .ok (.aload_n 0, 1) := by decide +kernel
theorem dX0_add_5 : decode cX0_add 5 = .ok (.getfield 31, 3) := by decide +kernel
theorem dX0_add_8 : decode cX0_add 8 = .ok (.iload_n 1, 1) := by decide +kernel
theorem dX0_add_9 : decode cX0_add 9 = .ok (.iastore, 1) := by decide +kernel
theorem dX0_add_10 : decode cX0_add 10 = .ok (.aload_n 0, 1) := by decide +kernel
theorem dX0_add_11 : decode cX0_add 11 = .ok (.getfield 15, 3) := by decide +kernel
theorem dX0_add_14 : decode cX0_add 14 = .ok (.aload_n 0, 1) := by decide +kernel
theorem dX0_add_15 : decode cX0_add 15 = .ok (.getfield 31, 3) := by decide +kernel
theorem dX0_add_18 : decode cX0_add 18 = .ok (.iload_n 2, 1) := by decide +kernel
theorem dX0_add_19 : decode cX0_add 19 = .ok (.iastore, 1) := by decide +kernel
theorem dX0_add_20 : decode cX0_add 20 = .ok (.aload_n 0, 1) := by decide +kernel
theorem dX0_add_21 : decode cX0_add 21 = .ok (.dup, 1) := by decide +kernel
theorem dX0_add_22 : decode cX0_add 22 = .ok (.getfield 31, 3) := by decide +kernel
theorem dX0_add_25 : decode cX0_add 25 = .ok (.iconst 1, 1) := by decide +kernel
theorem dX0_add_26 : decode cX0_add 26 = .ok (.iadd, 1) := by decide +kernel
theorem dX0_add_27 : decode cX0_add 27 = .ok (.putfield 31, 3) := by decide +kernel
theorem dX0_add_30 : decode cX0_add 30 = .ok (.aload_n 0, 1) := by decide +kernel
theorem dX0_add_31 : decode cX0_add 31 = .ok (.iconst 0, 1) := by decide +kernel
theorem dX0_add_32 : decode cX0_add 32 = .ok (.putfield 35, 3) := by decide +kernel
theorem dX0_add_35 : decode cX0_add 35 = .ok (.aload_n 0, 1) := by decide +kernel
theorem dX0_add_36 : decode cX0_add 36 = .ok (.getfield 31, 3) := by decide +kernel
theorem dX0_add_39 : decode cX0_add 39 = .ok (.iconst 1, 1) := by decide +kernel
theorem dX0_add_40 : decode cX0_add 40 = .ok (.isub, 1) := by decide +kernel
theorem dX0_add_41 : decode cX0_add 41 = .ok (.ireturn, 1) := by decide +kernel
theorem dX0_removeAll_0 : decode cX0_removeAll 0 = .ok (.aload_n 0, 1) := by decide +kernel
theorem dX0_removeAll_1 : decode cX0_removeAll 1 = .ok (.getfield 31, 3) := by decide +kernel
theorem dX0_removeAll_4 : decode cX0_removeAll 4 = .ok (.istore_n 1, 1) := by decide +kernel
theorem dX0_removeAll_5 : decode cX0_removeAll 5 = .ok (.aload_n 0, 1) := by decide +kernel
theorem dX0_removeAll_6 : decode cX0_removeAll 6 = .ok (.iconst 0, 1) := by decide +kernel
theorem dX0_removeAll_7 : decode cX0_removeAll 7 = .ok (.putfield 31, 3) := by decide +kernel
theorem dX0_removeAll_10 : decode cX0_removeAll 10 = .ok (.aload_n 0, 1) := by decide +kernel
theorem dX0_removeAll_11 : decode cX0_removeAll 11 = .ok (.iconst 0, 1) := by decide +kernel
theorem dX0_removeAll_12 : decode cX0_removeAll 12 = .ok (.putfield 35, 3) := by decide +kernel
theorem dX0_removeAll_15 : decode cX0_removeAll 15 = .ok (.iload_n 1, 1) := by decide +kernel
theorem dX0_removeAll_16 : decode cX0_removeAll 16 = .ok (.ireturn, 1) := by decide +kernel
theorem dX0_changeWash_0 : decode cX0_changeWash 0 = .ok (.iload_n 1, 1) := by decide +kernel
theorem dX0_changeWash_1 : decode cX0_changeWash 1 = .ok (.iconst 4, 1) := by decide +kernel
theorem dX0_changeWash_2 : decode cX0_changeWash 2 = .ok (.imul, 1) := by decide +kernel
theorem dX0_changeWash_3 : decode cX0_changeWash 3 = .ok (.iload_n 2, 1) := by decide +kernel
theorem dX0_changeWash_4 : decode cX0_changeWash 4 = .ok (.iadd, 1) := by decide +kernel
theorem dX0_changeWash_5 : decode cX0_changeWash 5 = .ok (.istore 4, 2) := by decide +kernel
theorem dX0_changeWash_7 : decode cX0_changeWash 7 = .ok (.aload_n 0, 1) := by decide +kernel
theorem dX0_changeWash_8 : decode cX0_changeWash 8 = .ok (.getfield 18, 3) := by decide +kernel
theorem dX0_changeWash_11 : decode cX0_changeWash 11 = .ok (.iload 4, 2) := by decide +kernel
theorem dX0_changeWash_13 : decode cX0_changeWash 13 = .ok (.iaload, 1) := by decide +kernel
theorem dX0_changeWash_14 : decode cX0_changeWash 14 = .ok (.istore 5, 2) := by decide +kernel
theorem dX0_changeWash_16 : decode cX0_changeWash 16 = .ok (.aload_n 0, 1) := by decide +kernel
theorem dX0_changeWash_17 : decode cX0_changeWash 17 = .ok (.getfield 18, 3) := by decide +kernel
theorem dX0_changeWash_20 : decode cX0_changeWash 20 = .ok (.iload 4, 2) := by decide +kernel
theorem dX0_changeWash_22 : decode cX0_changeWash 22 = .ok (.iload_n 3, 1) := by decide +kernel
theorem dX0_changeWash_23 : decode cX0_changeWash 23 = .ok (.iastore, 1) := by decide +kernel
theorem dX0_changeWash_24 : decode cX0_changeWash 24 = .ok (.aload_n 0, 1) := by decide +kernel
theorem dX0_changeWash_25 : decode cX0_changeWash 25 = .ok (.iconst 0, 1) := by decide +kernel
theorem dX0_changeWash_26 : decode cX0_changeWash 26 = .ok (.putfield 35, 3) := by decide +kernel
theorem dX0_changeWash_29 : decode cX0_changeWash 29 = .ok (.iload 5, 2) := by decide +kernel
theorem dX0_changeWash_31 : decode cX0_changeWash 31 = .ok (.ireturn, 1) := by decide +kernel
set_option maxRecDepth 20000 in
theorem ggX0_leastCosts_X0_plan : GoodIn wsX0_leastCosts wsX0_plan := goodIn_r _ [6, 7, 8, 9, 10, 5, 11, 12, 13, 14, 15, 1, 16, 17, 18, 19, 20, 21, 22, 23, 24, 25, 26, 27, 28, 29, 30, 31, 32, 33, 34, 35, 36, 37, 38] rfl (by decide +kernel)
set_option maxRecDepth 20000 in
theorem gX0_leastCosts_X0_plan : GoodIn wsX0_leastCosts (wsV RX0 39 RX0 yX0_plan wsX0_plan) := goodIn_app (goodIn_of _ (by decide +kernel)) ggX0_leastCosts_X0_plan
theorem dX0_leastCosts_0 : decode cX0_leastCosts 0 = .ok (.aload_n 0, 1) := by decide +kernel
theorem dX0_leastCosts_1 : decode cX0_leastCosts 1 = .ok (.invokevirtual 39, 3) := by decide +kernel
theorem dX0_leastCosts_4 : decode cX0_leastCosts 4 = .ok (.aload_n 0, 1) := by decide +kernel
theorem dX0_leastCosts_5 : decode cX0_leastCosts 5 = .ok (.getfield 21, 3) := by decide +kernel
theorem dX0_leastCosts_8 : decode cX0_leastCosts 8 = .ok (.bipush 7, 2) := by decide +kernel
theorem dX0_leastCosts_10 : decode cX0_leastCosts 10 = .ok (.iaload, 1) := by decide +kernel
theorem dX0_leastCosts_11 : decode cX0_leastCosts 11 = .ok (.ireturn, 1) := by decide +kernel
set_option maxRecDepth 20000 in
theorem ggX0_inOrder_X0_plan : GoodIn wsX0_inOrder wsX0_plan := goodIn_r _ [6, 7, 8, 9, 10, 5, 11, 12, 13, 14, 15, 16, 17, 18, 19, 20, 21, 22, 23, 24, 25, 26, 27, 28, 29, 30, 31, 1, 32, 33, 34, 35, 36, 37, 38] rfl (by decide +kernel)
set_option maxRecDepth 20000 in
theorem gX0_inOrder_X0_plan : GoodIn wsX0_inOrder (wsV RX0 39 RX0 yX0_plan wsX0_plan) := goodIn_app (goodIn_of _ (by decide +kernel)) ggX0_inOrder_X0_plan
theorem dX0_inOrder_0 : decode cX0_inOrder 0 = .ok (.aload_n 0, 1) := by decide +kernel
theorem dX0_inOrder_1 : decode cX0_inOrder 1 = .ok (.invokevirtual 39, 3) := by decide +kernel
theorem dX0_inOrder_4 : decode cX0_inOrder 4 = .ok (.aload_n 0, 1) := by decide +kernel
theorem dX0_inOrder_5 : decode cX0_inOrder 5 = .ok (.getfield 24, 3) := by decide +kernel
theorem dX0_inOrder_8 : decode cX0_inOrder 8 = .ok (.iload_n 1, 1) := by decide +kernel
theorem dX0_inOrder_9 : decode cX0_inOrder 9 = .ok (.iaload, 1) := by decide +kernel
theorem dX0_inOrder_10 : decode cX0_inOrder 10 = .ok (.ireturn, 1) := by decide +kernel
set_option maxRecDepth 20000 in
theorem ggX0_plan_X0_holds : GoodIn wsX0_plan wsX0_holds := goodIn_r _ [6] rfl (by decide +kernel)
set_option maxRecDepth 20000 in
theorem gX0_plan_X0_holds : GoodIn wsX0_plan (va_wsS RX0 42 yX0_holds wsX0_holds) := goodIn_app (goodIn_of _ (by decide +kernel)) ggX0_plan_X0_holds
set_option maxRecDepth 20000 in
theorem ggX0_plan_X0_weigh : GoodIn wsX0_plan wsX0_weigh := goodIn_r _ [10, 11, 12, 13, 14, 5, 15, 2, 3, 4, 6, 16, 17, 18, 19, 20, 21, 22, 28, 29, 30, 31, 32, 33, 34] rfl (by decide +kernel)
set_option maxRecDepth 20000 in
theorem gX0_plan_X0_weigh : GoodIn wsX0_plan (wsV RX0 46 RX0 yX0_weigh wsX0_weigh) := goodIn_app (goodIn_of _ (by decide +kernel)) ggX0_plan_X0_weigh
set_option maxRecDepth 20000 in
theorem ggX0_plan_X0_walk : GoodIn wsX0_plan wsX0_walk := goodIn_r _ [26, 2, 27, 12, 13, 14, 5, 15, 3, 4, 6, 16, 17, 18, 19, 20, 21, 22, 11, 28, 29, 30, 31, 32, 33, 34] rfl (by decide +kernel)
set_option maxRecDepth 20000 in
theorem gX0_plan_X0_walk : GoodIn wsX0_plan (wsV RX0 50 RX0 yX0_walk wsX0_walk) := goodIn_app (goodIn_of _ (by decide +kernel)) ggX0_plan_X0_walk
theorem dX0_plan_0 : decode cX0_plan 0 = .ok (.aload_n 0, 1) := by decide +kernel
theorem dX0_plan_1 : decode cX0_plan 1 = .ok (.getfield 35, 3) := by decide +kernel
theorem dX0_plan_4 : decode cX0_plan 4 = .ok (.ifCond .eq 4, 3) := by decide +kernel
theorem dX0_plan_7 : decode cX0_plan 7 = .ok (.return_, 1) := by decide +kernel
theorem dX0_plan_8 : decode cX0_plan 8 = .ok (.iconst 1, 1) := by decide +kernel
theorem dX0_plan_9 : decode cX0_plan 9 = .ok (.aload_n 0, 1) := by decide +kernel
theorem dX0_plan_10 : decode cX0_plan 10 = .ok (.getfield 31, 3) := by decide +kernel
theorem dX0_plan_13 : decode cX0_plan 13 = .ok (.ishl, 1) := by decide +kernel
theorem dX0_plan_14 : decode cX0_plan 14 = .ok (.iconst 1, 1) := by decide +kernel
theorem dX0_plan_15 : decode cX0_plan 15 = .ok (.isub, 1) := by decide +kernel
theorem dX0_plan_16 : decode cX0_plan 16 = .ok (.istore_n 1, 1) := by decide +kernel
theorem dX0_plan_17 : decode cX0_plan 17 = .ok (.iload_n 1, 1) := by decide +kernel
theorem dX0_plan_18 : decode cX0_plan 18 = .ok (.ifCond .le 39, 3) := by decide +kernel
theorem dX0_plan_21 : decode cX0_plan 21 = .ok (.iconst 0, 1) := by decide +kernel
theorem dX0_plan_22 : decode cX0_plan 22 = .ok (.istore_n 2, 1) := by decide +kernel
theorem dX0_plan_23 : decode cX0_plan 23 = .ok (.iload_n 2, 1) := by decide +kernel
theorem dX0_plan_24 : decode cX0_plan 24 = .ok (.aload_n 0, 1) := by decide +kernel
theorem dX0_plan_25 : decode cX0_plan 25 = .ok (.getfield 31, 3) := by decide +kernel
theorem dX0_plan_28 : decode cX0_plan 28 = .ok (.if_icmp .ge 23, 3) := by decide +kernel
theorem dX0_plan_31 : decode cX0_plan 31 = .ok (.iload_n 1, 1) := by decide +kernel
theorem dX0_plan_32 : decode cX0_plan 32 = .ok (.iload_n 2, 1) := by decide +kernel
theorem dX0_plan_33 : decode cX0_plan 33 = .ok (.invokestatic 42, 3) := by decide +kernel
theorem dX0_plan_36 : decode cX0_plan 36 = .ok (.ifCond .eq 9, 3) := by decide +kernel
theorem dX0_plan_39 : decode cX0_plan 39 = .ok (.aload_n 0, 1) := by decide +kernel
theorem dX0_plan_40 : decode cX0_plan 40 = .ok (.iload_n 1, 1) := by decide +kernel
theorem dX0_plan_41 : decode cX0_plan 41 = .ok (.iload_n 2, 1) := by decide +kernel
theorem dX0_plan_42 : decode cX0_plan 42 = .ok (.invokevirtual 46, 3) := by decide +kernel
theorem dX0_plan_45 : decode cX0_plan 45 = .ok (.iinc 2 1, 3) := by decide +kernel
theorem dX0_plan_48 : decode cX0_plan 48 = .ok (.goto (-25), 3) := by decide +kernel
theorem dX0_plan_51 : decode cX0_plan 51 = .ok (.iinc 1 (-1), 3) := by decide +kernel
theorem dX0_plan_54 : decode cX0_plan 54 = .ok (.goto (-37), 3) := by decide +kernel
theorem dX0_plan_57 : decode cX0_plan 57 = .ok (.aload_n 0, 1) := by decide +kernel
theorem dX0_plan_58 : decode cX0_plan 58 = .ok (.iconst 0, 1) := by decide +kernel
theorem dX0_plan_59 : decode cX0_plan 59 = .ok (.bipush 7, 2) := by decide +kernel
theorem dX0_plan_61 : decode cX0_plan 61 = .ok (.invokevirtual 46, 3) := by decide +kernel
theorem dX0_plan_64 : decode cX0_plan 64 = .ok (.aload_n 0, 1) := by decide +kernel
theorem dX0_plan_65 : decode cX0_plan 65 = .ok (.invokevirtual 50, 3) := by decide +kernel
theorem dX0_plan_68 : decode cX0_plan 68 = .ok (.aload_n 0, 1) := by decide +kernel
theorem dX0_plan_69 : decode cX0_plan 69 = .ok (.iconst 1, 1) := by decide +kernel
theorem dX0_plan_70 : decode cX0_plan 70 = .ok (.putfield 35, 3) := by decide +kernel
theorem dX0_plan_73 : decode cX0_plan 73 = .ok (.return_, 1) := by decide +kernel
set_option maxRecDepth 20000 in
theorem ggX0_weigh_X0_bestNext : GoodIn wsX0_weigh wsX0_bestNext := goodIn_r _ [6, 7, 8, 9, 5, 10, 11, 12, 13, 14, 15, 16, 17, 1, 18, 19, 20, 21, 22, 23, 24] rfl (by decide +kernel)
set_option maxRecDepth 20000 in
theorem gX0_weigh_X0_bestNext : GoodIn wsX0_weigh (wsV RX0 53 RX0 yX0_bestNext wsX0_bestNext) := goodIn_app (goodIn_of _ (by decide +kernel)) ggX0_weigh_X0_bestNext
set_option maxRecDepth 20000 in
theorem ggX0_weigh_X0_costsBy : GoodIn wsX0_weigh wsX0_costsBy := goodIn_r _ [14, 15, 16, 17, 1, 18, 19, 20, 21, 22, 23, 24] rfl (by decide +kernel)
set_option maxRecDepth 20000 in
theorem gX0_weigh_X0_costsBy : GoodIn wsX0_weigh (wsV RX0 57 RX0 yX0_costsBy wsX0_costsBy) := goodIn_app (goodIn_of _ (by decide +kernel)) ggX0_weigh_X0_costsBy
theorem dX0_weigh_0 : decode cX0_weigh 0 = .ok (.aload_n 0, 1) := by decide +kernel
theorem dX0_weigh_1 : decode cX0_weigh 1 = .ok (.iload_n 1, 1) := by decide +kernel
theorem dX0_weigh_2 : decode cX0_weigh 2 = .ok (.iload_n 2, 1) := by decide +kernel
theorem dX0_weigh_3 : decode cX0_weigh 3 = .ok (.invokevirtual 53, 3) := by decide +kernel
theorem dX0_weigh_6 : decode cX0_weigh 6 = .ok (.istore_n 3, 1) := by decide +kernel
theorem dX0_weigh_7 : decode cX0_weigh 7 = .ok (.aload_n 0, 1) := by decide +kernel
theorem dX0_weigh_8 : decode cX0_weigh 8 = .ok (.getfield 21, 3) := by decide +kernel
theorem dX0_weigh_11 : decode cX0_weigh 11 = .ok (.iload_n 1, 1) := by decide +kernel
theorem dX0_weigh_12 : decode cX0_weigh 12 = .ok (.bipush 8, 2) := by decide +kernel
theorem dX0_weigh_14 : decode cX0_weigh 14 = .ok (.imul, 1) := by decide +kernel
theorem dX0_weigh_15 : decode cX0_weigh 15 = .ok (.iload_n 2, 1) := by decide +kernel
theorem dX0_weigh_16 : decode cX0_weigh 16 = .ok (.iadd, 1) := by decide +kernel
theorem dX0_weigh_17 : decode cX0_weigh 17 = .ok (.iload_n 3, 1) := by decide +kernel
theorem dX0_weigh_18 : decode cX0_weigh 18 = .ok (.bipush (-6), 2) := by decide +kernel
theorem dX0_weigh_20 : decode cX0_weigh 20 = .ok (.if_icmp .ne 7, 3) := by decide +kernel
theorem dX0_weigh_23 : decode cX0_weigh 23 = .ok (.iconst 0, 1) := by decide +kernel
theorem dX0_weigh_24 : decode cX0_weigh 24 = .ok (.goto 10, 3) := by decide +kernel
theorem dX0_weigh_27 : decode cX0_weigh 27 = .ok (.aload_n 0, 1) := by decide +kernel
theorem dX0_weigh_28 : decode cX0_weigh 28 = .ok (.iload_n 1, 1) := by decide +kernel
theorem dX0_weigh_29 : decode cX0_weigh 29 = .ok (.iload_n 2, 1) := by decide +kernel
theorem dX0_weigh_30 : decode cX0_weigh 30 = .ok (.iload_n 3, 1) := by decide +kernel
theorem dX0_weigh_31 : decode cX0_weigh 31 = .ok (.invokevirtual 57, 3) := by decide +kernel
theorem dX0_weigh_34 : decode cX0_weigh 34 = .ok (.iastore, 1) := by decide +kernel
theorem dX0_weigh_35 : decode cX0_weigh 35 = .ok (.return_, 1) := by decide +kernel
set_option maxRecDepth 20000 in
theorem ggX0_walk_X0_bestNext : GoodIn wsX0_walk wsX0_bestNext := goodIn_r _ [7, 1, 8, 9, 6, 10, 11, 12, 13, 14, 15, 16, 17, 18, 19, 20, 21, 22, 23, 24, 25] rfl (by decide +kernel)
set_option maxRecDepth 20000 in
theorem gX0_walk_X0_bestNext : GoodIn wsX0_walk (wsV RX0 53 RX0 yX0_bestNext wsX0_bestNext) := goodIn_app (goodIn_of _ (by decide +kernel)) ggX0_walk_X0_bestNext
theorem dX0_walk_0 : decode cX0_walk 0 = .ok (.iconst 0, 1) := by decide +kernel
theorem dX0_walk_1 : decode cX0_walk 1 = .ok (.istore_n 1, 1) := by decide +kernel
theorem dX0_walk_2 : decode cX0_walk 2 = .ok (.bipush 7, 2) := by decide +kernel
theorem dX0_walk_4 : decode cX0_walk 4 = .ok (.istore_n 2, 1) := by decide +kernel
theorem dX0_walk_5 : decode cX0_walk 5 = .ok (.iconst 0, 1) := by decide +kernel
theorem dX0_walk_6 : decode cX0_walk 6 = .ok (.istore_n 3, 1) := by decide +kernel
theorem dX0_walk_7 : decode cX0_walk 7 = .ok (.iload_n 3, 1) := by decide +kernel
theorem dX0_walk_8 : decode cX0_walk 8 = .ok (.aload_n 0, 1) := by decide +kernel
theorem dX0_walk_9 : decode cX0_walk 9 = .ok (.getfield 31, 3) := by decide +kernel
theorem dX0_walk_12 : decode cX0_walk 12 = .ok (.if_icmp .ge 43, 3) := by decide +kernel
theorem dX0_walk_15 : decode cX0_walk 15 = .ok (.aload_n 0, 1) := by decide +kernel
theorem dX0_walk_16 : decode cX0_walk 16 = .ok (.iload_n 1, 1) := by decide +kernel
theorem dX0_walk_17 : decode cX0_walk 17 = .ok (.iload_n 2, 1) := by decide +kernel
theorem dX0_walk_18 : decode cX0_walk 18 = .ok (.invokevirtual 53, 3) := by decide +kernel
theorem dX0_walk_21 : decode cX0_walk 21 = .ok (.istore 4, 2) := by decide +kernel
theorem dX0_walk_23 : decode cX0_walk 23 = .ok (.iload 4, 2) := by decide +kernel
theorem dX0_walk_25 : decode cX0_walk 25 = .ok (.bipush (-6), 2) := by decide +kernel
theorem dX0_walk_27 : decode cX0_walk 27 = .ok (.if_icmp .ne 4, 3) := by decide +kernel
theorem dX0_walk_30 : decode cX0_walk 30 = .ok (.return_, 1) := by decide +kernel
theorem dX0_walk_31 : decode cX0_walk 31 = .ok (.aload_n 0, 1) := by decide +kernel
theorem dX0_walk_32 : decode cX0_walk 32 = .ok (.getfield 24, 3) := by decide +kernel
theorem dX0_walk_35 : decode cX0_walk 35 = .ok (.iload_n 3, 1) := by decide +kernel
theorem dX0_walk_36 : decode cX0_walk 36 = .ok (.iload 4, 2) := by decide +kernel
theorem dX0_walk_38 : decode cX0_walk 38 = .ok (.iastore, 1) := by decide +kernel
theorem dX0_walk_39 : decode cX0_walk 39 = .ok (.iload_n 1, 1) := by decide +kernel
theorem dX0_walk_40 : decode cX0_walk 40 = .ok (.iconst 1, 1) := by decide +kernel
theorem dX0_walk_41 : decode cX0_walk 41 = .ok (.iload 4, 2) := by decide +kernel
theorem dX0_walk_43 : decode cX0_walk 43 = .ok (.ishl, 1) := by decide +kernel
theorem dX0_walk_44 : decode cX0_walk 44 = .ok (.ior, 1) := by decide +kernel
theorem dX0_walk_45 : decode cX0_walk 45 = .ok (.istore_n 1, 1) := by decide +kernel
theorem dX0_walk_46 : decode cX0_walk 46 = .ok (.iload 4, 2) := by decide +kernel
theorem dX0_walk_48 : decode cX0_walk 48 = .ok (.istore_n 2, 1) := by decide +kernel
theorem dX0_walk_49 : decode cX0_walk 49 = .ok (.iinc 3 1, 3) := by decide +kernel
theorem dX0_walk_52 : decode cX0_walk 52 = .ok (.goto (-45), 3) := by decide +kernel
theorem dX0_walk_55 : decode cX0_walk 55 = .ok (.return_, 1) := by decide +kernel
set_option maxRecDepth 20000 in
theorem ggX0_bestNext_X0_holds : GoodIn wsX0_bestNext wsX0_holds := goodIn_r _ [5] rfl (by decide +kernel)
set_option maxRecDepth 20000 in
theorem gX0_bestNext_X0_holds : GoodIn wsX0_bestNext (va_wsS RX0 42 yX0_holds wsX0_holds) := goodIn_app (goodIn_of _ (by decide +kernel)) ggX0_bestNext_X0_holds
set_option maxRecDepth 20000 in
theorem ggX0_bestNext_X0_costsBy : GoodIn wsX0_bestNext wsX0_costsBy := goodIn_r _ [9, 10, 11, 12, 13, 14, 15, 16, 17, 18, 19, 20] rfl (by decide +kernel)
set_option maxRecDepth 20000 in
theorem gX0_bestNext_X0_costsBy : GoodIn wsX0_bestNext (wsV RX0 57 RX0 yX0_costsBy wsX0_costsBy) := goodIn_app (goodIn_of _ (by decide +kernel)) ggX0_bestNext_X0_costsBy
theorem dX0_bestNext_0 : decode cX0_bestNext 0 = .ok (.bipush (-6), 2) := by decide +kernel
theorem dX0_bestNext_2 : decode cX0_bestNext 2 = .ok (.istore_n 3, 1) := by decide +kernel
theorem dX0_bestNext_3 : decode cX0_bestNext 3 = .ok (.iconst 0, 1) := by decide +kernel
theorem dX0_bestNext_4 : decode cX0_bestNext 4 = .ok (.istore 4, 2) := by decide +kernel
theorem dX0_bestNext_6 : decode cX0_bestNext 6 = .ok (.iconst 0, 1) := by decide +kernel
theorem dX0_bestNext_7 : decode cX0_bestNext 7 = .ok (.istore 5, 2) := by decide +kernel
theorem dX0_bestNext_9 : decode cX0_bestNext 9 = .ok (.iload 5, 2) := by decide +kernel
theorem dX0_bestNext_11 : decode cX0_bestNext 11 = .ok (.aload_n 0, 1) := by decide +kernel
theorem dX0_bestNext_12 : decode cX0_bestNext 12 = .ok (.getfield 31, 3) := by decide +kernel
theorem dX0_bestNext_15 : decode cX0_bestNext 15 = .ok (.if_icmp .ge 48, 3) := by decide +kernel
theorem dX0_bestNext_18 : decode cX0_bestNext 18 = .ok (.iload_n 1, 1) := by decide +kernel
theorem dX0_bestNext_19 : decode cX0_bestNext 19 = .ok (.iload 5, 2) := by decide +kernel
theorem dX0_bestNext_21 : decode cX0_bestNext 21 = .ok (.invokestatic 42, 3) := by decide +kernel
theorem dX0_bestNext_24 : decode cX0_bestNext 24 = .ok (.ifCond .ne 33, 3) := by decide +kernel
theorem dX0_bestNext_27 : decode cX0_bestNext 27 = .ok (.aload_n 0, 1) := by decide +kernel
theorem dX0_bestNext_28 : decode cX0_bestNext 28 = .ok (.iload_n 1, 1) := by decide +kernel
theorem dX0_bestNext_29 : decode cX0_bestNext 29 = .ok (.iload_n 2, 1) := by decide +kernel
theorem dX0_bestNext_30 : decode cX0_bestNext 30 = .ok (.iload 5, 2) := by decide +kernel
theorem dX0_bestNext_32 : decode cX0_bestNext 32 = .ok (.invokevirtual 57, 3) := by decide +kernel
theorem dX0_bestNext_35 : decode cX0_bestNext 35 = .ok (.istore 6, 2) := by decide +kernel
theorem dX0_bestNext_37 : decode cX0_bestNext 37 = .ok (.iload_n 3, 1) := by decide +kernel
theorem dX0_bestNext_38 : decode cX0_bestNext 38 = .ok (.bipush (-6), 2) := by decide +kernel
theorem dX0_bestNext_40 : decode cX0_bestNext 40 = .ok (.if_icmp .eq 10, 3) := by decide +kernel
theorem dX0_bestNext_43 : decode cX0_bestNext 43 = .ok (.iload 6, 2) := by decide +kernel
theorem dX0_bestNext_45 : decode cX0_bestNext 45 = .ok (.iload 4, 2) := by decide +kernel
theorem dX0_bestNext_47 : decode cX0_bestNext 47 = .ok (.if_icmp .ge 10, 3) := by decide +kernel
theorem dX0_bestNext_50 : decode cX0_bestNext 50 = .ok (.iload 5, 2) := by decide +kernel
theorem dX0_bestNext_52 : decode cX0_bestNext 52 = .ok (.istore_n 3, 1) := by decide +kernel
theorem dX0_bestNext_53 : decode cX0_bestNext 53 = .ok (.iload 6, 2) := by decide +kernel
theorem dX0_bestNext_55 : decode cX0_bestNext 55 = .ok (.istore 4, 2) := by decide +kernel
theorem dX0_bestNext_57 : decode cX0_bestNext 57 = .ok (.iinc 5 1, 3) := by decide +kernel
theorem dX0_bestNext_60 : decode cX0_bestNext 60 = .ok (.goto (-51), 3) := by decide +kernel
theorem dX0_bestNext_63 : decode cX0_bestNext 63 = .ok (.iload_n 3, 1) := by decide +kernel
theorem dX0_bestNext_64 : decode cX0_bestNext 64 = .ok (.ireturn, 1) := by decide +kernel
theorem dX0_costsBy_0 : decode cX0_costsBy 0 = .ok (.aload_n 0, 1) := by decide +kernel
theorem dX0_costsBy_1 : decode cX0_costsBy 1 = .ok (.getfield 18, 3) := by decide +kernel
theorem dX0_costsBy_4 : decode cX0_costsBy 4 = .ok (.aload_n 0, 1) := by decide +kernel
theorem dX0_costsBy_5 : decode cX0_costsBy 5 = .ok (.getfield 11, 3) := by decide +kernel
theorem dX0_costsBy_8 : decode cX0_costsBy 8 = .ok (.iload_n 2, 1) := by decide +kernel
theorem dX0_costsBy_9 : decode cX0_costsBy 9 = .ok (.iaload, 1) := by decide +kernel
theorem dX0_costsBy_10 : decode cX0_costsBy 10 = .ok (.iconst 4, 1) := by decide +kernel
theorem dX0_costsBy_11 : decode cX0_costsBy 11 = .ok (.imul, 1) := by decide +kernel
theorem dX0_costsBy_12 : decode cX0_costsBy 12 = .ok (.aload_n 0, 1) := by decide +kernel
theorem dX0_costsBy_13 : decode cX0_costsBy 13 = .ok (.getfield 11, 3) := by decide +kernel
theorem dX0_costsBy_16 : decode cX0_costsBy 16 = .ok (.iload_n 3, 1) := by decide +kernel
theorem dX0_costsBy_17 : decode cX0_costsBy 17 = .ok (.iaload, 1) := by decide +kernel
theorem dX0_costsBy_18 : decode cX0_costsBy 18 = .ok (.iadd, 1) := by decide +kernel
theorem dX0_costsBy_19 : decode cX0_costsBy 19 = .ok (.iaload, 1) := by decide +kernel
theorem dX0_costsBy_20 : decode cX0_costsBy 20 = .ok (.istore 4, 2) := by decide +kernel
theorem dX0_costsBy_22 : decode cX0_costsBy 22 = .ok (.aload_n 0, 1) := by decide +kernel
theorem dX0_costsBy_23 : decode cX0_costsBy 23 = .ok (.getfield 15, 3) := by decide +kernel
theorem dX0_costsBy_26 : decode cX0_costsBy 26 = .ok (.iload_n 2, 1) := by decide +kernel
theorem dX0_costsBy_27 : decode cX0_costsBy 27 = .ok (.iaload, 1) := by decide +kernel
theorem dX0_costsBy_28 : decode cX0_costsBy 28 = .ok (.aload_n 0, 1) := by decide +kernel
theorem dX0_costsBy_29 : decode cX0_costsBy 29 = .ok (.getfield 15, 3) := by decide +kernel
theorem dX0_costsBy_32 : decode cX0_costsBy 32 = .ok (.iload_n 3, 1) := by decide +kernel
theorem dX0_costsBy_33 : decode cX0_costsBy 33 = .ok (.iaload, 1) := by decide +kernel
theorem dX0_costsBy_34 : decode cX0_costsBy 34 = .ok (.if_icmp .ne 7, 3) := by decide +kernel
theorem dX0_costsBy_37 : decode cX0_costsBy 37 = .ok (.iconst 0, 1) := by decide +kernel
theorem dX0_costsBy_38 : decode cX0_costsBy 38 = .ok (.goto 4, 3) := by decide +kernel
theorem dX0_costsBy_41 : decode cX0_costsBy 41 = .ok (.iconst 5, 1) := by decide +kernel
theorem dX0_costsBy_42 : decode cX0_costsBy 42 = .ok (.istore 5, 2) := by decide +kernel
theorem dX0_costsBy_44 : decode cX0_costsBy 44 = .ok (.iload 4, 2) := by decide +kernel
theorem dX0_costsBy_46 : decode cX0_costsBy 46 = .ok (.iload 5, 2) := by decide +kernel
theorem dX0_costsBy_48 : decode cX0_costsBy 48 = .ok (.iadd, 1) := by decide +kernel
theorem dX0_costsBy_49 : decode cX0_costsBy 49 = .ok (.aload_n 0, 1) := by decide +kernel
theorem dX0_costsBy_50 : decode cX0_costsBy 50 = .ok (.getfield 21, 3) := by decide +kernel
theorem dX0_costsBy_53 : decode cX0_costsBy 53 = .ok (.iload_n 1, 1) := by decide +kernel
theorem dX0_costsBy_54 : decode cX0_costsBy 54 = .ok (.iconst 1, 1) := by decide +kernel
theorem dX0_costsBy_55 : decode cX0_costsBy 55 = .ok (.iload_n 3, 1) := by decide +kernel
theorem dX0_costsBy_56 : decode cX0_costsBy 56 = .ok (.ishl, 1) := by decide +kernel
theorem dX0_costsBy_57 : decode cX0_costsBy 57 = .ok (.ior, 1) := by decide +kernel
theorem dX0_costsBy_58 : decode cX0_costsBy 58 = .ok (.bipush 8, 2) := by decide +kernel
theorem dX0_costsBy_60 : decode cX0_costsBy 60 = .ok (.imul, 1) := by decide +kernel
theorem dX0_costsBy_61 : decode cX0_costsBy 61 = .ok (.iload_n 3, 1) := by decide +kernel
theorem dX0_costsBy_62 : decode cX0_costsBy 62 = .ok (.iadd, 1) := by decide +kernel
theorem dX0_costsBy_63 : decode cX0_costsBy 63 = .ok (.iaload, 1) := by decide +kernel
theorem dX0_costsBy_64 : decode cX0_costsBy 64 = .ok (.iadd, 1) := by decide +kernel
theorem dX0_costsBy_65 : decode cX0_costsBy 65 = .ok (.ireturn, 1) := by decide +kernel
theorem dX0_holds_0 : decode cX0_holds 0 = .ok (.iload_n 0, 1) := by decide +kernel
theorem dX0_holds_1 : decode cX0_holds 1 = .ok (.iload_n 1, 1) := by decide +kernel
theorem dX0_holds_2 : decode cX0_holds 2 = .ok (.ishr, 1) := by decide +kernel
theorem dX0_holds_3 : decode cX0_holds 3 = .ok (.iconst 1, 1) := by decide +kernel
theorem dX0_holds_4 : decode cX0_holds 4 = .ok (.iand, 1) := by decide +kernel
theorem dX0_holds_5 : decode cX0_holds 5 = .ok (.iconst 1, 1) := by decide +kernel
theorem dX0_holds_6 : decode cX0_holds 6 = .ok (.if_icmp .ne 7, 3) := by decide +kernel
theorem dX0_holds_9 : decode cX0_holds 9 = .ok (.iconst 1, 1) := by decide +kernel
theorem dX0_holds_10 : decode cX0_holds 10 = .ok (.goto 4, 3) := by decide +kernel
theorem dX0_holds_13 : decode cX0_holds 13 = .ok (.iconst 0, 1) := by decide +kernel
theorem dX0_holds_14 : decode cX0_holds 14 = .ok (.ireturn, 1) := by decide +kernel
theorem dX1_init_0 : decode cX1_init 0 = .ok (.aload_n 0, 1) := by decide +kernel
theorem dX1_init_1 : decode cX1_init 1 = .ok (.invokespecial 3, 3) := by decide +kernel
theorem dX1_init_4 : decode cX1_init 4 = .ok (.aload_n 0, 1) := by decide +kernel
theorem dX1_init_5 : decode cX1_init 5 = .ok (.bipush 8, 2) := by decide +kernel
theorem dX1_init_7 : decode cX1_init 7 = .ok (.newarray .int, 2) := by decide +kernel
theorem dX1_init_9 : decode cX1_init 9 = .ok (.putfield 11, 3) := by decide +kernel
theorem dX1_init_12 : decode cX1_init 12 = .ok (.aload_n 0, 1) := by decide +kernel
theorem dX1_init_13 : decode cX1_init 13 = .ok (.bipush 8, 2) := by decide +kernel
theorem dX1_init_15 : decode cX1_init 15 = .ok (.newarray .int, 2) := by decide +kernel
theorem dX1_init_17 : decode cX1_init 17 = .ok (.putfield 15, 3) := by decide +kernel
theorem dX1_init_20 : decode cX1_init 20 = .ok (.aload_n 0, 1) := by decide +kernel
theorem dX1_init_21 : decode cX1_init 21 = .ok (.bipush 8, 2) := by decide +kernel
theorem dX1_init_23 : decode cX1_init 23 = .ok (.newarray .int, 2) := by decide +kernel
theorem dX1_init_25 : decode cX1_init 25 = .ok (.putfield 18, 3) := by decide +kernel
theorem dX1_init_28 : decode cX1_init 28 = .ok (.aload_n 0, 1) := by decide +kernel
theorem dX1_init_29 : decode cX1_init 29 = .ok (.bipush 8, 2) := by decide +kernel
theorem dX1_init_31 : decode cX1_init 31 = .ok (.newarray .int, 2) := by decide +kernel
theorem dX1_init_33 : decode cX1_init 33 = .ok (.putfield 21, 3) := by decide +kernel
theorem dX1_init_36 : decode cX1_init 36 = .ok (.return_, 1) := by decide +kernel
set_option maxRecDepth 20000 in
theorem ggX1_isPlace_X7_within : GoodIn wsX1_isPlace wsX7_within := goodIn_r _ [3] rfl (by decide +kernel)
set_option maxRecDepth 20000 in
theorem gX1_isPlace_X7_within_n24 : GoodIn wsX1_isPlace (wsX7_within) := ggX1_isPlace_X7_within
theorem dX1_isPlace_0 : decode cX1_isPlace 0 = .ok (.iload_n 0, 1) := by decide +kernel
theorem dX1_isPlace_1 : decode cX1_isPlace 1 = .ok (.sipush (-1000), 3) := by decide +kernel
theorem dX1_isPlace_4 : decode cX1_isPlace 4 = .ok (.sipush 1000, 3) := by decide +kernel
theorem dX1_isPlace_7 : decode cX1_isPlace 7 = .ok (.invokestatic 24, 3) := by decide +kernel
theorem dX1_isPlace_10 : decode cX1_isPlace 10 = .ok (.ireturn, 1) := by decide +kernel
set_option maxRecDepth 20000 in
theorem ggX1_isOffset_X7_within : GoodIn wsX1_isOffset wsX7_within := goodIn_r _ [3] rfl (by decide +kernel)
set_option maxRecDepth 20000 in
theorem gX1_isOffset_X7_within_n24 : GoodIn wsX1_isOffset (wsX7_within) := ggX1_isOffset_X7_within
theorem dX1_isOffset_0 : decode cX1_isOffset 0 = .ok (.iload_n 0, 1) := by decide +kernel
theorem dX1_isOffset_1 : decode cX1_isOffset 1 = .ok (.bipush (-100), 2) := by decide +kernel
theorem dX1_isOffset_3 : decode cX1_isOffset 3 = .ok (.bipush 100, 2) := by decide +kernel
theorem dX1_isOffset_5 : decode cX1_isOffset 5 = .ok (.invokestatic 24, 3) := by decide +kernel
theorem dX1_isOffset_8 : decode cX1_isOffset 8 = .ok (.ireturn, 1) := by decide +kernel
theorem dX1_has_0 : decode cX1_has 0 = .ok (.iload_n 1, 1) := by decide +kernel
theorem dX1_has_1 : decode cX1_has 1 = .ok (.ifCond .lt 15, 3) := by decide +kernel
theorem dX1_has_4 : decode cX1_has 4 = .ok (.iload_n 1, 1) := by decide +kernel
theorem dX1_has_5 : decode cX1_has 5 = .ok (.aload_n 0, 1) := by decide +kernel
theorem dX1_has_6 : decode cX1_has 6 = .ok (.getfield 28, 3) := by decide +kernel
theorem dX1_has_9 : decode cX1_has 9 = .ok (.if_icmp .ge 7, 3) := by decide +kernel
theorem dX1_has_12 : decode cX1_has 12 = .ok (.iconst 1, 1) := by decide +kernel
theorem dX1_has_13 : decode cX1_has 13 = .ok (.goto 4, 3) := by decide +kernel
theorem dX1_has_16 : decode cX1_has 16 = .ok (.iconst 0, 1) := by decide +kernel
theorem dX1_has_17 : decode cX1_has 17 = .ok (.ireturn, 1) := by decide +kernel
theorem dX1_isFull_0 : decode cX1_isFull 0 = .ok (.aload_n 0, 1) := by decide +kernel
theorem dX1_isFull_1 : decode cX1_isFull 1 = .ok (.getfield 28, 3) := by decide +kernel
theorem dX1_isFull_4 : decode cX1_isFull 4 = .ok (.bipush 8, 2) := by decide +kernel
theorem dX1_isFull_6 : decode cX1_isFull 6 = .ok (.if_icmp .lt 7, 3) := by decide +kernel
theorem dX1_isFull_9 : decode cX1_isFull 9 = .ok (.iconst 1, 1) := by decide +kernel
theorem dX1_isFull_10 : decode cX1_isFull 10 = .ok (.goto 4, 3) := by decide +kernel
theorem dX1_isFull_13 : decode cX1_isFull 13 = .ok (.iconst 0, 1) := by decide +kernel
theorem dX1_isFull_14 : decode cX1_isFull 14 = .ok (.ireturn, 1) := by decide +kernel
theorem dX1_add_0 : decode cX1_add 0 = .ok (.aload_n 0, 1) := by decide +kernel
theorem dX1_add_1 : decode cX1_add 1 = .ok (.getfield 11, 3) := by decide +kernel
theorem dX1_add_4 : decode cX1_add 4 = .ok (.aload_n 0, 1) := by decide +kernel
theorem dX1_add_5 : decode cX1_add 5 = .ok (.getfield 28, 3) := by decide +kernel
theorem dX1_add_8 : decode cX1_add 8 = .ok (.iload_n 1, 1) := by decide +kernel
theorem dX1_add_9 : decode cX1_add 9 = .ok (.iastore, 1) := by decide +kernel
theorem dX1_add_10 : decode cX1_add 10 = .ok (.aload_n 0, 1) := by decide +kernel
theorem dX1_add_11 : decode cX1_add 11 = .ok (.getfield 15, 3) := by decide +kernel
theorem dX1_add_14 : decode cX1_add 14 = .ok (.aload_n 0, 1) := by decide +kernel
theorem dX1_add_15 : decode cX1_add 15 = .ok (.getfield 28, 3) := by decide +kernel
theorem dX1_add_18 : decode cX1_add 18 = .ok (.iload_n 2, 1) := by decide +kernel
theorem dX1_add_19 : decode cX1_add 19 = .ok (.iastore, 1) := by decide +kernel
theorem dX1_add_20 : decode cX1_add 20 = .ok (.aload_n 0, 1) := by decide +kernel
theorem dX1_add_21 : decode cX1_add 21 = .ok (.getfield 18, 3) := by decide +kernel
theorem dX1_add_24 : decode cX1_add 24 = .ok (.aload_n 0, 1) := by decide +kernel
theorem dX1_add_25 : decode cX1_add 25 = .ok (.getfield 28, 3) := by decide +kernel
theorem dX1_add_28 : decode cX1_add 28 = .ok (.iload_n 3, 1) := by decide +kernel
theorem dX1_add_29 : decode cX1_add 29 = .ok (.iastore, 1) := by decide +kernel
theorem dX1_add_30 : decode cX1_add 30 = .ok (.aload_n 0, 1) := by decide +kernel
theorem dX1_add_31 : decode cX1_add 31 = .ok (.getfield 21, 3) := by decide +kernel
theorem dX1_add_34 : decode cX1_add 34 = .ok (.aload_n 0, 1) := by decide +kernel
theorem dX1_add_35 : decode cX1_add 35 = .ok (.getfield 28, 3) := by decide +kernel
theorem dX1_add_38 : decode cX1_add 38 = .ok (.iload 4, 2) := by decide +kernel
theorem dX1_add_40 : decode cX1_add 40 = .ok (.iastore, 1) := by decide +kernel
theorem dX1_add_41 : decode cX1_add 41 = .ok (.aload_n 0, 1) := by decide +kernel
theorem dX1_add_42 : decode cX1_add 42 = .ok (.dup, 1) := by decide +kernel
theorem dX1_add_43 : decode cX1_add 43 = .ok (.getfield 28, 3) := by decide +kernel
theorem dX1_add_46 : decode cX1_add 46 = .ok (.iconst 1, 1) := by decide +kernel
theorem dX1_add_47 : decode cX1_add 47 = .ok (.iadd, 1) := by decide +kernel
theorem dX1_add_48 : decode cX1_add 48 = .ok (.putfield 28, 3) := by decide +kernel
theorem dX1_add_51 : decode cX1_add 51 = .ok (.aload_n 0, 1) := by decide +kernel
theorem dX1_add_52 : decode cX1_add 52 = .ok (.dup, 1) := by decide +kernel
theorem dX1_add_53 : decode cX1_add 53 = .ok (.getfield 32, 3) := by decide +kernel
theorem dX1_add_56 : decode cX1_add 56 = .ok (.iload_n 1, 1) := by decide +kernel
theorem dX1_add_57 : decode cX1_add 57 = .ok (.i2l, 1) := by decide +kernel
theorem dX1_add_58 : decode cX1_add 58 = .ok (.ladd, 1) := by decide +kernel
theorem dX1_add_59 : decode cX1_add 59 = .ok (.putfield 32, 3) := by decide +kernel
theorem dX1_add_62 : decode cX1_add 62 = .ok (.aload_n 0, 1) := by decide +kernel
theorem dX1_add_63 : decode cX1_add 63 = .ok (.dup, 1) := by decide +kernel
theorem dX1_add_64 : decode cX1_add 64 = .ok (.getfield 36, 3) := by decide +kernel
theorem dX1_add_67 : decode cX1_add 67 = .ok (.iload_n 2, 1) := by decide +kernel
theorem dX1_add_68 : decode cX1_add 68 = .ok (.i2l, 1) := by decide +kernel
theorem dX1_add_69 : decode cX1_add 69 = .ok (.ladd, 1) := by decide +kernel
theorem dX1_add_70 : decode cX1_add 70 = .ok (.putfield 36, 3) := by decide +kernel
theorem dX1_add_73 : decode cX1_add 73 = .ok (.aload_n 0, 1) := by decide +kernel
theorem dX1_add_74 : decode cX1_add 74 = .ok (.dup, 1) := by decide +kernel
theorem dX1_add_75 : decode cX1_add 75 = .ok (.getfield 39, 3) := by decide +kernel
theorem dX1_add_78 : decode cX1_add 78 = .ok (.iload_n 3, 1) := by decide +kernel
theorem dX1_add_79 : decode cX1_add 79 = .ok (.i2l, 1) := by decide +kernel
theorem dX1_add_80 : decode cX1_add 80 = .ok (.ladd, 1) := by decide +kernel
theorem dX1_add_81 : decode cX1_add 81 = .ok (.putfield 39, 3) := by decide +kernel
theorem dX1_add_84 : decode cX1_add 84 = .ok (.aload_n 0, 1) := by decide +kernel
theorem dX1_add_85 : decode cX1_add 85 = .ok (.dup, 1) := by decide +kernel
theorem dX1_add_86 : decode cX1_add 86 = .ok (.getfield 42, 3) := by decide +kernel
theorem dX1_add_89 : decode cX1_add 89 = .ok (.iload 4, 2) := by decide +kernel
theorem dX1_add_91 : decode cX1_add 91 = .ok (.i2l, 1) := by decide +kernel
theorem dX1_add_92 : decode cX1_add 92 = .ok (.ladd, 1) := by decide +kernel
theorem dX1_add_93 : decode cX1_add 93 = .ok (.putfield 42, 3) := by decide +kernel
theorem dX1_add_96 : decode cX1_add 96 = .ok (.aload_n 0, 1) := by decide +kernel
theorem dX1_add_97 : decode cX1_add 97 = .ok (.dup, 1) := by decide +kernel
theorem dX1_add_98 : decode cX1_add 98 = .ok (.getfield 45, 3) := by decide +kernel
theorem dX1_add_101 : decode cX1_add 101 = .ok (.iload_n 1, 1) := by decide +kernel
theorem dX1_add_102 : decode cX1_add 102 = .ok (.iload_n 1, 1) := by decide +kernel
theorem dX1_add_103 : decode cX1_add 103 = .ok (.imul, 1) := by decide +kernel
theorem dX1_add_104 : decode cX1_add 104 = .ok (.iload_n 2, 1) := by decide +kernel
theorem dX1_add_105 : decode cX1_add 105 = .ok (.iload_n 2, 1) := by decide +kernel
theorem dX1_add_106 : decode cX1_add 106 = .ok (.imul, 1) := by decide +kernel
theorem dX1_add_107 : decode cX1_add 107 = .ok (.iadd, 1) := by decide +kernel
theorem dX1_add_108 : decode cX1_add 108 = .ok (.i2l, 1) := by decide +kernel
theorem dX1_add_109 : decode cX1_add 109 = .ok (.ladd, 1) := by decide +kernel
theorem dX1_add_110 : decode cX1_add 110 = .ok (.putfield 45, 3) := by decide +kernel
theorem dX1_add_113 : decode cX1_add 113 = .ok (.aload_n 0, 1) := by decide +kernel
theorem dX1_add_114 : decode cX1_add 114 = .ok (.dup, 1) := by decide +kernel
theorem dX1_add_115 : decode cX1_add 115 = .ok (.getfield 48, 3) := by decide +kernel
theorem dX1_add_118 : decode cX1_add 118 = .ok (.iload_n 1, 1) := by decide +kernel
theorem dX1_add_119 : decode cX1_add 119 = .ok (.iload_n 3, 1) := by decide +kernel
theorem dX1_add_120 : decode cX1_add 120 = .ok (.imul, 1) := by decide +kernel
theorem dX1_add_121 : decode cX1_add 121 = .ok (.iload_n 2, 1) := by decide +kernel
theorem dX1_add_122 : decode cX1_add 122 = .ok (.iload 4, 2) := by decide +kernel
theorem dX1_add_124 : decode cX1_add 124 = .ok (.imul, 1) := by decide +kernel
theorem dX1_add_125 : decode cX1_add 125 = .ok (.iadd, 1) := by decide +kernel
theorem dX1_add_126 : decode cX1_add 126 = .ok (.i2l, 1) := by decide +kernel
theorem dX1_add_127 : decode cX1_add 127 = .ok (.ladd, 1) := by decide +kernel
theorem dX1_add_128 : decode cX1_add 128 = .ok (.putfield 48, 3) := by decide +kernel
theorem dX1_add_131 : decode cX1_add 131 = .ok (.aload_n 0, 1) := by decide +kernel
theorem dX1_add_132 : decode cX1_add 132 = .ok (.dup, 1) := by decide +kernel
theorem dX1_add_133 : decode cX1_add 133 = .ok (.getfield 51, 3) := by decide +kernel
theorem dX1_add_136 : decode cX1_add 136 = .ok (.iload_n 1, 1) := by decide +kernel
theorem dX1_add_137 : decode cX1_add 137 = .ok (.iload 4, 2) := by decide +kernel
theorem dX1_add_139 : decode cX1_add 139 = .ok (.imul, 1) := by decide +kernel
theorem dX1_add_140 : decode cX1_add 140 = .ok (.iload_n 2, 1) := by decide +kernel
theorem dX1_add_141 : decode cX1_add 141 = .ok (.iload_n 3, 1) := by decide +kernel
theorem dX1_add_142 : decode cX1_add 142 = .ok (.imul, 1) := by decide +kernel
theorem dX1_add_143 : decode cX1_add 143 = .ok (.isub, 1) := by decide +kernel
theorem dX1_add_144 : decode cX1_add 144 = .ok (.i2l, 1) := by decide +kernel
theorem dX1_add_145 : decode cX1_add 145 = .ok (.ladd, 1) := by decide +kernel
theorem dX1_add_146 : decode cX1_add 146 = .ok (.putfield 51, 3) := by decide +kernel
theorem dX1_add_149 : decode cX1_add 149 = .ok (.aload_n 0, 1) := by decide +kernel
theorem dX1_add_150 : decode cX1_add 150 = .ok (.getfield 28, 3) := by decide +kernel
theorem dX1_add_153 : decode cX1_add 153 = .ok (.ireturn, 1) := by decide +kernel
theorem dX1_removeAll_0 : decode cX1_removeAll 0 = .ok (.aload_n 0, 1) := by decide +kernel
theorem dX1_removeAll_1 : decode cX1_removeAll 1 = .ok (.getfield 28, 3) := by decide +kernel
theorem dX1_removeAll_4 : decode cX1_removeAll 4 = .ok (.istore_n 1, 1) := by decide +kernel
theorem dX1_removeAll_5 : decode cX1_removeAll 5 = .ok (.aload_n 0, 1) := by decide +kernel
theorem dX1_removeAll_6 : decode cX1_removeAll 6 = .ok (.iconst 0, 1) := by decide +kernel
theorem dX1_removeAll_7 : decode cX1_removeAll 7 = .ok (.putfield 28, 3) := by decide +kernel
theorem dX1_removeAll_10 : decode cX1_removeAll 10 = .ok (.aload_n 0, 1) := by decide +kernel
theorem dX1_removeAll_11 : decode cX1_removeAll 11 = .ok (.lconst 0, 1) := by decide +kernel
theorem dX1_removeAll_12 : decode cX1_removeAll 12 = .ok (.putfield 32, 3) := by decide +kernel
theorem dX1_removeAll_15 : decode cX1_removeAll 15 = .ok (.aload_n 0, 1) := by decide +kernel
theorem dX1_removeAll_16 : decode cX1_removeAll 16 = .ok (.lconst 0, 1) := by decide +kernel
theorem dX1_removeAll_17 : decode cX1_removeAll 17 = .ok (.putfield 36, 3) := by decide +kernel
theorem dX1_removeAll_20 : decode cX1_removeAll 20 = .ok (.aload_n 0, 1) := by decide +kernel
theorem dX1_removeAll_21 : decode cX1_removeAll 21 = .ok (.lconst 0, 1) := by decide +kernel
theorem dX1_removeAll_22 : decode cX1_removeAll 22 = .ok (.putfield 39, 3) := by decide +kernel
theorem dX1_removeAll_25 : decode cX1_removeAll 25 = .ok (.aload_n 0, 1) := by decide +kernel
theorem dX1_removeAll_26 : decode cX1_removeAll 26 = .ok (.lconst 0, 1) := by decide +kernel
theorem dX1_removeAll_27 : decode cX1_removeAll 27 = .ok (.putfield 42, 3) := by decide +kernel
theorem dX1_removeAll_30 : decode cX1_removeAll 30 = .ok (.aload_n 0, 1) := by decide +kernel
theorem dX1_removeAll_31 : decode cX1_removeAll 31 = .ok (.lconst 0, 1) := by decide +kernel
theorem dX1_removeAll_32 : decode cX1_removeAll 32 = .ok (.putfield 45, 3) := by decide +kernel
theorem dX1_removeAll_35 : decode cX1_removeAll 35 = .ok (.aload_n 0, 1) := by decide +kernel
theorem dX1_removeAll_36 : decode cX1_removeAll 36 = .ok (.lconst 0, 1) := by decide +kernel
theorem dX1_removeAll_37 : decode cX1_removeAll 37 = .ok (.putfield 48, 3) := by decide +kernel
theorem dX1_removeAll_40 : decode cX1_removeAll 40 = .ok (.aload_n 0, 1) := by decide +kernel
theorem dX1_removeAll_41 : decode cX1_removeAll 41 = .ok (.lconst 0, 1) := by decide +kernel
theorem dX1_removeAll_42 : decode cX1_removeAll 42 = .ok (.putfield 51, 3) := by decide +kernel
theorem dX1_removeAll_45 : decode cX1_removeAll 45 = .ok (.iload_n 1, 1) := by decide +kernel
theorem dX1_removeAll_46 : decode cX1_removeAll 46 = .ok (.ireturn, 1) := by decide +kernel
set_option maxRecDepth 20000 in
theorem ggX1_isTold_X1_spread : GoodIn wsX1_isTold wsX1_spread := goodIn_r _ [5, 6, 7, 8, 9, 10, 11, 12, 13, 14, 15, 16, 17, 18, 19, 20, 21] rfl (by decide +kernel)
set_option maxRecDepth 20000 in
theorem gX1_isTold_X1_spread : GoodIn wsX1_isTold (wsV RX1 54 RX1 yX1_spread wsX1_spread) := goodIn_app (goodIn_of _ (by decide +kernel)) ggX1_isTold_X1_spread
theorem dX1_isTold_0 : decode cX1_isTold 0 = .ok (.aload_n 0, 1) := by decide +kernel
theorem dX1_isTold_1 : decode cX1_isTold 1 = .ok (.invokevirtual 54, 3) := by decide +kernel
theorem dX1_isTold_4 : decode cX1_isTold 4 = .ok (.lconst 0, 1) := by decide +kernel
theorem dX1_isTold_5 : decode cX1_isTold 5 = .ok (.lcmp, 1) := by decide +kernel
theorem dX1_isTold_6 : decode cX1_isTold 6 = .ok (.ifCond .le 7, 3) := by decide +kernel
theorem dX1_isTold_9 : decode cX1_isTold 9 = .ok (.iconst 1, 1) := by decide +kernel
theorem dX1_isTold_10 : decode cX1_isTold 10 = .ok (.goto 4, 3) := by decide +kernel
theorem dX1_isTold_13 : decode cX1_isTold 13 = .ok (.iconst 0, 1) := by decide +kernel
theorem dX1_isTold_14 : decode cX1_isTold 14 = .ok (.ireturn, 1) := by decide +kernel
set_option maxRecDepth 20000 in
theorem ggX1_upper_X1_stretch : GoodIn wsX1_upper wsX1_stretch := goodIn_r _ [5, 6, 7, 8, 9, 10, 11, 30, 31, 32, 33, 34, 35, 36, 37, 38, 39, 40, 41] rfl (by decide +kernel)
set_option maxRecDepth 20000 in
theorem gX1_upper_X1_stretch : GoodIn wsX1_upper (wsV RX1 58 RX1 yX1_stretch wsX1_stretch) := goodIn_app (goodIn_of _ (by decide +kernel)) ggX1_upper_X1_stretch
set_option maxRecDepth 20000 in
theorem ggX1_upper_X1_turn : GoodIn wsX1_upper wsX1_turn := goodIn_r _ [15, 6, 16, 8, 11, 10, 9, 30, 31, 32, 33, 34, 35, 36, 37, 38, 39, 40, 41] rfl (by decide +kernel)
set_option maxRecDepth 20000 in
theorem gX1_upper_X1_turn : GoodIn wsX1_upper (wsV RX1 61 RX1 yX1_turn wsX1_turn) := goodIn_app (goodIn_of _ (by decide +kernel)) ggX1_upper_X1_turn
set_option maxRecDepth 20000 in
theorem ggX1_upper_X1_across : GoodIn wsX1_upper wsX1_across := goodIn_r _ [20, 9, 8, 10, 21, 22, 23, 4, 24, 6, 25, 1, 2, 3, 5, 7, 11, 12, 13, 14, 15, 16, 30, 31, 32, 33, 34, 35, 36, 37, 38, 39, 40, 41] rfl (by decide +kernel)
set_option maxRecDepth 20000 in
theorem gX1_upper_X1_across : GoodIn wsX1_upper (wsV RX1 64 RX1 yX1_across wsX1_across) := goodIn_app (goodIn_of _ (by decide +kernel)) ggX1_upper_X1_across
set_option maxRecDepth 20000 in
theorem ggX1_upper_X1_up : GoodIn wsX1_upper wsX1_up := goodIn_r _ [29, 11, 10, 8, 21, 22, 23, 4, 24, 6, 25, 1, 2, 3, 5, 7, 9, 12, 13, 14, 15, 16, 30, 31, 32, 33, 34, 35, 36, 37, 38, 39, 40, 41] rfl (by decide +kernel)
set_option maxRecDepth 20000 in
theorem gX1_upper_X1_up : GoodIn wsX1_upper (wsV RX1 67 RX1 yX1_up wsX1_up) := goodIn_app (goodIn_of _ (by decide +kernel)) ggX1_upper_X1_up
theorem dX1_upper_0 : decode cX1_upper 0 = .ok (.iload_n 1, 1) := by decide +kernel
theorem dX1_upper_1 : decode cX1_upper 1 = .ok (.tableswitch 42 0 2 #[27, 32, 37], 27) := by decide +kernel
theorem dX1_upper_28 : decode cX1_upper 28 = .ok (.aload_n 0, 1) := by decide +kernel
theorem dX1_upper_29 : decode cX1_upper 29 = .ok (.invokevirtual 58, 3) := by decide +kernel
theorem dX1_upper_32 : decode cX1_upper 32 = .ok (.lreturn, 1) := by decide +kernel
theorem dX1_upper_33 : decode cX1_upper 33 = .ok (.aload_n 0, 1) := by decide +kernel
theorem dX1_upper_34 : decode cX1_upper 34 = .ok (.invokevirtual 61, 3) := by decide +kernel
theorem dX1_upper_37 : decode cX1_upper 37 = .ok (.lreturn, 1) := by decide +kernel
theorem dX1_upper_38 : decode cX1_upper 38 = .ok (.aload_n 0, 1) := by decide +kernel
theorem dX1_upper_39 : decode cX1_upper 39 = .ok (.invokevirtual 64, 3) := by decide +kernel
theorem dX1_upper_42 : decode cX1_upper 42 = .ok (.lreturn, 1) := by decide +kernel
theorem dX1_upper_43 : decode cX1_upper 43 = .ok (.aload_n 0, 1) := by decide +kernel
theorem dX1_upper_44 : decode cX1_upper 44 = .ok (.invokevirtual 67, 3) := by decide +kernel
theorem dX1_upper_47 : decode cX1_upper 47 = .ok (.lreturn, 1) := by decide +kernel
set_option maxRecDepth 20000 in
theorem ggX1_lower_X1_spread : GoodIn wsX1_lower wsX1_spread := goodIn_r _ [6, 1, 7, 8, 9, 10, 11, 12, 13, 14, 15, 16, 17, 18, 19, 20, 21] rfl (by decide +kernel)
set_option maxRecDepth 20000 in
theorem gX1_lower_X1_spread : GoodIn wsX1_lower (wsV RX1 54 RX1 yX1_spread wsX1_spread) := goodIn_app (goodIn_of _ (by decide +kernel)) ggX1_lower_X1_spread
theorem dX1_lower_0 : decode cX1_lower 0 = .ok (.iload_n 1, 1) := by decide +kernel
theorem dX1_lower_1 : decode cX1_lower 1 = .ok (.ifCond .eq 8, 3) := by decide +kernel
theorem dX1_lower_4 : decode cX1_lower 4 = .ok (.iload_n 1, 1) := by decide +kernel
theorem dX1_lower_5 : decode cX1_lower 5 = .ok (.iconst 1, 1) := by decide +kernel
theorem dX1_lower_6 : decode cX1_lower 6 = .ok (.if_icmp .ne 10, 3) := by decide +kernel
theorem dX1_lower_9 : decode cX1_lower 9 = .ok (.aload_n 0, 1) := by decide +kernel
theorem dX1_lower_10 : decode cX1_lower 10 = .ok (.invokevirtual 54, 3) := by decide +kernel
theorem dX1_lower_13 : decode cX1_lower 13 = .ok (.goto 13, 3) := by decide +kernel
theorem dX1_lower_16 : decode cX1_lower 16 = .ok (.aload_n 0, 1) := by decide +kernel
theorem dX1_lower_17 : decode cX1_lower 17 = .ok (.invokevirtual 54, 3) := by decide +kernel
theorem dX1_lower_20 : decode cX1_lower 20 = .ok (.aload_n 0, 1) := by decide +kernel
theorem dX1_lower_21 : decode cX1_lower 21 = .ok (.getfield 28, 3) := by decide +kernel
theorem dX1_lower_24 : decode cX1_lower 24 = .ok (.i2l, 1) := by decide +kernel
theorem dX1_lower_25 : decode cX1_lower 25 = .ok (.lmul, 1) := by decide +kernel
theorem dX1_lower_26 : decode cX1_lower 26 = .ok (.lreturn, 1) := by decide +kernel
set_option maxRecDepth 20000 in
theorem ggX1_offAcross_X1_stretch : GoodIn wsX1_offAcross wsX1_stretch := goodIn_r _ [9, 1, 10, 11, 12, 13, 14, 34, 35, 36, 37, 38, 39, 40, 41, 42, 43, 44, 45] rfl (by decide +kernel)
set_option maxRecDepth 20000 in
theorem gX1_offAcross_X1_stretch : GoodIn wsX1_offAcross (wsV RX1 58 RX1 yX1_stretch wsX1_stretch) := goodIn_app (goodIn_of _ (by decide +kernel)) ggX1_offAcross_X1_stretch
set_option maxRecDepth 20000 in
theorem ggX1_offAcross_X1_turn : GoodIn wsX1_offAcross wsX1_turn := goodIn_r _ [18, 1, 19, 11, 14, 13, 12, 34, 35, 36, 37, 38, 39, 40, 41, 42, 43, 44, 45] rfl (by decide +kernel)
set_option maxRecDepth 20000 in
theorem gX1_offAcross_X1_turn : GoodIn wsX1_offAcross (wsV RX1 61 RX1 yX1_turn wsX1_turn) := goodIn_app (goodIn_of _ (by decide +kernel)) ggX1_offAcross_X1_turn
set_option maxRecDepth 20000 in
theorem ggX1_offAcross_X1_across : GoodIn wsX1_offAcross wsX1_across := goodIn_r _ [23, 12, 11, 13, 24, 25, 26, 8, 27, 1, 28, 5, 6, 7, 9, 10, 14, 15, 16, 17, 18, 19, 34, 35, 36, 37, 38, 39, 40, 41, 42, 43, 44, 45] rfl (by decide +kernel)
set_option maxRecDepth 20000 in
theorem gX1_offAcross_X1_across : GoodIn wsX1_offAcross (wsV RX1 64 RX1 yX1_across wsX1_across) := goodIn_app (goodIn_of _ (by decide +kernel)) ggX1_offAcross_X1_across
set_option maxRecDepth 20000 in
theorem ggX1_offAcross_X1_inThousandths : GoodIn wsX1_offAcross wsX1_inThousandths := goodIn_r _ [32, 1, 33, 24, 25, 26, 8, 27, 28, 11, 13, 34, 35, 36, 37, 38, 39, 40, 41, 42, 43, 44, 45] rfl (by decide +kernel)
set_option maxRecDepth 20000 in
theorem gX1_offAcross_X1_inThousandths : GoodIn wsX1_offAcross (wsV RX1 70 RX1 yX1_inThousandths wsX1_inThousandths) := goodIn_app (goodIn_of _ (by decide +kernel)) ggX1_offAcross_X1_inThousandths
theorem dX1_offAcross_0 : decode cX1_offAcross 0 = .ok (.aload_n 0, 1) := by decide +kernel
theorem dX1_offAcross_1 : decode cX1_offAcross 1 = .ok (.getfield 28, 3) := by decide +kernel
theorem dX1_offAcross_4 : decode cX1_offAcross 4 = .ok (.i2l, 1) := by decide +kernel
theorem dX1_offAcross_5 : decode cX1_offAcross 5 = .ok (.aload_n 0, 1) := by decide +kernel
theorem dX1_offAcross_6 : decode cX1_offAcross 6 = .ok (.invokevirtual 58, 3) := by decide +kernel
theorem dX1_offAcross_9 : decode cX1_offAcross 9 = .ok (.aload_n 0, 1) := by decide +kernel
theorem dX1_offAcross_10 : decode cX1_offAcross 10 = .ok (.getfield 11, 3) := by decide +kernel
theorem dX1_offAcross_13 : decode cX1_offAcross 13 = .ok (.iload_n 1, 1) := by decide +kernel
theorem dX1_offAcross_14 : decode cX1_offAcross 14 = .ok (.iaload, 1) := by decide +kernel
theorem dX1_offAcross_15 : decode cX1_offAcross 15 = .ok (.i2l, 1) := by decide +kernel
theorem dX1_offAcross_16 : decode cX1_offAcross 16 = .ok (.lmul, 1) := by decide +kernel
theorem dX1_offAcross_17 : decode cX1_offAcross 17 = .ok (.aload_n 0, 1) := by decide +kernel
theorem dX1_offAcross_18 : decode cX1_offAcross 18 = .ok (.invokevirtual 61, 3) := by decide +kernel
theorem dX1_offAcross_21 : decode cX1_offAcross 21 = .ok (.aload_n 0, 1) := by decide +kernel
theorem dX1_offAcross_22 : decode cX1_offAcross 22 = .ok (.getfield 15, 3) := by decide +kernel
theorem dX1_offAcross_25 : decode cX1_offAcross 25 = .ok (.iload_n 1, 1) := by decide +kernel
theorem dX1_offAcross_26 : decode cX1_offAcross 26 = .ok (.iaload, 1) := by decide +kernel
theorem dX1_offAcross_27 : decode cX1_offAcross 27 = .ok (.i2l, 1) := by decide +kernel
theorem dX1_offAcross_28 : decode cX1_offAcross 28 = .ok (.lmul, 1) := by decide +kernel
theorem dX1_offAcross_29 : decode cX1_offAcross 29 = .ok (.lsub, 1) := by decide +kernel
theorem dX1_offAcross_30 : decode cX1_offAcross 30 = .ok (.lmul, 1) := by decide +kernel
theorem dX1_offAcross_31 : decode cX1_offAcross 31 = .ok (.aload_n 0, 1) := by decide +kernel
theorem dX1_offAcross_32 : decode cX1_offAcross 32 = .ok (.invokevirtual 64, 3) := by decide +kernel
theorem dX1_offAcross_35 : decode cX1_offAcross 35 = .ok (.ladd, 1) := by decide +kernel
theorem dX1_offAcross_36 : decode cX1_offAcross 36 = .ok (.lstore_n 2, 1) := by decide +kernel
theorem dX1_offAcross_37 : decode cX1_offAcross 37 = .ok (.aload_n 0, 1) := by decide +kernel
theorem dX1_offAcross_38 : decode cX1_offAcross 38 = .ok (.aload_n 0, 1) := by decide +kernel
theorem dX1_offAcross_39 : decode cX1_offAcross 39 = .ok (.getfield 18, 3) := by decide +kernel
theorem dX1_offAcross_42 : decode cX1_offAcross 42 = .ok (.iload_n 1, 1) := by decide +kernel
theorem dX1_offAcross_43 : decode cX1_offAcross 43 = .ok (.iaload, 1) := by decide +kernel
theorem dX1_offAcross_44 : decode cX1_offAcross 44 = .ok (.lload_n 2, 1) := by decide +kernel
theorem dX1_offAcross_45 : decode cX1_offAcross 45 = .ok (.invokevirtual 70, 3) := by decide +kernel
theorem dX1_offAcross_48 : decode cX1_offAcross 48 = .ok (.ireturn, 1) := by decide +kernel
set_option maxRecDepth 20000 in
theorem ggX1_offUp_X1_stretch : GoodIn wsX1_offUp wsX1_stretch := goodIn_r _ [9, 1, 10, 11, 12, 13, 14, 34, 35, 36, 37, 38, 39, 40, 41, 42, 43, 44, 45] rfl (by decide +kernel)
set_option maxRecDepth 20000 in
theorem gX1_offUp_X1_stretch : GoodIn wsX1_offUp (wsV RX1 58 RX1 yX1_stretch wsX1_stretch) := goodIn_app (goodIn_of _ (by decide +kernel)) ggX1_offUp_X1_stretch
set_option maxRecDepth 20000 in
theorem ggX1_offUp_X1_turn : GoodIn wsX1_offUp wsX1_turn := goodIn_r _ [18, 1, 19, 11, 14, 13, 12, 34, 35, 36, 37, 38, 39, 40, 41, 42, 43, 44, 45] rfl (by decide +kernel)
set_option maxRecDepth 20000 in
theorem gX1_offUp_X1_turn : GoodIn wsX1_offUp (wsV RX1 61 RX1 yX1_turn wsX1_turn) := goodIn_app (goodIn_of _ (by decide +kernel)) ggX1_offUp_X1_turn
set_option maxRecDepth 20000 in
theorem ggX1_offUp_X1_up : GoodIn wsX1_offUp wsX1_up := goodIn_r _ [23, 14, 13, 11, 24, 25, 26, 8, 27, 1, 28, 5, 6, 7, 9, 10, 12, 15, 16, 17, 18, 19, 34, 35, 36, 37, 38, 39, 40, 41, 42, 43, 44, 45] rfl (by decide +kernel)
set_option maxRecDepth 20000 in
theorem gX1_offUp_X1_up : GoodIn wsX1_offUp (wsV RX1 67 RX1 yX1_up wsX1_up) := goodIn_app (goodIn_of _ (by decide +kernel)) ggX1_offUp_X1_up
set_option maxRecDepth 20000 in
theorem ggX1_offUp_X1_inThousandths : GoodIn wsX1_offUp wsX1_inThousandths := goodIn_r _ [32, 1, 33, 24, 25, 26, 8, 27, 28, 11, 13, 34, 35, 36, 37, 38, 39, 40, 41, 42, 43, 44, 45] rfl (by decide +kernel)
set_option maxRecDepth 20000 in
theorem gX1_offUp_X1_inThousandths : GoodIn wsX1_offUp (wsV RX1 70 RX1 yX1_inThousandths wsX1_inThousandths) := goodIn_app (goodIn_of _ (by decide +kernel)) ggX1_offUp_X1_inThousandths
theorem dX1_offUp_0 : decode cX1_offUp 0 = .ok (.aload_n 0, 1) := by decide +kernel
theorem dX1_offUp_1 : decode cX1_offUp 1 = .ok (.getfield 28, 3) := by decide +kernel
theorem dX1_offUp_4 : decode cX1_offUp 4 = .ok (.i2l, 1) := by decide +kernel
theorem dX1_offUp_5 : decode cX1_offUp 5 = .ok (.aload_n 0, 1) := by decide +kernel
theorem dX1_offUp_6 : decode cX1_offUp 6 = .ok (.invokevirtual 58, 3) := by decide +kernel
theorem dX1_offUp_9 : decode cX1_offUp 9 = .ok (.aload_n 0, 1) := by decide +kernel
theorem dX1_offUp_10 : decode cX1_offUp 10 = .ok (.getfield 15, 3) := by decide +kernel
theorem dX1_offUp_13 : decode cX1_offUp 13 = .ok (.iload_n 1, 1) := by decide +kernel
theorem dX1_offUp_14 : decode cX1_offUp 14 = .ok (.iaload, 1) := by decide +kernel
theorem dX1_offUp_15 : decode cX1_offUp 15 = .ok (.i2l, 1) := by decide +kernel
theorem dX1_offUp_16 : decode cX1_offUp 16 = .ok (.lmul, 1) := by decide +kernel
theorem dX1_offUp_17 : decode cX1_offUp 17 = .ok (.aload_n 0, 1) := by decide +kernel
theorem dX1_offUp_18 : decode cX1_offUp 18 = .ok (.invokevirtual 61, 3) := by decide +kernel
theorem dX1_offUp_21 : decode cX1_offUp 21 = .ok (.aload_n 0, 1) := by decide +kernel
theorem dX1_offUp_22 : decode cX1_offUp 22 = .ok (.getfield 11, 3) := by decide +kernel
theorem dX1_offUp_25 : decode cX1_offUp 25 = .ok (.iload_n 1, 1) := by decide +kernel
theorem dX1_offUp_26 : decode cX1_offUp 26 = .ok (.iaload, 1) := by decide +kernel
theorem dX1_offUp_27 : decode cX1_offUp 27 = .ok (.i2l, 1) := by decide +kernel
theorem dX1_offUp_28 : decode cX1_offUp 28 = .ok (.lmul, 1) := by decide +kernel
theorem dX1_offUp_29 : decode cX1_offUp 29 = .ok (.ladd, 1) := by decide +kernel
theorem dX1_offUp_30 : decode cX1_offUp 30 = .ok (.lmul, 1) := by decide +kernel
theorem dX1_offUp_31 : decode cX1_offUp 31 = .ok (.aload_n 0, 1) := by decide +kernel
theorem dX1_offUp_32 : decode cX1_offUp 32 = .ok (.invokevirtual 67, 3) := by decide +kernel
theorem dX1_offUp_35 : decode cX1_offUp 35 = .ok (.ladd, 1) := by decide +kernel
theorem dX1_offUp_36 : decode cX1_offUp 36 = .ok (.lstore_n 2, 1) := by decide +kernel
theorem dX1_offUp_37 : decode cX1_offUp 37 = .ok (.aload_n 0, 1) := by decide +kernel
theorem dX1_offUp_38 : decode cX1_offUp 38 = .ok (.aload_n 0, 1) := by decide +kernel
theorem dX1_offUp_39 : decode cX1_offUp 39 = .ok (.getfield 21, 3) := by decide +kernel
theorem dX1_offUp_42 : decode cX1_offUp 42 = .ok (.iload_n 1, 1) := by decide +kernel
theorem dX1_offUp_43 : decode cX1_offUp 43 = .ok (.iaload, 1) := by decide +kernel
theorem dX1_offUp_44 : decode cX1_offUp 44 = .ok (.lload_n 2, 1) := by decide +kernel
theorem dX1_offUp_45 : decode cX1_offUp 45 = .ok (.invokevirtual 70, 3) := by decide +kernel
theorem dX1_offUp_48 : decode cX1_offUp 48 = .ok (.ireturn, 1) := by decide +kernel
set_option maxRecDepth 20000 in
theorem ggX1_inThousandths_X1_spread : GoodIn wsX1_inThousandths wsX1_spread := goodIn_r _ [7, 1, 8, 9, 10, 11, 12, 13, 14, 15, 16, 17, 18, 19, 20, 21, 22] rfl (by decide +kernel)
set_option maxRecDepth 20000 in
theorem gX1_inThousandths_X1_spread : GoodIn wsX1_inThousandths (wsV RX1 54 RX1 yX1_spread wsX1_spread) := goodIn_app (goodIn_of _ (by decide +kernel)) ggX1_inThousandths_X1_spread
theorem dX1_inThousandths_0 : decode cX1_inThousandths 0 = .ok (.aload_n 0, 1) := by decide +kernel
theorem dX1_inThousandths_1 : decode cX1_inThousandths 1 = .ok (.invokevirtual 54, 3) := by decide +kernel
theorem dX1_inThousandths_4 : decode cX1_inThousandths 4 = .ok (.aload_n 0, 1) := by decide +kernel
theorem dX1_inThousandths_5 : decode cX1_inThousandths 5 = .ok (.getfield 28, 3) := by decide +kernel
theorem dX1_inThousandths_8 : decode cX1_inThousandths 8 = .ok (.i2l, 1) := by decide +kernel
theorem dX1_inThousandths_9 : decode cX1_inThousandths 9 = .ok (.lmul, 1) := by decide +kernel
theorem dX1_inThousandths_10 : decode cX1_inThousandths 10 = .ok (.lstore 4, 2) := by decide +kernel
theorem dX1_inThousandths_12 : decode cX1_inThousandths 12 = .ok (.lload 4, 2) := by decide +kernel
theorem dX1_inThousandths_14 : decode cX1_inThousandths 14 = .ok (.lconst 0, 1) := by decide +kernel
theorem dX1_inThousandths_15 : decode cX1_inThousandths 15 = .ok (.lcmp, 1) := by decide +kernel
theorem dX1_inThousandths_16 : decode cX1_inThousandths 16 = .ok (.ifCond .le 21, 3) := by decide +kernel
theorem dX1_inThousandths_19 : decode cX1_inThousandths 19 = .ok (.ldc2_w 74, 3) := by decide +kernel
theorem dX1_inThousandths_22 : decode cX1_inThousandths 22 = .ok (.iload_n 1, 1) := by decide +kernel
theorem dX1_inThousandths_23 : decode cX1_inThousandths 23 = .ok (.i2l, 1) := by decide +kernel
theorem dX1_inThousandths_24 : decode cX1_inThousandths 24 = .ok (.lload 4, 2) := by decide +kernel
theorem dX1_inThousandths_26 : decode cX1_inThousandths 26 = .ok (.lmul, 1) := by decide +kernel
theorem dX1_inThousandths_27 : decode cX1_inThousandths 27 = .ok (.lload_n 2, 1) := by decide +kernel
theorem dX1_inThousandths_28 : decode cX1_inThousandths 28 = .ok (.lsub, 1) := by decide +kernel
theorem dX1_inThousandths_29 : decode cX1_inThousandths 29 = .ok (.lmul, 1) := by decide +kernel
theorem dX1_inThousandths_30 : decode cX1_inThousandths 30 = .ok (.lload 4, 2) := by decide +kernel
theorem dX1_inThousandths_32 : decode cX1_inThousandths 32 = .ok (.ldiv, 1) := by decide +kernel
theorem dX1_inThousandths_33 : decode cX1_inThousandths 33 = .ok (.l2i, 1) := by decide +kernel
theorem dX1_inThousandths_34 : decode cX1_inThousandths 34 = .ok (.goto 4, 3) := by decide +kernel
theorem dX1_inThousandths_37 : decode cX1_inThousandths 37 = .ok (.iconst 0, 1) := by decide +kernel
theorem dX1_inThousandths_38 : decode cX1_inThousandths 38 = .ok (.ireturn, 1) := by decide +kernel
theorem dX1_spread_0 : decode cX1_spread 0 = .ok (.aload_n 0, 1) := by decide +kernel
theorem dX1_spread_1 : decode cX1_spread 1 = .ok (.getfield 28, 3) := by decide +kernel
theorem dX1_spread_4 : decode cX1_spread 4 = .ok (.i2l, 1) := by decide +kernel
theorem dX1_spread_5 : decode cX1_spread 5 = .ok (.aload_n 0, 1) := by decide +kernel
theorem dX1_spread_6 : decode cX1_spread 6 = .ok (.getfield 45, 3) := by decide +kernel
theorem dX1_spread_9 : decode cX1_spread 9 = .ok (.lmul, 1) := by decide +kernel
theorem dX1_spread_10 : decode cX1_spread 10 = .ok (.aload_n 0, 1) := by decide +kernel
theorem dX1_spread_11 : decode cX1_spread 11 = .ok (.getfield 32, 3) := by decide +kernel
theorem dX1_spread_14 : decode cX1_spread 14 = .ok (.aload_n 0, 1) := by decide +kernel
theorem dX1_spread_15 : decode cX1_spread 15 = .ok (.getfield 32, 3) := by decide +kernel
theorem dX1_spread_18 : decode cX1_spread 18 = .ok (.lmul, 1) := by decide +kernel
theorem dX1_spread_19 : decode cX1_spread 19 = .ok (.lsub, 1) := by decide +kernel
theorem dX1_spread_20 : decode cX1_spread 20 = .ok (.aload_n 0, 1) := by decide +kernel
theorem dX1_spread_21 : decode cX1_spread 21 = .ok (.getfield 36, 3) := by decide +kernel
theorem dX1_spread_24 : decode cX1_spread 24 = .ok (.aload_n 0, 1) := by decide +kernel
theorem dX1_spread_25 : decode cX1_spread 25 = .ok (.getfield 36, 3) := by decide +kernel
theorem dX1_spread_28 : decode cX1_spread 28 = .ok (.lmul, 1) := by decide +kernel
theorem dX1_spread_29 : decode cX1_spread 29 = .ok (.lsub, 1) := by decide +kernel
theorem dX1_spread_30 : decode cX1_spread 30 = .ok (.lreturn, 1) := by decide +kernel
theorem dX1_stretch_0 : decode cX1_stretch 0 = .ok (.aload_n 0, 1) := by decide +kernel
theorem dX1_stretch_1 : decode cX1_stretch 1 = .ok (.getfield 28, 3) := by decide +kernel
theorem dX1_stretch_4 : decode cX1_stretch 4 = .ok (.i2l, 1) := by decide +kernel
theorem dX1_stretch_5 : decode cX1_stretch 5 = .ok (.aload_n 0, 1) := by decide +kernel
theorem dX1_stretch_6 : decode cX1_stretch 6 = .ok (.getfield 48, 3) := by decide +kernel
theorem dX1_stretch_9 : decode cX1_stretch 9 = .ok (.lmul, 1) := by decide +kernel
theorem dX1_stretch_10 : decode cX1_stretch 10 = .ok (.aload_n 0, 1) := by decide +kernel
theorem dX1_stretch_11 : decode cX1_stretch 11 = .ok (.getfield 32, 3) := by decide +kernel
theorem dX1_stretch_14 : decode cX1_stretch 14 = .ok (.aload_n 0, 1) := by decide +kernel
theorem dX1_stretch_15 : decode cX1_stretch 15 = .ok (.getfield 39, 3) := by decide +kernel
theorem dX1_stretch_18 : decode cX1_stretch 18 = .ok (.lmul, 1) := by decide +kernel
theorem dX1_stretch_19 : decode cX1_stretch 19 = .ok (.lsub, 1) := by decide +kernel
theorem dX1_stretch_20 : decode cX1_stretch 20 = .ok (.aload_n 0, 1) := by decide +kernel
theorem dX1_stretch_21 : decode cX1_stretch 21 = .ok (.getfield 36, 3) := by decide +kernel
theorem dX1_stretch_24 : decode cX1_stretch 24 = .ok (.aload_n 0, 1) := by decide +kernel
theorem dX1_stretch_25 : decode cX1_stretch 25 = .ok (.getfield 42, 3) := by decide +kernel
theorem dX1_stretch_28 : decode cX1_stretch 28 = .ok (.lmul, 1) := by decide +kernel
theorem dX1_stretch_29 : decode cX1_stretch 29 = .ok (.lsub, 1) := by decide +kernel
theorem dX1_stretch_30 : decode cX1_stretch 30 = .ok (.lreturn, 1) := by decide +kernel
theorem dX1_turn_0 : decode cX1_turn 0 = .ok (.aload_n 0, 1) := by decide +kernel
theorem dX1_turn_1 : decode cX1_turn 1 = .ok (.getfield 28, 3) := by decide +kernel
theorem dX1_turn_4 : decode cX1_turn 4 = .ok (.i2l, 1) := by decide +kernel
theorem dX1_turn_5 : decode cX1_turn 5 = .ok (.aload_n 0, 1) := by decide +kernel
theorem dX1_turn_6 : decode cX1_turn 6 = .ok (.getfield 51, 3) := by decide +kernel
theorem dX1_turn_9 : decode cX1_turn 9 = .ok (.lmul, 1) := by decide +kernel
theorem dX1_turn_10 : decode cX1_turn 10 = .ok (.aload_n 0, 1) := by decide +kernel
theorem dX1_turn_11 : decode cX1_turn 11 = .ok (.getfield 32, 3) := by decide +kernel
theorem dX1_turn_14 : decode cX1_turn 14 = .ok (.aload_n 0, 1) := by decide +kernel
theorem dX1_turn_15 : decode cX1_turn 15 = .ok (.getfield 42, 3) := by decide +kernel
theorem dX1_turn_18 : decode cX1_turn 18 = .ok (.lmul, 1) := by decide +kernel
theorem dX1_turn_19 : decode cX1_turn 19 = .ok (.lsub, 1) := by decide +kernel
theorem dX1_turn_20 : decode cX1_turn 20 = .ok (.aload_n 0, 1) := by decide +kernel
theorem dX1_turn_21 : decode cX1_turn 21 = .ok (.getfield 36, 3) := by decide +kernel
theorem dX1_turn_24 : decode cX1_turn 24 = .ok (.aload_n 0, 1) := by decide +kernel
theorem dX1_turn_25 : decode cX1_turn 25 = .ok (.getfield 39, 3) := by decide +kernel
theorem dX1_turn_28 : decode cX1_turn 28 = .ok (.lmul, 1) := by decide +kernel
theorem dX1_turn_29 : decode cX1_turn 29 = .ok (.ladd, 1) := by decide +kernel
theorem dX1_turn_30 : decode cX1_turn 30 = .ok (.lreturn, 1) := by decide +kernel
set_option maxRecDepth 20000 in
theorem ggX1_across_X1_spread : GoodIn wsX1_across wsX1_spread := goodIn_r _ [8, 9, 10, 2, 3, 22, 23, 24, 25, 26, 27, 28, 29, 30, 31, 32, 33] rfl (by decide +kernel)
set_option maxRecDepth 20000 in
theorem gX1_across_X1_spread : GoodIn wsX1_across (wsV RX1 54 RX1 yX1_spread wsX1_spread) := goodIn_app (goodIn_of _ (by decide +kernel)) ggX1_across_X1_spread
set_option maxRecDepth 20000 in
theorem ggX1_across_X1_stretch : GoodIn wsX1_across wsX1_stretch := goodIn_r _ [14, 9, 15, 2, 1, 3, 16, 22, 23, 24, 25, 26, 27, 28, 29, 30, 31, 32, 33] rfl (by decide +kernel)
set_option maxRecDepth 20000 in
theorem gX1_across_X1_stretch : GoodIn wsX1_across (wsV RX1 58 RX1 yX1_stretch wsX1_stretch) := goodIn_app (goodIn_of _ (by decide +kernel)) ggX1_across_X1_stretch
set_option maxRecDepth 20000 in
theorem ggX1_across_X1_turn : GoodIn wsX1_across wsX1_turn := goodIn_r _ [20, 9, 21, 2, 16, 3, 1, 22, 23, 24, 25, 26, 27, 28, 29, 30, 31, 32, 33] rfl (by decide +kernel)
set_option maxRecDepth 20000 in
theorem gX1_across_X1_turn : GoodIn wsX1_across (wsV RX1 61 RX1 yX1_turn wsX1_turn) := goodIn_app (goodIn_of _ (by decide +kernel)) ggX1_across_X1_turn
theorem dX1_across_0 : decode cX1_across 0 = .ok (.aload_n 0, 1) := by decide +kernel
theorem dX1_across_1 : decode cX1_across 1 = .ok (.getfield 39, 3) := by decide +kernel
theorem dX1_across_4 : decode cX1_across 4 = .ok (.aload_n 0, 1) := by decide +kernel
theorem dX1_across_5 : decode cX1_across 5 = .ok (.invokevirtual 54, 3) := by decide +kernel
theorem dX1_across_8 : decode cX1_across 8 = .ok (.lmul, 1) := by decide +kernel
theorem dX1_across_9 : decode cX1_across 9 = .ok (.aload_n 0, 1) := by decide +kernel
theorem dX1_across_10 : decode cX1_across 10 = .ok (.invokevirtual 58, 3) := by decide +kernel
theorem dX1_across_13 : decode cX1_across 13 = .ok (.aload_n 0, 1) := by decide +kernel
theorem dX1_across_14 : decode cX1_across 14 = .ok (.getfield 32, 3) := by decide +kernel
theorem dX1_across_17 : decode cX1_across 17 = .ok (.lmul, 1) := by decide +kernel
theorem dX1_across_18 : decode cX1_across 18 = .ok (.lsub, 1) := by decide +kernel
theorem dX1_across_19 : decode cX1_across 19 = .ok (.aload_n 0, 1) := by decide +kernel
theorem dX1_across_20 : decode cX1_across 20 = .ok (.invokevirtual 61, 3) := by decide +kernel
theorem dX1_across_23 : decode cX1_across 23 = .ok (.aload_n 0, 1) := by decide +kernel
theorem dX1_across_24 : decode cX1_across 24 = .ok (.getfield 36, 3) := by decide +kernel
theorem dX1_across_27 : decode cX1_across 27 = .ok (.lmul, 1) := by decide +kernel
theorem dX1_across_28 : decode cX1_across 28 = .ok (.ladd, 1) := by decide +kernel
theorem dX1_across_29 : decode cX1_across 29 = .ok (.lreturn, 1) := by decide +kernel
set_option maxRecDepth 20000 in
theorem ggX1_up_X1_spread : GoodIn wsX1_up wsX1_spread := goodIn_r _ [8, 9, 10, 3, 2, 22, 23, 24, 25, 26, 27, 28, 29, 30, 31, 32, 33] rfl (by decide +kernel)
set_option maxRecDepth 20000 in
theorem gX1_up_X1_spread : GoodIn wsX1_up (wsV RX1 54 RX1 yX1_spread wsX1_spread) := goodIn_app (goodIn_of _ (by decide +kernel)) ggX1_up_X1_spread
set_option maxRecDepth 20000 in
theorem ggX1_up_X1_stretch : GoodIn wsX1_up wsX1_stretch := goodIn_r _ [14, 9, 15, 3, 16, 2, 1, 22, 23, 24, 25, 26, 27, 28, 29, 30, 31, 32, 33] rfl (by decide +kernel)
set_option maxRecDepth 20000 in
theorem gX1_up_X1_stretch : GoodIn wsX1_up (wsV RX1 58 RX1 yX1_stretch wsX1_stretch) := goodIn_app (goodIn_of _ (by decide +kernel)) ggX1_up_X1_stretch
set_option maxRecDepth 20000 in
theorem ggX1_up_X1_turn : GoodIn wsX1_up wsX1_turn := goodIn_r _ [20, 9, 21, 3, 1, 2, 16, 22, 23, 24, 25, 26, 27, 28, 29, 30, 31, 32, 33] rfl (by decide +kernel)
set_option maxRecDepth 20000 in
theorem gX1_up_X1_turn : GoodIn wsX1_up (wsV RX1 61 RX1 yX1_turn wsX1_turn) := goodIn_app (goodIn_of _ (by decide +kernel)) ggX1_up_X1_turn
theorem dX1_up_0 : decode cX1_up 0 = .ok (.aload_n 0, 1) := by decide +kernel
theorem dX1_up_1 : decode cX1_up 1 = .ok (.getfield 42, 3) := by decide +kernel
theorem dX1_up_4 : decode cX1_up 4 = .ok (.aload_n 0, 1) := by decide +kernel
theorem dX1_up_5 : decode cX1_up 5 = .ok (.invokevirtual 54, 3) := by decide +kernel
theorem dX1_up_8 : decode cX1_up 8 = .ok (.lmul, 1) := by decide +kernel
theorem dX1_up_9 : decode cX1_up 9 = .ok (.aload_n 0, 1) := by decide +kernel
theorem dX1_up_10 : decode cX1_up 10 = .ok (.invokevirtual 58, 3) := by decide +kernel
theorem dX1_up_13 : decode cX1_up 13 = .ok (.aload_n 0, 1) := by decide +kernel
theorem dX1_up_14 : decode cX1_up 14 = .ok (.getfield 36, 3) := by decide +kernel
theorem dX1_up_17 : decode cX1_up 17 = .ok (.lmul, 1) := by decide +kernel
theorem dX1_up_18 : decode cX1_up 18 = .ok (.lsub, 1) := by decide +kernel
theorem dX1_up_19 : decode cX1_up 19 = .ok (.aload_n 0, 1) := by decide +kernel
theorem dX1_up_20 : decode cX1_up 20 = .ok (.invokevirtual 61, 3) := by decide +kernel
theorem dX1_up_23 : decode cX1_up 23 = .ok (.aload_n 0, 1) := by decide +kernel
theorem dX1_up_24 : decode cX1_up 24 = .ok (.getfield 32, 3) := by decide +kernel
theorem dX1_up_27 : decode cX1_up 27 = .ok (.lmul, 1) := by decide +kernel
theorem dX1_up_28 : decode cX1_up 28 = .ok (.lsub, 1) := by decide +kernel
theorem dX1_up_29 : decode cX1_up 29 = .ok (.lreturn, 1) := by decide +kernel
theorem dX2_init_0 : decode cX2_init 0 = .ok (.aload_n 0, 1) := by decide +kernel
theorem dX2_init_1 : decode cX2_init 1 = .ok (.invokespecial 3, 3) := by decide +kernel
theorem dX2_init_4 : decode cX2_init 4 = .ok (.aload_n 0, 1) := by decide +kernel
theorem dX2_init_5 : decode cX2_init 5 = .ok (.iconst 0, 1) := by decide +kernel
theorem dX2_init_6 : decode cX2_init 6 = .ok (.putfield 9, 3) := by decide +kernel
theorem dX2_init_9 : decode cX2_init 9 = .ok (.return_, 1) := by decide +kernel
theorem dX2_isEmpty_0 : decode cX2_isEmpty 0 = .ok (.aload_n 0, 1) := by decide +kernel
theorem dX2_isEmpty_1 : decode cX2_isEmpty 1 = .ok (.getfield 9, 3) := by decide +kernel
theorem dX2_isEmpty_4 : decode cX2_isEmpty 4 = .ok (.ifCond .ne 7, 3) := by decide +kernel
theorem dX2_isEmpty_7 : decode cX2_isEmpty 7 = .ok (.iconst 1, 1) := by decide +kernel
theorem dX2_isEmpty_8 : decode cX2_isEmpty 8 = .ok (.goto 4, 3) := by decide +kernel
theorem dX2_isEmpty_11 : decode cX2_isEmpty 11 = .ok (.iconst 0, 1) := by decide +kernel
theorem dX2_isEmpty_12 : decode cX2_isEmpty 12 = .ok (.ireturn, 1) := by decide +kernel
theorem dX2_isFull_0 : decode cX2_isFull 0 = .ok (.aload_n 0, 1) := by decide +kernel
theorem dX2_isFull_1 : decode cX2_isFull 1 = .ok (.getfield 9, 3) := by decide +kernel
theorem dX2_isFull_4 : decode cX2_isFull 4 = .ok (.bipush 30, 2) := by decide +kernel
theorem dX2_isFull_6 : decode cX2_isFull 6 = .ok (.if_icmp .lt 7, 3) := by decide +kernel
theorem dX2_isFull_9 : decode cX2_isFull 9 = .ok (.iconst 1, 1) := by decide +kernel
theorem dX2_isFull_10 : decode cX2_isFull 10 = .ok (.goto 4, 3) := by decide +kernel
theorem dX2_isFull_13 : decode cX2_isFull 13 = .ok (.iconst 0, 1) := by decide +kernel
theorem dX2_isFull_14 : decode cX2_isFull 14 = .ok (.ireturn, 1) := by decide +kernel
theorem dX2_add_0 : decode cX2_add 0 = .ok (.aload_n 0, 1) := by decide +kernel
theorem dX2_add_1 : decode cX2_add 1 = .ok (.dup, 1) := by decide +kernel
theorem dX2_add_2 : decode cX2_add 2 = .ok (.getfield 9, 3) := by decide +kernel
theorem dX2_add_5 : decode cX2_add 5 = .ok (.iconst 1, 1) := by decide +kernel
theorem dX2_add_6 : decode cX2_add 6 = .ok (.iadd, 1) := by decide +kernel
theorem dX2_add_7 : decode cX2_add 7 = .ok (.putfield 9, 3) := by decide +kernel
theorem dX2_add_10 : decode cX2_add 10 = .ok (.aload_n 0, 1) := by decide +kernel
theorem dX2_add_11 : decode cX2_add 11 = .ok (.dup, 1) := by decide +kernel
theorem dX2_add_12 : decode cX2_add 12 = .ok (.getfield 15, 3) := by decide +kernel
theorem dX2_add_15 : decode cX2_add 15 = .ok (.iload_n 1, 1) := by decide +kernel
theorem dX2_add_16 : decode cX2_add 16 = .ok (.i2l, 1) := by decide +kernel
theorem dX2_add_17 : decode cX2_add 17 = .ok (.ladd, 1) := by decide +kernel
theorem dX2_add_18 : decode cX2_add 18 = .ok (.putfield 15, 3) := by decide +kernel
theorem dX2_add_21 : decode cX2_add 21 = .ok (.aload_n 0, 1) := by decide +kernel
theorem dX2_add_22 : decode cX2_add 22 = .ok (.dup, 1) := by decide +kernel
theorem dX2_add_23 : decode cX2_add 23 = .ok (.getfield 19, 3) := by decide +kernel
theorem dX2_add_26 : decode cX2_add 26 = .ok (.iload_n 2, 1) := by decide +kernel
theorem dX2_add_27 : decode cX2_add 27 = .ok (.i2l, 1) := by decide +kernel
theorem dX2_add_28 : decode cX2_add 28 = .ok (.ladd, 1) := by decide +kernel
theorem dX2_add_29 : decode cX2_add 29 = .ok (.putfield 19, 3) := by decide +kernel
theorem dX2_add_32 : decode cX2_add 32 = .ok (.aload_n 0, 1) := by decide +kernel
theorem dX2_add_33 : decode cX2_add 33 = .ok (.dup, 1) := by decide +kernel
theorem dX2_add_34 : decode cX2_add 34 = .ok (.getfield 22, 3) := by decide +kernel
theorem dX2_add_37 : decode cX2_add 37 = .ok (.iload_n 1, 1) := by decide +kernel
theorem dX2_add_38 : decode cX2_add 38 = .ok (.iload_n 1, 1) := by decide +kernel
theorem dX2_add_39 : decode cX2_add 39 = .ok (.imul, 1) := by decide +kernel
theorem dX2_add_40 : decode cX2_add 40 = .ok (.i2l, 1) := by decide +kernel
theorem dX2_add_41 : decode cX2_add 41 = .ok (.ladd, 1) := by decide +kernel
theorem dX2_add_42 : decode cX2_add 42 = .ok (.putfield 22, 3) := by decide +kernel
theorem dX2_add_45 : decode cX2_add 45 = .ok (.aload_n 0, 1) := by decide +kernel
theorem dX2_add_46 : decode cX2_add 46 = .ok (.dup, 1) := by decide +kernel
theorem dX2_add_47 : decode cX2_add 47 = .ok (.getfield 25, 3) := by decide +kernel
theorem dX2_add_50 : decode cX2_add 50 = .ok (.iload_n 1, 1) := by decide +kernel
theorem dX2_add_51 : decode cX2_add 51 = .ok (.iload_n 2, 1) := by decide +kernel
theorem dX2_add_52 : decode cX2_add 52 = .ok (.imul, 1) := by decide +kernel
theorem dX2_add_53 : decode cX2_add 53 = .ok (.i2l, 1) := by decide +kernel
theorem dX2_add_54 : decode cX2_add 54 = .ok (.ladd, 1) := by decide +kernel
theorem dX2_add_55 : decode cX2_add 55 = .ok (.putfield 25, 3) := by decide +kernel
theorem dX2_add_58 : decode cX2_add 58 = .ok (.aload_n 0, 1) := by decide +kernel
theorem dX2_add_59 : decode cX2_add 59 = .ok (.getfield 9, 3) := by decide +kernel
theorem dX2_add_62 : decode cX2_add 62 = .ok (.ireturn, 1) := by decide +kernel
set_option maxRecDepth 20000 in
theorem ggX2_keyFor_X7_held : GoodIn wsX2_keyFor wsX7_held := goodIn_r _ [8, 9, 10, 11, 12, 13, 14, 15] rfl (by decide +kernel)
set_option maxRecDepth 20000 in
theorem gX2_keyFor_X7_held_n28 : GoodIn wsX2_keyFor (wsX7_held) := ggX2_keyFor_X7_held
theorem dX2_keyFor_0 : decode cX2_keyFor 0 = .ok (.aload_n 0, 1) := by decide +kernel
theorem dX2_keyFor_1 : decode cX2_keyFor 1 = .ok (.getfield 9, 3) := by decide +kernel
theorem dX2_keyFor_4 : decode cX2_keyFor 4 = .ok (.i2l, 1) := by decide +kernel
theorem dX2_keyFor_5 : decode cX2_keyFor 5 = .ok (.aload_n 0, 1) := by decide +kernel
theorem dX2_keyFor_6 : decode cX2_keyFor 6 = .ok (.getfield 22, 3) := by decide +kernel
theorem dX2_keyFor_9 : decode cX2_keyFor 9 = .ok (.lmul, 1) := by decide +kernel
theorem dX2_keyFor_10 : decode cX2_keyFor 10 = .ok (.aload_n 0, 1) := by decide +kernel
theorem dX2_keyFor_11 : decode cX2_keyFor 11 = .ok (.getfield 15, 3) := by decide +kernel
theorem dX2_keyFor_14 : decode cX2_keyFor 14 = .ok (.aload_n 0, 1) := by decide +kernel
theorem dX2_keyFor_15 : decode cX2_keyFor 15 = .ok (.getfield 15, 3) := by decide +kernel
theorem dX2_keyFor_18 : decode cX2_keyFor 18 = .ok (.lmul, 1) := by decide +kernel
theorem dX2_keyFor_19 : decode cX2_keyFor 19 = .ok (.lsub, 1) := by decide +kernel
theorem dX2_keyFor_20 : decode cX2_keyFor 20 = .ok (.lstore_n 2, 1) := by decide +kernel
theorem dX2_keyFor_21 : decode cX2_keyFor 21 = .ok (.lload_n 2, 1) := by decide +kernel
theorem dX2_keyFor_22 : decode cX2_keyFor 22 = .ok (.lconst 0, 1) := by decide +kernel
theorem dX2_keyFor_23 : decode cX2_keyFor 23 = .ok (.lcmp, 1) := by decide +kernel
theorem dX2_keyFor_24 : decode cX2_keyFor 24 = .ok (.ifCond .eq 63, 3) := by decide +kernel
theorem dX2_keyFor_27 : decode cX2_keyFor 27 = .ok (.aload_n 0, 1) := by decide +kernel
theorem dX2_keyFor_28 : decode cX2_keyFor 28 = .ok (.getfield 19, 3) := by decide +kernel
theorem dX2_keyFor_31 : decode cX2_keyFor 31 = .ok (.aload_n 0, 1) := by decide +kernel
theorem dX2_keyFor_32 : decode cX2_keyFor 32 = .ok (.getfield 22, 3) := by decide +kernel
end
section
theorem dX2_keyFor_35 : decode cX2_keyFor 35 = .ok (.lmul, 1) := by decide +kernel
theorem dX2_keyFor_36 : decode cX2_keyFor 36 = .ok (.aload_n 0, 1) := by decide +kernel
theorem dX2_keyFor_37 : decode cX2_keyFor 37 = .ok (.getfield 15, 3) := by decide +kernel
theorem dX2_keyFor_40 : decode cX2_keyFor 40 = .ok (.aload_n 0, 1) := by decide +kernel
theorem dX2_keyFor_41 : decode cX2_keyFor 41 = .ok (.getfield 25, 3) := by decide +kernel
theorem dX2_keyFor_44 : decode cX2_keyFor 44 = .ok (.lmul, 1) := by decide +kernel
theorem dX2_keyFor_45 : decode cX2_keyFor 45 = .ok (.lsub, 1) := by decide +kernel
theorem dX2_keyFor_46 : decode cX2_keyFor 46 = .ok (.lstore 4, 2) := by decide +kernel
theorem dX2_keyFor_48 : decode cX2_keyFor 48 = .ok (.aload_n 0, 1) := by decide +kernel
theorem dX2_keyFor_49 : decode cX2_keyFor 49 = .ok (.getfield 9, 3) := by decide +kernel
theorem dX2_keyFor_52 : decode cX2_keyFor 52 = .ok (.i2l, 1) := by decide +kernel
theorem dX2_keyFor_53 : decode cX2_keyFor 53 = .ok (.aload_n 0, 1) := by decide +kernel
theorem dX2_keyFor_54 : decode cX2_keyFor 54 = .ok (.getfield 25, 3) := by decide +kernel
theorem dX2_keyFor_57 : decode cX2_keyFor 57 = .ok (.lmul, 1) := by decide +kernel
theorem dX2_keyFor_58 : decode cX2_keyFor 58 = .ok (.aload_n 0, 1) := by decide +kernel
theorem dX2_keyFor_59 : decode cX2_keyFor 59 = .ok (.getfield 15, 3) := by decide +kernel
theorem dX2_keyFor_62 : decode cX2_keyFor 62 = .ok (.aload_n 0, 1) := by decide +kernel
theorem dX2_keyFor_63 : decode cX2_keyFor 63 = .ok (.getfield 19, 3) := by decide +kernel
theorem dX2_keyFor_66 : decode cX2_keyFor 66 = .ok (.lmul, 1) := by decide +kernel
theorem dX2_keyFor_67 : decode cX2_keyFor 67 = .ok (.lsub, 1) := by decide +kernel
theorem dX2_keyFor_68 : decode cX2_keyFor 68 = .ok (.lstore 6, 2) := by decide +kernel
theorem dX2_keyFor_70 : decode cX2_keyFor 70 = .ok (.lload 4, 2) := by decide +kernel
theorem dX2_keyFor_72 : decode cX2_keyFor 72 = .ok (.iload_n 1, 1) := by decide +kernel
theorem dX2_keyFor_73 : decode cX2_keyFor 73 = .ok (.i2l, 1) := by decide +kernel
theorem dX2_keyFor_74 : decode cX2_keyFor 74 = .ok (.lload 6, 2) := by decide +kernel
theorem dX2_keyFor_76 : decode cX2_keyFor 76 = .ok (.lmul, 1) := by decide +kernel
theorem dX2_keyFor_77 : decode cX2_keyFor 77 = .ok (.ladd, 1) := by decide +kernel
theorem dX2_keyFor_78 : decode cX2_keyFor 78 = .ok (.lload_n 2, 1) := by decide +kernel
theorem dX2_keyFor_79 : decode cX2_keyFor 79 = .ok (.ldiv, 1) := by decide +kernel
theorem dX2_keyFor_80 : decode cX2_keyFor 80 = .ok (.iconst 0, 1) := by decide +kernel
theorem dX2_keyFor_81 : decode cX2_keyFor 81 = .ok (.bipush 100, 2) := by decide +kernel
theorem dX2_keyFor_83 : decode cX2_keyFor 83 = .ok (.invokestatic 28, 3) := by decide +kernel
theorem dX2_keyFor_86 : decode cX2_keyFor 86 = .ok (.ireturn, 1) := by decide +kernel
theorem dX2_keyFor_87 : decode cX2_keyFor 87 = .ok (.aload_n 0, 1) := by decide +kernel
theorem dX2_keyFor_88 : decode cX2_keyFor 88 = .ok (.getfield 9, 3) := by decide +kernel
theorem dX2_keyFor_91 : decode cX2_keyFor 91 = .ok (.ifCond .le 17, 3) := by decide +kernel
theorem dX2_keyFor_94 : decode cX2_keyFor 94 = .ok (.aload_n 0, 1) := by decide +kernel
theorem dX2_keyFor_95 : decode cX2_keyFor 95 = .ok (.getfield 19, 3) := by decide +kernel
theorem dX2_keyFor_98 : decode cX2_keyFor 98 = .ok (.aload_n 0, 1) := by decide +kernel
theorem dX2_keyFor_99 : decode cX2_keyFor 99 = .ok (.getfield 9, 3) := by decide +kernel
theorem dX2_keyFor_102 : decode cX2_keyFor 102 = .ok (.i2l, 1) := by decide +kernel
theorem dX2_keyFor_103 : decode cX2_keyFor 103 = .ok (.ldiv, 1) := by decide +kernel
theorem dX2_keyFor_104 : decode cX2_keyFor 104 = .ok (.l2i, 1) := by decide +kernel
theorem dX2_keyFor_105 : decode cX2_keyFor 105 = .ok (.goto 4, 3) := by decide +kernel
theorem dX2_keyFor_108 : decode cX2_keyFor 108 = .ok (.iconst 0, 1) := by decide +kernel
theorem dX2_keyFor_109 : decode cX2_keyFor 109 = .ok (.ireturn, 1) := by decide +kernel
theorem dX3_init_0 : decode cX3_init 0 = .ok (.aload_n 0, 1) := by decide +kernel
theorem dX3_init_1 : decode cX3_init 1 = .ok (.invokespecial 1, 3) := by decide +kernel
theorem dX3_init_4 : decode cX3_init 4 = .ok (.aload_n 0, 1) := by decide +kernel
theorem dX3_init_5 : decode cX3_init 5 = .ok (.getstatic 7, 3) := by decide +kernel
theorem dX3_init_8 : decode cX3_init 8 = .ok (.invokevirtual 13, 3) := by decide +kernel
theorem dX3_init_11 : decode cX3_init 11 = .ok (.checkcast 14, 3) := by decide +kernel
theorem dX3_init_14 : decode cX3_init 14 = .ok (.putfield 18, 3) := by decide +kernel
theorem dX3_init_17 : decode cX3_init 17 = .ok (.return_, 1) := by decide +kernel
theorem dX3_has_0 : decode cX3_has 0 = .ok (.iload_n 1, 1) := by decide +kernel
theorem dX3_has_1 : decode cX3_has 1 = .ok (.ifCond .lt 16, 3) := by decide +kernel
theorem dX3_has_4 : decode cX3_has 4 = .ok (.iload_n 1, 1) := by decide +kernel
theorem dX3_has_5 : decode cX3_has 5 = .ok (.aload_n 0, 1) := by decide +kernel
theorem dX3_has_6 : decode cX3_has 6 = .ok (.getfield 18, 3) := by decide +kernel
theorem dX3_has_9 : decode cX3_has 9 = .ok (.arraylength, 1) := by decide +kernel
theorem dX3_has_10 : decode cX3_has 10 = .ok (.if_icmp .ge 7, 3) := by decide +kernel
theorem dX3_has_13 : decode cX3_has 13 = .ok (.iconst 1, 1) := by decide +kernel
theorem dX3_has_14 : decode cX3_has 14 = .ok (.goto 4, 3) := by decide +kernel
theorem dX3_has_17 : decode cX3_has 17 = .ok (.iconst 0, 1) := by decide +kernel
theorem dX3_has_18 : decode cX3_has 18 = .ok (.ireturn, 1) := by decide +kernel
set_option maxRecDepth 20000 in
theorem ggX3_allows_X7_within : GoodIn wsX3_allows wsX7_within := goodIn_r _ [5] rfl (by decide +kernel)
set_option maxRecDepth 20000 in
theorem gX3_allows_X7_within_n27 : GoodIn wsX3_allows (wsX7_within) := ggX3_allows_X7_within
theorem dX3_allows_0 : decode cX3_allows 0 = .ok (.iload_n 2, 1) := by decide +kernel
theorem dX3_allows_1 : decode cX3_allows 1 = .ok (.getstatic 21, 3) := by decide +kernel
theorem dX3_allows_4 : decode cX3_allows 4 = .ok (.iload_n 1, 1) := by decide +kernel
theorem dX3_allows_5 : decode cX3_allows 5 = .ok (.iaload, 1) := by decide +kernel
theorem dX3_allows_6 : decode cX3_allows 6 = .ok (.getstatic 24, 3) := by decide +kernel
theorem dX3_allows_9 : decode cX3_allows 9 = .ok (.iload_n 1, 1) := by decide +kernel
theorem dX3_allows_10 : decode cX3_allows 10 = .ok (.iaload, 1) := by decide +kernel
theorem dX3_allows_11 : decode cX3_allows 11 = .ok (.invokestatic 27, 3) := by decide +kernel
theorem dX3_allows_14 : decode cX3_allows 14 = .ok (.ireturn, 1) := by decide +kernel
theorem dX3_valueOf_0 : decode cX3_valueOf 0 = .ok (.aload_n 0, 1) := by decide +kernel
theorem dX3_valueOf_1 : decode cX3_valueOf 1 = .ok (.getfield 18, 3) := by decide +kernel
theorem dX3_valueOf_4 : decode cX3_valueOf 4 = .ok (.iload_n 1, 1) := by decide +kernel
theorem dX3_valueOf_5 : decode cX3_valueOf 5 = .ok (.iaload, 1) := by decide +kernel
theorem dX3_valueOf_6 : decode cX3_valueOf 6 = .ok (.ireturn, 1) := by decide +kernel
theorem dX3_change_0 : decode cX3_change 0 = .ok (.aload_n 0, 1) := by decide +kernel
theorem dX3_change_1 : decode cX3_change 1 = .ok (.getfield 18, 3) := by decide +kernel
theorem dX3_change_4 : decode cX3_change 4 = .ok (.iload_n 1, 1) := by decide +kernel
theorem dX3_change_5 : decode cX3_change 5 = .ok (.iaload, 1) := by decide +kernel
theorem dX3_change_6 : decode cX3_change 6 = .ok (.istore_n 3, 1) := by decide +kernel
theorem dX3_change_7 : decode cX3_change 7 = .ok (.aload_n 0, 1) := by decide +kernel
theorem dX3_change_8 : decode cX3_change 8 = .ok (.getfield 18, 3) := by decide +kernel
theorem dX3_change_11 : decode cX3_change 11 = .ok (.iload_n 1, 1) := by decide +kernel
theorem dX3_change_12 : decode cX3_change 12 = .ok (.iload_n 2, 1) := by decide +kernel
theorem dX3_change_13 : decode cX3_change 13 = .ok (.iastore, 1) := by decide +kernel
theorem dX3_change_14 : decode cX3_change 14 = .ok (.iload_n 3, 1) := by decide +kernel
theorem dX3_change_15 : decode cX3_change 15 = .ok (.ireturn, 1) := by decide +kernel
set_option maxRecDepth 20000 in
theorem ggX4_init_X4_restart : GoodIn wsX4_init wsX4_restart := goodIn_r _ [12, 13, 14, 15, 16, 17, 18, 19, 20, 21, 22] rfl (by decide +kernel)
set_option maxRecDepth 20000 in
theorem gX4_init_X4_restart : GoodIn wsX4_init (wsV RX4 19 RX4 yX4_restart wsX4_restart) := goodIn_app (goodIn_of _ (by decide +kernel)) ggX4_init_X4_restart
theorem dX4_init_0 : decode cX4_init 0 = .ok (.aload_n 0, 1) := by decide +kernel
theorem dX4_init_1 : decode cX4_init 1 = .ok (.invokespecial 3, 3) := by decide +kernel
theorem dX4_init_4 : decode cX4_init 4 = .ok (.aload_n 0, 1) := by decide +kernel
theorem dX4_init_5 : decode cX4_init 5 = .ok (.sipush 8000, 3) := by decide +kernel
theorem dX4_init_8 : decode cX4_init 8 = .ok (.newarray .int, 2) := by decide +kernel
theorem dX4_init_10 : decode cX4_init 10 = .ok (.putfield 9, 3) := by decide +kernel
theorem dX4_init_13 : decode cX4_init 13 = .ok (.aload_n 0, 1) := by decide +kernel
theorem dX4_init_14 : decode cX4_init 14 = .ok (.sipush 1000, 3) := by decide +kernel
theorem dX4_init_17 : decode cX4_init 17 = .ok (.newarray .boolean, 2) := by decide +kernel
theorem dX4_init_19 : decode cX4_init 19 = .ok (.putfield 15, 3) := by decide +kernel
theorem dX4_init_22 : decode cX4_init 22 = .ok (.aload_n 0, 1) := by decide +kernel
theorem dX4_init_23 : decode cX4_init 23 = .ok (.invokevirtual 19, 3) := by decide +kernel
theorem dX4_init_26 : decode cX4_init 26 = .ok (.return_, 1) := by decide +kernel
theorem dX4_restart_0 : decode cX4_restart 0 = .ok (.aload_n 0, 1) := by decide +kernel
theorem dX4_restart_1 : decode cX4_restart 1 = .ok (.iconst 0, 1) := by decide +kernel
theorem dX4_restart_2 : decode cX4_restart 2 = .ok (.putfield 22, 3) := by decide +kernel
theorem dX4_restart_5 : decode cX4_restart 5 = .ok (.aload_n 0, 1) := by decide +kernel
theorem dX4_restart_6 : decode cX4_restart 6 = .ok (.iconst 0, 1) := by decide +kernel
theorem dX4_restart_7 : decode cX4_restart 7 = .ok (.putfield 26, 3) := by decide +kernel
theorem dX4_restart_10 : decode cX4_restart 10 = .ok (.aload_n 0, 1) := by decide +kernel
theorem dX4_restart_11 : decode cX4_restart 11 = .ok (.iconst 0, 1) := by decide +kernel
theorem dX4_restart_12 : decode cX4_restart 12 = .ok (.putfield 29, 3) := by decide +kernel
theorem dX4_restart_15 : decode cX4_restart 15 = .ok (.aload_n 0, 1) := by decide +kernel
theorem dX4_restart_16 : decode cX4_restart 16 = .ok (.bipush (-6), 2) := by decide +kernel
theorem dX4_restart_18 : decode cX4_restart 18 = .ok (.putfield 32, 3) := by decide +kernel
theorem dX4_restart_21 : decode cX4_restart 21 = .ok (.return_, 1) := by decide +kernel
theorem dX4_has_0 : decode cX4_has 0 = .ok (.iload_n 1, 1) := by decide +kernel
theorem dX4_has_1 : decode cX4_has 1 = .ok (.iconst 1, 1) := by decide +kernel
theorem dX4_has_2 : decode cX4_has 2 = .ok (.if_icmp .lt 15, 3) := by decide +kernel
theorem dX4_has_5 : decode cX4_has 5 = .ok (.iload_n 1, 1) := by decide +kernel
theorem dX4_has_6 : decode cX4_has 6 = .ok (.aload_n 0, 1) := by decide +kernel
theorem dX4_has_7 : decode cX4_has 7 = .ok (.getfield 22, 3) := by decide +kernel
theorem dX4_has_10 : decode cX4_has 10 = .ok (.if_icmp .gt 7, 3) := by decide +kernel
theorem dX4_has_13 : decode cX4_has 13 = .ok (.iconst 1, 1) := by decide +kernel
theorem dX4_has_14 : decode cX4_has 14 = .ok (.goto 4, 3) := by decide +kernel
theorem dX4_has_17 : decode cX4_has 17 = .ok (.iconst 0, 1) := by decide +kernel
theorem dX4_has_18 : decode cX4_has 18 = .ok (.ireturn, 1) := by decide +kernel
theorem dX4_begin_0 : decode cX4_begin 0 = .ok (.aload_n 0, 1) := by decide +kernel
theorem dX4_begin_1 : decode cX4_begin 1 = .ok (.dup, 1) := by decide +kernel
theorem dX4_begin_2 : decode cX4_begin 2 = .ok (.getfield 22, 3) := by decide +kernel
theorem dX4_begin_5 : decode cX4_begin 5 = .ok (.iconst 1, 1) := by decide +kernel
theorem dX4_begin_6 : decode cX4_begin 6 = .ok (.iadd, 1) := by decide +kernel
theorem dX4_begin_7 : decode cX4_begin 7 = .ok (.putfield 22, 3) := by decide +kernel
theorem dX4_begin_10 : decode cX4_begin 10 = .ok (.return_, 1) := by decide +kernel
theorem dX4_note_0 : decode cX4_note 0 = .ok (.aload_n 0, 1) := by decide +kernel
theorem dX4_note_1 : decode cX4_note 1 = .ok (.getfield 9, 3) := by decide +kernel
theorem dX4_note_4 : decode cX4_note 4 = .ok (.aload_n 0, 1) := by decide +kernel
theorem dX4_note_5 : decode cX4_note 5 = .ok (.getfield 22, 3) := by decide +kernel
theorem dX4_note_8 : decode cX4_note 8 = .ok (.iconst 1, 1) := by decide +kernel
theorem dX4_note_9 : decode cX4_note 9 = .ok (.isub, 1) := by decide +kernel
theorem dX4_note_10 : decode cX4_note 10 = .ok (.bipush 8, 2) := by decide +kernel
theorem dX4_note_12 : decode cX4_note 12 = .ok (.imul, 1) := by decide +kernel
theorem dX4_note_13 : decode cX4_note 13 = .ok (.iload_n 1, 1) := by decide +kernel
theorem dX4_note_14 : decode cX4_note 14 = .ok (.iadd, 1) := by decide +kernel
theorem dX4_note_15 : decode cX4_note 15 = .ok (.iload_n 2, 1) := by decide +kernel
theorem dX4_note_16 : decode cX4_note 16 = .ok (.iastore, 1) := by decide +kernel
theorem dX4_note_17 : decode cX4_note 17 = .ok (.return_, 1) := by decide +kernel
theorem dX4_judge_0 : decode cX4_judge 0 = .ok (.aload_n 0, 1) := by decide +kernel
theorem dX4_judge_1 : decode cX4_judge 1 = .ok (.getfield 15, 3) := by decide +kernel
theorem dX4_judge_4 : decode cX4_judge 4 = .ok (.aload_n 0, 1) := by decide +kernel
theorem dX4_judge_5 : decode cX4_judge 5 = .ok (.getfield 22, 3) := by decide +kernel
theorem dX4_judge_8 : decode cX4_judge 8 = .ok (.iconst 1, 1) := by decide +kernel
theorem dX4_judge_9 : decode cX4_judge 9 = .ok (.isub, 1) := by decide +kernel
theorem dX4_judge_10 : decode cX4_judge 10 = .ok (.iload_n 1, 1) := by decide +kernel
theorem dX4_judge_11 : decode cX4_judge 11 = .ok (.bastore, 1) := by decide +kernel
theorem dX4_judge_12 : decode cX4_judge 12 = .ok (.aload_n 0, 1) := by decide +kernel
theorem dX4_judge_13 : decode cX4_judge 13 = .ok (.iload_n 1, 1) := by decide +kernel
theorem dX4_judge_14 : decode cX4_judge 14 = .ok (.ifCond .eq 12, 3) := by decide +kernel
theorem dX4_judge_17 : decode cX4_judge 17 = .ok (.aload_n 0, 1) := by decide +kernel
theorem dX4_judge_18 : decode cX4_judge 18 = .ok (.getfield 29, 3) := by decide +kernel
theorem dX4_judge_21 : decode cX4_judge 21 = .ok (.iconst 1, 1) := by decide +kernel
theorem dX4_judge_22 : decode cX4_judge 22 = .ok (.iadd, 1) := by decide +kernel
theorem dX4_judge_23 : decode cX4_judge 23 = .ok (.goto 4, 3) := by decide +kernel
theorem dX4_judge_26 : decode cX4_judge 26 = .ok (.iconst 0, 1) := by decide +kernel
theorem dX4_judge_27 : decode cX4_judge 27 = .ok (.putfield 29, 3) := by decide +kernel
theorem dX4_judge_30 : decode cX4_judge 30 = .ok (.iload_n 1, 1) := by decide +kernel
theorem dX4_judge_31 : decode cX4_judge 31 = .ok (.ifCond .eq 13, 3) := by decide +kernel
theorem dX4_judge_34 : decode cX4_judge 34 = .ok (.aload_n 0, 1) := by decide +kernel
theorem dX4_judge_35 : decode cX4_judge 35 = .ok (.dup, 1) := by decide +kernel
theorem dX4_judge_36 : decode cX4_judge 36 = .ok (.getfield 26, 3) := by decide +kernel
theorem dX4_judge_39 : decode cX4_judge 39 = .ok (.iconst 1, 1) := by decide +kernel
theorem dX4_judge_40 : decode cX4_judge 40 = .ok (.iadd, 1) := by decide +kernel
theorem dX4_judge_41 : decode cX4_judge 41 = .ok (.putfield 26, 3) := by decide +kernel
theorem dX4_judge_44 : decode cX4_judge 44 = .ok (.aload_n 0, 1) := by decide +kernel
theorem dX4_judge_45 : decode cX4_judge 45 = .ok (.getfield 32, 3) := by decide +kernel
theorem dX4_judge_48 : decode cX4_judge 48 = .ok (.bipush (-6), 2) := by decide +kernel
theorem dX4_judge_50 : decode cX4_judge 50 = .ok (.if_icmp .ne 19, 3) := by decide +kernel
theorem dX4_judge_53 : decode cX4_judge 53 = .ok (.aload_n 0, 1) := by decide +kernel
theorem dX4_judge_54 : decode cX4_judge 54 = .ok (.getfield 29, 3) := by decide +kernel
theorem dX4_judge_57 : decode cX4_judge 57 = .ok (.iload_n 2, 1) := by decide +kernel
theorem dX4_judge_58 : decode cX4_judge 58 = .ok (.if_icmp .lt 11, 3) := by decide +kernel
theorem dX4_judge_61 : decode cX4_judge 61 = .ok (.aload_n 0, 1) := by decide +kernel
theorem dX4_judge_62 : decode cX4_judge 62 = .ok (.aload_n 0, 1) := by decide +kernel
theorem dX4_judge_63 : decode cX4_judge 63 = .ok (.getfield 22, 3) := by decide +kernel
theorem dX4_judge_66 : decode cX4_judge 66 = .ok (.putfield 32, 3) := by decide +kernel
theorem dX4_judge_69 : decode cX4_judge 69 = .ok (.return_, 1) := by decide +kernel
theorem dX4_wasGood_0 : decode cX4_wasGood 0 = .ok (.aload_n 0, 1) := by decide +kernel
theorem dX4_wasGood_1 : decode cX4_wasGood 1 = .ok (.getfield 15, 3) := by decide +kernel
theorem dX4_wasGood_4 : decode cX4_wasGood 4 = .ok (.iload_n 1, 1) := by decide +kernel
theorem dX4_wasGood_5 : decode cX4_wasGood 5 = .ok (.iconst 1, 1) := by decide +kernel
theorem dX4_wasGood_6 : decode cX4_wasGood 6 = .ok (.isub, 1) := by decide +kernel
theorem dX4_wasGood_7 : decode cX4_wasGood 7 = .ok (.baload, 1) := by decide +kernel
theorem dX4_wasGood_8 : decode cX4_wasGood 8 = .ok (.ireturn, 1) := by decide +kernel
theorem dX4_densityOn_0 : decode cX4_densityOn 0 = .ok (.aload_n 0, 1) := by decide +kernel
theorem dX4_densityOn_1 : decode cX4_densityOn 1 = .ok (.getfield 9, 3) := by decide +kernel
theorem dX4_densityOn_4 : decode cX4_densityOn 4 = .ok (.iload_n 1, 1) := by decide +kernel
theorem dX4_densityOn_5 : decode cX4_densityOn 5 = .ok (.iconst 1, 1) := by decide +kernel
theorem dX4_densityOn_6 : decode cX4_densityOn 6 = .ok (.isub, 1) := by decide +kernel
theorem dX4_densityOn_7 : decode cX4_densityOn 7 = .ok (.bipush 8, 2) := by decide +kernel
theorem dX4_densityOn_9 : decode cX4_densityOn 9 = .ok (.imul, 1) := by decide +kernel
theorem dX4_densityOn_10 : decode cX4_densityOn 10 = .ok (.iload_n 2, 1) := by decide +kernel
theorem dX4_densityOn_11 : decode cX4_densityOn 11 = .ok (.iadd, 1) := by decide +kernel
theorem dX4_densityOn_12 : decode cX4_densityOn 12 = .ok (.iaload, 1) := by decide +kernel
theorem dX4_densityOn_13 : decode cX4_densityOn 13 = .ok (.ireturn, 1) := by decide +kernel
set_option maxRecDepth 20000 in
theorem ggX4_latestDensity_X4_densityOn : GoodIn wsX4_latestDensity wsX4_densityOn := goodIn_r _ [6, 7, 8, 9, 10, 11, 12, 13] rfl (by decide +kernel)
set_option maxRecDepth 20000 in
theorem gX4_latestDensity_X4_densityOn : GoodIn wsX4_latestDensity (wsV RX4 35 RX4 yX4_densityOn wsX4_densityOn) := goodIn_app (goodIn_of _ (by decide +kernel)) ggX4_latestDensity_X4_densityOn
theorem dX4_latestDensity_0 : decode cX4_latestDensity 0 = .ok (.aload_n 0, 1) := by decide +kernel
theorem dX4_latestDensity_1 : decode cX4_latestDensity 1 = .ok (.getfield 22, 3) := by decide +kernel
theorem dX4_latestDensity_4 : decode cX4_latestDensity 4 = .ok (.ifCond .le 15, 3) := by decide +kernel
theorem dX4_latestDensity_7 : decode cX4_latestDensity 7 = .ok (.aload_n 0, 1) := by decide +kernel
theorem dX4_latestDensity_8 : decode cX4_latestDensity 8 = .ok (.aload_n 0, 1) := by decide +kernel
theorem dX4_latestDensity_9 : decode cX4_latestDensity 9 = .ok (.getfield 22, 3) := by decide +kernel
theorem dX4_latestDensity_12 : decode cX4_latestDensity 12 = .ok (.iload_n 1, 1) := by decide +kernel
theorem dX4_latestDensity_13 : decode cX4_latestDensity 13 = .ok (.invokevirtual 35, 3) := by decide +kernel
theorem dX4_latestDensity_16 : decode cX4_latestDensity 16 = .ok (.goto 4, 3) := by decide +kernel
theorem dX4_latestDensity_19 : decode cX4_latestDensity 19 = .ok (.iconst 0, 1) := by decide +kernel
theorem dX4_latestDensity_20 : decode cX4_latestDensity 20 = .ok (.ireturn, 1) := by decide +kernel
set_option maxRecDepth 20000 in
theorem ggX5_init_X5_restart : GoodIn wsX5_init wsX5_restart := goodIn_r _ [10, 11, 12, 13, 14, 15, 5, 16, 17, 18, 19, 20, 21] rfl (by decide +kernel)
set_option maxRecDepth 20000 in
theorem gX5_init_X5_restart : GoodIn wsX5_init (wsV RX5 15 RX5 yX5_restart wsX5_restart) := goodIn_app (goodIn_of _ (by decide +kernel)) ggX5_init_X5_restart
theorem dX5_init_0 : decode cX5_init 0 = .ok (.aload_n 0, 1) := by decide +kernel
theorem dX5_init_1 : decode cX5_init 1 = .ok (.invokespecial 3, 3) := by decide +kernel
theorem dX5_init_4 : decode cX5_init 4 = .ok (.aload_n 0, 1) := by decide +kernel
theorem dX5_init_5 : decode cX5_init 5 = .ok (.bipush 40, 2) := by decide +kernel
theorem dX5_init_7 : decode cX5_init 7 = .ok (.newarray .int, 2) := by decide +kernel
theorem dX5_init_9 : decode cX5_init 9 = .ok (.putfield 9, 3) := by decide +kernel
theorem dX5_init_12 : decode cX5_init 12 = .ok (.aload_n 0, 1) := by decide +kernel
theorem dX5_init_13 : decode cX5_init 13 = .ok (.iconst 4, 1) := by decide +kernel
theorem dX5_init_14 : decode cX5_init 14 = .ok (.iconst 3, 1) := by decide +kernel
theorem dX5_init_15 : decode cX5_init 15 = .ok (.invokevirtual 15, 3) := by decide +kernel
theorem dX5_init_18 : decode cX5_init 18 = .ok (.return_, 1) := by decide +kernel
theorem dX5_restart_0 : decode cX5_restart 0 = .ok (.aload_n 0, 1) := by decide +kernel
theorem dX5_restart_1 : decode cX5_restart 1 = .ok (.iload_n 1, 1) := by decide +kernel
theorem dX5_restart_2 : decode cX5_restart 2 = .ok (.putfield 19, 3) := by decide +kernel
theorem dX5_restart_5 : decode cX5_restart 5 = .ok (.aload_n 0, 1) := by decide +kernel
theorem dX5_restart_6 : decode cX5_restart 6 = .ok (.iload_n 2, 1) := by decide +kernel
theorem dX5_restart_7 : decode cX5_restart 7 = .ok (.putfield 23, 3) := by decide +kernel
theorem dX5_restart_10 : decode cX5_restart 10 = .ok (.aload_n 0, 1) := by decide +kernel
theorem dX5_restart_11 : decode cX5_restart 11 = .ok (.iconst 0, 1) := by decide +kernel
theorem dX5_restart_12 : decode cX5_restart 12 = .ok (.putfield 26, 3) := by decide +kernel
theorem dX5_restart_15 : decode cX5_restart 15 = .ok (.aload_n 0, 1) := by decide +kernel
theorem dX5_restart_16 : decode cX5_restart 16 = .ok (.iconst 0, 1) := by decide +kernel
theorem dX5_restart_17 : decode cX5_restart 17 = .ok (.putfield 29, 3) := by decide +kernel
theorem dX5_restart_20 : decode cX5_restart 20 = .ok (.aload_n 0, 1) := by decide +kernel
theorem dX5_restart_21 : decode cX5_restart 21 = .ok (.iconst 0, 1) := by decide +kernel
theorem dX5_restart_22 : decode cX5_restart 22 = .ok (.putfield 32, 3) := by decide +kernel
theorem dX5_restart_25 : decode cX5_restart 25 = .ok (.iconst 0, 1) := by decide +kernel
theorem dX5_restart_26 : decode cX5_restart 26 = .ok (.istore_n 3, 1) := by decide +kernel
theorem dX5_restart_27 : decode cX5_restart 27 = .ok (.iload_n 3, 1) := by decide +kernel
theorem dX5_restart_28 : decode cX5_restart 28 = .ok (.aload_n 0, 1) := by decide +kernel
theorem dX5_restart_29 : decode cX5_restart 29 = .ok (.getfield 9, 3) := by decide +kernel
theorem dX5_restart_32 : decode cX5_restart 32 = .ok (.arraylength, 1) := by decide +kernel
theorem dX5_restart_33 : decode cX5_restart 33 = .ok (.if_icmp .ge 16, 3) := by decide +kernel
theorem dX5_restart_36 : decode cX5_restart 36 = .ok (.aload_n 0, 1) := by decide +kernel
theorem dX5_restart_37 : decode cX5_restart 37 = .ok (.getfield 9, 3) := by decide +kernel
theorem dX5_restart_40 : decode cX5_restart 40 = .ok (.iload_n 3, 1) := by decide +kernel
theorem dX5_restart_41 : decode cX5_restart 41 = .ok (.iconst 0, 1) := by decide +kernel
theorem dX5_restart_42 : decode cX5_restart 42 = .ok (.iastore, 1) := by decide +kernel
theorem dX5_restart_43 : decode cX5_restart 43 = .ok (.iinc 3 1, 3) := by decide +kernel
theorem dX5_restart_46 : decode cX5_restart 46 = .ok (.goto (-19), 3) := by decide +kernel
theorem dX5_restart_49 : decode cX5_restart 49 = .ok (.return_, 1) := by decide +kernel
theorem dX5_has_0 : decode cX5_has 0 = .ok (.iload_n 1, 1) := by decide +kernel
theorem dX5_has_1 : decode cX5_has 1 = .ok (.ifCond .lt 15, 3) := by decide +kernel
theorem dX5_has_4 : decode cX5_has 4 = .ok (.iload_n 1, 1) := by decide +kernel
theorem dX5_has_5 : decode cX5_has 5 = .ok (.aload_n 0, 1) := by decide +kernel
theorem dX5_has_6 : decode cX5_has 6 = .ok (.getfield 23, 3) := by decide +kernel
theorem dX5_has_9 : decode cX5_has 9 = .ok (.if_icmp .ge 7, 3) := by decide +kernel
theorem dX5_has_12 : decode cX5_has 12 = .ok (.iconst 1, 1) := by decide +kernel
theorem dX5_has_13 : decode cX5_has 13 = .ok (.goto 4, 3) := by decide +kernel
theorem dX5_has_16 : decode cX5_has 16 = .ok (.iconst 0, 1) := by decide +kernel
theorem dX5_has_17 : decode cX5_has 17 = .ok (.ireturn, 1) := by decide +kernel
theorem dX5_inkAt_0 : decode cX5_inkAt 0 = .ok (.aload_n 0, 1) := by decide +kernel
theorem dX5_inkAt_1 : decode cX5_inkAt 1 = .ok (.getfield 9, 3) := by decide +kernel
theorem dX5_inkAt_4 : decode cX5_inkAt 4 = .ok (.iload_n 1, 1) := by decide +kernel
theorem dX5_inkAt_5 : decode cX5_inkAt 5 = .ok (.bipush 8, 2) := by decide +kernel
theorem dX5_inkAt_7 : decode cX5_inkAt 7 = .ok (.imul, 1) := by decide +kernel
theorem dX5_inkAt_8 : decode cX5_inkAt 8 = .ok (.iload_n 2, 1) := by decide +kernel
theorem dX5_inkAt_9 : decode cX5_inkAt 9 = .ok (.iadd, 1) := by decide +kernel
theorem dX5_inkAt_10 : decode cX5_inkAt 10 = .ok (.iaload, 1) := by decide +kernel
theorem dX5_inkAt_11 : decode cX5_inkAt 11 = .ok (.ireturn, 1) := by decide +kernel
theorem dX5_inkOn_0 : decode cX5_inkOn 0 = .ok (.iconst 0, 1) := by decide +kernel
theorem dX5_inkOn_1 : decode cX5_inkOn 1 = .ok (.istore_n 1, 1) := by decide +kernel
theorem dX5_inkOn_2 : decode cX5_inkOn 2 = .ok (.iconst 0, 1) := by decide +kernel
theorem dX5_inkOn_3 : decode cX5_inkOn 3 = .ok (.istore_n 2, 1) := by decide +kernel
theorem dX5_inkOn_4 : decode cX5_inkOn 4 = .ok (.iload_n 2, 1) := by decide +kernel
theorem dX5_inkOn_5 : decode cX5_inkOn 5 = .ok (.aload_n 0, 1) := by decide +kernel
theorem dX5_inkOn_6 : decode cX5_inkOn 6 = .ok (.getfield 9, 3) := by decide +kernel
theorem dX5_inkOn_9 : decode cX5_inkOn 9 = .ok (.arraylength, 1) := by decide +kernel
theorem dX5_inkOn_10 : decode cX5_inkOn 10 = .ok (.if_icmp .ge 18, 3) := by decide +kernel
theorem dX5_inkOn_13 : decode cX5_inkOn 13 = .ok (.iload_n 1, 1) := by decide +kernel
theorem dX5_inkOn_14 : decode cX5_inkOn 14 = .ok (.aload_n 0, 1) := by decide +kernel
theorem dX5_inkOn_15 : decode cX5_inkOn 15 = .ok (.getfield 9, 3) := by decide +kernel
theorem dX5_inkOn_18 : decode cX5_inkOn 18 = .ok (.iload_n 2, 1) := by decide +kernel
theorem dX5_inkOn_19 : decode cX5_inkOn 19 = .ok (.iaload, 1) := by decide +kernel
theorem dX5_inkOn_20 : decode cX5_inkOn 20 = .ok (.iadd, 1) := by decide +kernel
theorem dX5_inkOn_21 : decode cX5_inkOn 21 = .ok (.istore_n 1, 1) := by decide +kernel
theorem dX5_inkOn_22 : decode cX5_inkOn 22 = .ok (.iinc 2 1, 3) := by decide +kernel
theorem dX5_inkOn_25 : decode cX5_inkOn 25 = .ok (.goto (-21), 3) := by decide +kernel
theorem dX5_inkOn_28 : decode cX5_inkOn 28 = .ok (.iload_n 1, 1) := by decide +kernel
theorem dX5_inkOn_29 : decode cX5_inkOn 29 = .ok (.ireturn, 1) := by decide +kernel
theorem dX5_feedZone_0 : decode cX5_feedZone 0 = .ok (.aload_n 0, 1) := by decide +kernel
theorem dX5_feedZone_1 : decode cX5_feedZone 1 = .ok (.getfield 9, 3) := by decide +kernel
theorem dX5_feedZone_4 : decode cX5_feedZone 4 = .ok (.iload_n 1, 1) := by decide +kernel
theorem dX5_feedZone_5 : decode cX5_feedZone 5 = .ok (.dup2, 1) := by decide +kernel
theorem dX5_feedZone_6 : decode cX5_feedZone 6 = .ok (.iaload, 1) := by decide +kernel
theorem dX5_feedZone_7 : decode cX5_feedZone 7 = .ok (.iload_n 2, 1) := by decide +kernel
theorem dX5_feedZone_8 : decode cX5_feedZone 8 = .ok (.iadd, 1) := by decide +kernel
theorem dX5_feedZone_9 : decode cX5_feedZone 9 = .ok (.iastore, 1) := by decide +kernel
theorem dX5_feedZone_10 : decode cX5_feedZone 10 = .ok (.aload_n 0, 1) := by decide +kernel
theorem dX5_feedZone_11 : decode cX5_feedZone 11 = .ok (.dup, 1) := by decide +kernel
theorem dX5_feedZone_12 : decode cX5_feedZone 12 = .ok (.getfield 26, 3) := by decide +kernel
theorem dX5_feedZone_15 : decode cX5_feedZone 15 = .ok (.iload_n 2, 1) := by decide +kernel
theorem dX5_feedZone_16 : decode cX5_feedZone 16 = .ok (.iadd, 1) := by decide +kernel
theorem dX5_feedZone_17 : decode cX5_feedZone 17 = .ok (.putfield 26, 3) := by decide +kernel
theorem dX5_feedZone_20 : decode cX5_feedZone 20 = .ok (.return_, 1) := by decide +kernel
set_option maxRecDepth 20000 in
theorem ggX5_passOn_X5_share : GoodIn wsX5_passOn wsX5_share := goodIn_r _ [7] rfl (by decide +kernel)
set_option maxRecDepth 20000 in
theorem gX5_passOn_X5_share : GoodIn wsX5_passOn (va_wsS RX5 35 yX5_share wsX5_share) := goodIn_app (goodIn_of _ (by decide +kernel)) ggX5_passOn_X5_share
theorem dX5_passOn_0 : decode cX5_passOn 0 = .ok (.iconst 0, 1) := by decide +kernel
theorem dX5_passOn_1 : decode cX5_passOn 1 = .ok (.istore_n 2, 1) := by decide +kernel
theorem dX5_passOn_2 : decode cX5_passOn 2 = .ok (.iload_n 2, 1) := by decide +kernel
theorem dX5_passOn_3 : decode cX5_passOn 3 = .ok (.iconst 1, 1) := by decide +kernel
theorem dX5_passOn_4 : decode cX5_passOn 4 = .ok (.iadd, 1) := by decide +kernel
theorem dX5_passOn_5 : decode cX5_passOn 5 = .ok (.aload_n 0, 1) := by decide +kernel
theorem dX5_passOn_6 : decode cX5_passOn 6 = .ok (.getfield 23, 3) := by decide +kernel
theorem dX5_passOn_9 : decode cX5_passOn 9 = .ok (.if_icmp .ge 75, 3) := by decide +kernel
theorem dX5_passOn_12 : decode cX5_passOn 12 = .ok (.iconst 0, 1) := by decide +kernel
theorem dX5_passOn_13 : decode cX5_passOn 13 = .ok (.istore_n 3, 1) := by decide +kernel
theorem dX5_passOn_14 : decode cX5_passOn 14 = .ok (.iload_n 3, 1) := by decide +kernel
theorem dX5_passOn_15 : decode cX5_passOn 15 = .ok (.aload_n 0, 1) := by decide +kernel
theorem dX5_passOn_16 : decode cX5_passOn 16 = .ok (.getfield 19, 3) := by decide +kernel
theorem dX5_passOn_19 : decode cX5_passOn 19 = .ok (.if_icmp .ge 59, 3) := by decide +kernel
theorem dX5_passOn_22 : decode cX5_passOn 22 = .ok (.iload_n 2, 1) := by decide +kernel
theorem dX5_passOn_23 : decode cX5_passOn 23 = .ok (.bipush 8, 2) := by decide +kernel
theorem dX5_passOn_25 : decode cX5_passOn 25 = .ok (.imul, 1) := by decide +kernel
theorem dX5_passOn_26 : decode cX5_passOn 26 = .ok (.iload_n 3, 1) := by decide +kernel
theorem dX5_passOn_27 : decode cX5_passOn 27 = .ok (.iadd, 1) := by decide +kernel
theorem dX5_passOn_28 : decode cX5_passOn 28 = .ok (.istore 4, 2) := by decide +kernel
theorem dX5_passOn_30 : decode cX5_passOn 30 = .ok (.aload_n 0, 1) := by decide +kernel
theorem dX5_passOn_31 : decode cX5_passOn 31 = .ok (.getfield 9, 3) := by decide +kernel
theorem dX5_passOn_34 : decode cX5_passOn 34 = .ok (.iload 4, 2) := by decide +kernel
theorem dX5_passOn_36 : decode cX5_passOn 36 = .ok (.iaload, 1) := by decide +kernel
theorem dX5_passOn_37 : decode cX5_passOn 37 = .ok (.iload_n 1, 1) := by decide +kernel
theorem dX5_passOn_38 : decode cX5_passOn 38 = .ok (.bipush 100, 2) := by decide +kernel
theorem dX5_passOn_40 : decode cX5_passOn 40 = .ok (.invokestatic 35, 3) := by decide +kernel
theorem dX5_passOn_43 : decode cX5_passOn 43 = .ok (.istore 5, 2) := by decide +kernel
theorem dX5_passOn_45 : decode cX5_passOn 45 = .ok (.aload_n 0, 1) := by decide +kernel
theorem dX5_passOn_46 : decode cX5_passOn 46 = .ok (.getfield 9, 3) := by decide +kernel
theorem dX5_passOn_49 : decode cX5_passOn 49 = .ok (.iload 4, 2) := by decide +kernel
theorem dX5_passOn_51 : decode cX5_passOn 51 = .ok (.dup2, 1) := by decide +kernel
theorem dX5_passOn_52 : decode cX5_passOn 52 = .ok (.iaload, 1) := by decide +kernel
theorem dX5_passOn_53 : decode cX5_passOn 53 = .ok (.iload 5, 2) := by decide +kernel
theorem dX5_passOn_55 : decode cX5_passOn 55 = .ok (.isub, 1) := by decide +kernel
theorem dX5_passOn_56 : decode cX5_passOn 56 = .ok (.iastore, 1) := by decide +kernel
theorem dX5_passOn_57 : decode cX5_passOn 57 = .ok (.aload_n 0, 1) := by decide +kernel
theorem dX5_passOn_58 : decode cX5_passOn 58 = .ok (.getfield 9, 3) := by decide +kernel
theorem dX5_passOn_61 : decode cX5_passOn 61 = .ok (.iload 4, 2) := by decide +kernel
theorem dX5_passOn_63 : decode cX5_passOn 63 = .ok (.bipush 8, 2) := by decide +kernel
theorem dX5_passOn_65 : decode cX5_passOn 65 = .ok (.iadd, 1) := by decide +kernel
theorem dX5_passOn_66 : decode cX5_passOn 66 = .ok (.dup2, 1) := by decide +kernel
theorem dX5_passOn_67 : decode cX5_passOn 67 = .ok (.iaload, 1) := by decide +kernel
theorem dX5_passOn_68 : decode cX5_passOn 68 = .ok (.iload 5, 2) := by decide +kernel
theorem dX5_passOn_70 : decode cX5_passOn 70 = .ok (.iadd, 1) := by decide +kernel
theorem dX5_passOn_71 : decode cX5_passOn 71 = .ok (.iastore, 1) := by decide +kernel
theorem dX5_passOn_72 : decode cX5_passOn 72 = .ok (.iinc 3 1, 3) := by decide +kernel
theorem dX5_passOn_75 : decode cX5_passOn 75 = .ok (.goto (-61), 3) := by decide +kernel
theorem dX5_passOn_78 : decode cX5_passOn 78 = .ok (.iinc 2 1, 3) := by decide +kernel
theorem dX5_passOn_81 : decode cX5_passOn 81 = .ok (.goto (-79), 3) := by decide +kernel
theorem dX5_passOn_84 : decode cX5_passOn 84 = .ok (.return_, 1) := by decide +kernel
set_option maxRecDepth 20000 in
theorem ggX5_driftAside_X5_share : GoodIn wsX5_driftAside wsX5_share := goodIn_r _ [7] rfl (by decide +kernel)
set_option maxRecDepth 20000 in
theorem gX5_driftAside_X5_share : GoodIn wsX5_driftAside (va_wsS RX5 35 yX5_share wsX5_share) := goodIn_app (goodIn_of _ (by decide +kernel)) ggX5_driftAside_X5_share
theorem dX5_driftAside_0 : decode cX5_driftAside 0 = .ok (.iconst 0, 1) := by decide +kernel
theorem dX5_driftAside_1 : decode cX5_driftAside 1 = .ok (.istore_n 2, 1) := by decide +kernel
theorem dX5_driftAside_2 : decode cX5_driftAside 2 = .ok (.iload_n 2, 1) := by decide +kernel
theorem dX5_driftAside_3 : decode cX5_driftAside 3 = .ok (.aload_n 0, 1) := by decide +kernel
theorem dX5_driftAside_4 : decode cX5_driftAside 4 = .ok (.getfield 23, 3) := by decide +kernel
theorem dX5_driftAside_7 : decode cX5_driftAside 7 = .ok (.if_icmp .ge 105, 3) := by decide +kernel
theorem dX5_driftAside_10 : decode cX5_driftAside 10 = .ok (.iload_n 2, 1) := by decide +kernel
theorem dX5_driftAside_11 : decode cX5_driftAside 11 = .ok (.bipush 8, 2) := by decide +kernel
theorem dX5_driftAside_13 : decode cX5_driftAside 13 = .ok (.imul, 1) := by decide +kernel
theorem dX5_driftAside_14 : decode cX5_driftAside 14 = .ok (.istore_n 3, 1) := by decide +kernel
theorem dX5_driftAside_15 : decode cX5_driftAside 15 = .ok (.aload_n 0, 1) := by decide +kernel
theorem dX5_driftAside_16 : decode cX5_driftAside 16 = .ok (.getfield 9, 3) := by decide +kernel
theorem dX5_driftAside_19 : decode cX5_driftAside 19 = .ok (.iload_n 3, 1) := by decide +kernel
theorem dX5_driftAside_20 : decode cX5_driftAside 20 = .ok (.iaload, 1) := by decide +kernel
theorem dX5_driftAside_21 : decode cX5_driftAside 21 = .ok (.iload_n 1, 1) := by decide +kernel
theorem dX5_driftAside_22 : decode cX5_driftAside 22 = .ok (.sipush 200, 3) := by decide +kernel
theorem dX5_driftAside_25 : decode cX5_driftAside 25 = .ok (.invokestatic 35, 3) := by decide +kernel
theorem dX5_driftAside_28 : decode cX5_driftAside 28 = .ok (.istore 4, 2) := by decide +kernel
theorem dX5_driftAside_30 : decode cX5_driftAside 30 = .ok (.iconst 1, 1) := by decide +kernel
theorem dX5_driftAside_31 : decode cX5_driftAside 31 = .ok (.istore 5, 2) := by decide +kernel
theorem dX5_driftAside_33 : decode cX5_driftAside 33 = .ok (.iload 5, 2) := by decide +kernel
theorem dX5_driftAside_35 : decode cX5_driftAside 35 = .ok (.aload_n 0, 1) := by decide +kernel
theorem dX5_driftAside_36 : decode cX5_driftAside 36 = .ok (.getfield 19, 3) := by decide +kernel
theorem dX5_driftAside_39 : decode cX5_driftAside 39 = .ok (.if_icmp .ge 67, 3) := by decide +kernel
theorem dX5_driftAside_42 : decode cX5_driftAside 42 = .ok (.aload_n 0, 1) := by decide +kernel
theorem dX5_driftAside_43 : decode cX5_driftAside 43 = .ok (.getfield 9, 3) := by decide +kernel
theorem dX5_driftAside_46 : decode cX5_driftAside 46 = .ok (.iload_n 3, 1) := by decide +kernel
theorem dX5_driftAside_47 : decode cX5_driftAside 47 = .ok (.iload 5, 2) := by decide +kernel
theorem dX5_driftAside_49 : decode cX5_driftAside 49 = .ok (.iadd, 1) := by decide +kernel
theorem dX5_driftAside_50 : decode cX5_driftAside 50 = .ok (.iaload, 1) := by decide +kernel
theorem dX5_driftAside_51 : decode cX5_driftAside 51 = .ok (.iload_n 1, 1) := by decide +kernel
theorem dX5_driftAside_52 : decode cX5_driftAside 52 = .ok (.sipush 200, 3) := by decide +kernel
theorem dX5_driftAside_55 : decode cX5_driftAside 55 = .ok (.invokestatic 35, 3) := by decide +kernel
theorem dX5_driftAside_58 : decode cX5_driftAside 58 = .ok (.istore 6, 2) := by decide +kernel
theorem dX5_driftAside_60 : decode cX5_driftAside 60 = .ok (.aload_n 0, 1) := by decide +kernel
theorem dX5_driftAside_61 : decode cX5_driftAside 61 = .ok (.getfield 9, 3) := by decide +kernel
theorem dX5_driftAside_64 : decode cX5_driftAside 64 = .ok (.iload_n 3, 1) := by decide +kernel
theorem dX5_driftAside_65 : decode cX5_driftAside 65 = .ok (.iload 5, 2) := by decide +kernel
theorem dX5_driftAside_67 : decode cX5_driftAside 67 = .ok (.iadd, 1) := by decide +kernel
theorem dX5_driftAside_68 : decode cX5_driftAside 68 = .ok (.iconst 1, 1) := by decide +kernel
theorem dX5_driftAside_69 : decode cX5_driftAside 69 = .ok (.isub, 1) := by decide +kernel
theorem dX5_driftAside_70 : decode cX5_driftAside 70 = .ok (.dup2, 1) := by decide +kernel
theorem dX5_driftAside_71 : decode cX5_driftAside 71 = .ok (.iaload, 1) := by decide +kernel
theorem dX5_driftAside_72 : decode cX5_driftAside 72 = .ok (.iload 6, 2) := by decide +kernel
theorem dX5_driftAside_74 : decode cX5_driftAside 74 = .ok (.iload 4, 2) := by decide +kernel
theorem dX5_driftAside_76 : decode cX5_driftAside 76 = .ok (.isub, 1) := by decide +kernel
theorem dX5_driftAside_77 : decode cX5_driftAside 77 = .ok (.iadd, 1) := by decide +kernel
theorem dX5_driftAside_78 : decode cX5_driftAside 78 = .ok (.iastore, 1) := by decide +kernel
theorem dX5_driftAside_79 : decode cX5_driftAside 79 = .ok (.aload_n 0, 1) := by decide +kernel
theorem dX5_driftAside_80 : decode cX5_driftAside 80 = .ok (.getfield 9, 3) := by decide +kernel
theorem dX5_driftAside_83 : decode cX5_driftAside 83 = .ok (.iload_n 3, 1) := by decide +kernel
theorem dX5_driftAside_84 : decode cX5_driftAside 84 = .ok (.iload 5, 2) := by decide +kernel
theorem dX5_driftAside_86 : decode cX5_driftAside 86 = .ok (.iadd, 1) := by decide +kernel
theorem dX5_driftAside_87 : decode cX5_driftAside 87 = .ok (.dup2, 1) := by decide +kernel
theorem dX5_driftAside_88 : decode cX5_driftAside 88 = .ok (.iaload, 1) := by decide +kernel
theorem dX5_driftAside_89 : decode cX5_driftAside 89 = .ok (.iload 4, 2) := by decide +kernel
theorem dX5_driftAside_91 : decode cX5_driftAside 91 = .ok (.iload 6, 2) := by decide +kernel
theorem dX5_driftAside_93 : decode cX5_driftAside 93 = .ok (.isub, 1) := by decide +kernel
theorem dX5_driftAside_94 : decode cX5_driftAside 94 = .ok (.iadd, 1) := by decide +kernel
theorem dX5_driftAside_95 : decode cX5_driftAside 95 = .ok (.iastore, 1) := by decide +kernel
theorem dX5_driftAside_96 : decode cX5_driftAside 96 = .ok (.iload 6, 2) := by decide +kernel
theorem dX5_driftAside_98 : decode cX5_driftAside 98 = .ok (.istore 4, 2) := by decide +kernel
theorem dX5_driftAside_100 : decode cX5_driftAside 100 = .ok (.iinc 5 1, 3) := by decide +kernel
theorem dX5_driftAside_103 : decode cX5_driftAside 103 = .ok (.goto (-70), 3) := by decide +kernel
theorem dX5_driftAside_106 : decode cX5_driftAside 106 = .ok (.iinc 2 1, 3) := by decide +kernel
theorem dX5_driftAside_109 : decode cX5_driftAside 109 = .ok (.goto (-107), 3) := by decide +kernel
theorem dX5_driftAside_112 : decode cX5_driftAside 112 = .ok (.return_, 1) := by decide +kernel
set_option maxRecDepth 20000 in
theorem ggX5_takeOff_X5_share : GoodIn wsX5_takeOff wsX5_share := goodIn_r _ [8] rfl (by decide +kernel)
set_option maxRecDepth 20000 in
theorem gX5_takeOff_X5_share : GoodIn wsX5_takeOff (va_wsS RX5 35 yX5_share wsX5_share) := goodIn_app (goodIn_of _ (by decide +kernel)) ggX5_takeOff_X5_share
theorem dX5_takeOff_0 : decode cX5_takeOff 0 = .ok (.aload_n 0, 1) := by decide +kernel
theorem dX5_takeOff_1 : decode cX5_takeOff 1 = .ok (.getfield 23, 3) := by decide +kernel
theorem dX5_takeOff_4 : decode cX5_takeOff 4 = .ok (.iconst 1, 1) := by decide +kernel
theorem dX5_takeOff_5 : decode cX5_takeOff 5 = .ok (.isub, 1) := by decide +kernel
theorem dX5_takeOff_6 : decode cX5_takeOff 6 = .ok (.bipush 8, 2) := by decide +kernel
theorem dX5_takeOff_8 : decode cX5_takeOff 8 = .ok (.imul, 1) := by decide +kernel
theorem dX5_takeOff_9 : decode cX5_takeOff 9 = .ok (.iload_n 1, 1) := by decide +kernel
theorem dX5_takeOff_10 : decode cX5_takeOff 10 = .ok (.iadd, 1) := by decide +kernel
theorem dX5_takeOff_11 : decode cX5_takeOff 11 = .ok (.istore 4, 2) := by decide +kernel
theorem dX5_takeOff_13 : decode cX5_takeOff 13 = .ok (.aload_n 0, 1) := by decide +kernel
theorem dX5_takeOff_14 : decode cX5_takeOff 14 = .ok (.getfield 9, 3) := by decide +kernel
theorem dX5_takeOff_17 : decode cX5_takeOff 17 = .ok (.iload 4, 2) := by decide +kernel
theorem dX5_takeOff_19 : decode cX5_takeOff 19 = .ok (.iaload, 1) := by decide +kernel
theorem dX5_takeOff_20 : decode cX5_takeOff 20 = .ok (.iload_n 2, 1) := by decide +kernel
theorem dX5_takeOff_21 : decode cX5_takeOff 21 = .ok (.iload_n 3, 1) := by decide +kernel
theorem dX5_takeOff_22 : decode cX5_takeOff 22 = .ok (.imul, 1) := by decide +kernel
theorem dX5_takeOff_23 : decode cX5_takeOff 23 = .ok (.sipush 10000, 3) := by decide +kernel
theorem dX5_takeOff_26 : decode cX5_takeOff 26 = .ok (.invokestatic 35, 3) := by decide +kernel
theorem dX5_takeOff_29 : decode cX5_takeOff 29 = .ok (.istore 5, 2) := by decide +kernel
theorem dX5_takeOff_31 : decode cX5_takeOff 31 = .ok (.aload_n 0, 1) := by decide +kernel
theorem dX5_takeOff_32 : decode cX5_takeOff 32 = .ok (.getfield 9, 3) := by decide +kernel
theorem dX5_takeOff_35 : decode cX5_takeOff 35 = .ok (.iload 4, 2) := by decide +kernel
theorem dX5_takeOff_37 : decode cX5_takeOff 37 = .ok (.iaload, 1) := by decide +kernel
theorem dX5_takeOff_38 : decode cX5_takeOff 38 = .ok (.bipush 100, 2) := by decide +kernel
theorem dX5_takeOff_40 : decode cX5_takeOff 40 = .ok (.idiv, 1) := by decide +kernel
theorem dX5_takeOff_41 : decode cX5_takeOff 41 = .ok (.istore 6, 2) := by decide +kernel
theorem dX5_takeOff_43 : decode cX5_takeOff 43 = .ok (.aload_n 0, 1) := by decide +kernel
theorem dX5_takeOff_44 : decode cX5_takeOff 44 = .ok (.getfield 9, 3) := by decide +kernel
theorem dX5_takeOff_47 : decode cX5_takeOff 47 = .ok (.iload 4, 2) := by decide +kernel
theorem dX5_takeOff_49 : decode cX5_takeOff 49 = .ok (.dup2, 1) := by decide +kernel
theorem dX5_takeOff_50 : decode cX5_takeOff 50 = .ok (.iaload, 1) := by decide +kernel
theorem dX5_takeOff_51 : decode cX5_takeOff 51 = .ok (.iload 5, 2) := by decide +kernel
theorem dX5_takeOff_53 : decode cX5_takeOff 53 = .ok (.iload 6, 2) := by decide +kernel
theorem dX5_takeOff_55 : decode cX5_takeOff 55 = .ok (.iadd, 1) := by decide +kernel
theorem dX5_takeOff_56 : decode cX5_takeOff 56 = .ok (.isub, 1) := by decide +kernel
theorem dX5_takeOff_57 : decode cX5_takeOff 57 = .ok (.iastore, 1) := by decide +kernel
theorem dX5_takeOff_58 : decode cX5_takeOff 58 = .ok (.aload_n 0, 1) := by decide +kernel
theorem dX5_takeOff_59 : decode cX5_takeOff 59 = .ok (.dup, 1) := by decide +kernel
theorem dX5_takeOff_60 : decode cX5_takeOff 60 = .ok (.getfield 29, 3) := by decide +kernel
theorem dX5_takeOff_63 : decode cX5_takeOff 63 = .ok (.iload 5, 2) := by decide +kernel
theorem dX5_takeOff_65 : decode cX5_takeOff 65 = .ok (.iadd, 1) := by decide +kernel
theorem dX5_takeOff_66 : decode cX5_takeOff 66 = .ok (.putfield 29, 3) := by decide +kernel
theorem dX5_takeOff_69 : decode cX5_takeOff 69 = .ok (.aload_n 0, 1) := by decide +kernel
theorem dX5_takeOff_70 : decode cX5_takeOff 70 = .ok (.dup, 1) := by decide +kernel
theorem dX5_takeOff_71 : decode cX5_takeOff 71 = .ok (.getfield 32, 3) := by decide +kernel
theorem dX5_takeOff_74 : decode cX5_takeOff 74 = .ok (.iload 6, 2) := by decide +kernel
theorem dX5_takeOff_76 : decode cX5_takeOff 76 = .ok (.iadd, 1) := by decide +kernel
theorem dX5_takeOff_77 : decode cX5_takeOff 77 = .ok (.putfield 32, 3) := by decide +kernel
theorem dX5_takeOff_80 : decode cX5_takeOff 80 = .ok (.iload 6, 2) := by decide +kernel
theorem dX5_takeOff_82 : decode cX5_takeOff 82 = .ok (.ireturn, 1) := by decide +kernel
theorem dX5_share_0 : decode cX5_share 0 = .ok (.iload_n 2, 1) := by decide +kernel
theorem dX5_share_1 : decode cX5_share 1 = .ok (.ifCond .le 15, 3) := by decide +kernel
theorem dX5_share_4 : decode cX5_share 4 = .ok (.iload_n 0, 1) := by decide +kernel
theorem dX5_share_5 : decode cX5_share 5 = .ok (.i2l, 1) := by decide +kernel
theorem dX5_share_6 : decode cX5_share 6 = .ok (.iload_n 1, 1) := by decide +kernel
theorem dX5_share_7 : decode cX5_share 7 = .ok (.i2l, 1) := by decide +kernel
theorem dX5_share_8 : decode cX5_share 8 = .ok (.lmul, 1) := by decide +kernel
theorem dX5_share_9 : decode cX5_share 9 = .ok (.iload_n 2, 1) := by decide +kernel
theorem dX5_share_10 : decode cX5_share 10 = .ok (.i2l, 1) := by decide +kernel
theorem dX5_share_11 : decode cX5_share 11 = .ok (.ldiv, 1) := by decide +kernel
theorem dX5_share_12 : decode cX5_share 12 = .ok (.l2i, 1) := by decide +kernel
theorem dX5_share_13 : decode cX5_share 13 = .ok (.goto 4, 3) := by decide +kernel
theorem dX5_share_16 : decode cX5_share 16 = .ok (.iconst 0, 1) := by decide +kernel
theorem dX5_share_17 : decode cX5_share 17 = .ok (.ireturn, 1) := by decide +kernel
set_option maxRecDepth 20000 in
theorem ggX6_init_X6_restart : GoodIn wsX6_init wsX6_restart := goodIn_r _ [11, 12, 6, 4, 13, 14] rfl (by decide +kernel)
set_option maxRecDepth 20000 in
theorem gX6_init_X6_restart : GoodIn wsX6_init (wsV RX6 18 RX6 yX6_restart wsX6_restart) := goodIn_app (goodIn_of _ (by decide +kernel)) ggX6_init_X6_restart
theorem dX6_init_0 : decode cX6_init 0 = .ok (.aload_n 0, 1) := by decide +kernel
theorem dX6_init_1 : decode cX6_init 1 = .ok (.invokespecial 3, 3) := by decide +kernel
theorem dX6_init_4 : decode cX6_init 4 = .ok (.aload_n 0, 1) := by decide +kernel
theorem dX6_init_5 : decode cX6_init 5 = .ok (.getstatic 9, 3) := by decide +kernel
theorem dX6_init_8 : decode cX6_init 8 = .ok (.arraylength, 1) := by decide +kernel
theorem dX6_init_9 : decode cX6_init 9 = .ok (.bipush 8, 2) := by decide +kernel
theorem dX6_init_11 : decode cX6_init 11 = .ok (.imul, 1) := by decide +kernel
theorem dX6_init_12 : decode cX6_init 12 = .ok (.newarray .int, 2) := by decide +kernel
theorem dX6_init_14 : decode cX6_init 14 = .ok (.putfield 15, 3) := by decide +kernel
theorem dX6_init_17 : decode cX6_init 17 = .ok (.aload_n 0, 1) := by decide +kernel
theorem dX6_init_18 : decode cX6_init 18 = .ok (.iconst 4, 1) := by decide +kernel
theorem dX6_init_19 : decode cX6_init 19 = .ok (.invokevirtual 18, 3) := by decide +kernel
theorem dX6_init_22 : decode cX6_init 22 = .ok (.return_, 1) := by decide +kernel
theorem dX6_restart_0 : decode cX6_restart 0 = .ok (.aload_n 0, 1) := by decide +kernel
theorem dX6_restart_1 : decode cX6_restart 1 = .ok (.iload_n 1, 1) := by decide +kernel
theorem dX6_restart_2 : decode cX6_restart 2 = .ok (.putfield 22, 3) := by decide +kernel
theorem dX6_restart_5 : decode cX6_restart 5 = .ok (.iconst 0, 1) := by decide +kernel
theorem dX6_restart_6 : decode cX6_restart 6 = .ok (.istore_n 2, 1) := by decide +kernel
theorem dX6_restart_7 : decode cX6_restart 7 = .ok (.iload_n 2, 1) := by decide +kernel
theorem dX6_restart_8 : decode cX6_restart 8 = .ok (.aload_n 0, 1) := by decide +kernel
theorem dX6_restart_9 : decode cX6_restart 9 = .ok (.getfield 15, 3) := by decide +kernel
theorem dX6_restart_12 : decode cX6_restart 12 = .ok (.arraylength, 1) := by decide +kernel
theorem dX6_restart_13 : decode cX6_restart 13 = .ok (.if_icmp .ge 23, 3) := by decide +kernel
theorem dX6_restart_16 : decode cX6_restart 16 = .ok (.aload_n 0, 1) := by decide +kernel
theorem dX6_restart_17 : decode cX6_restart 17 = .ok (.getfield 15, 3) := by decide +kernel
theorem dX6_restart_20 : decode cX6_restart 20 = .ok (.iload_n 2, 1) := by decide +kernel
theorem dX6_restart_21 : decode cX6_restart 21 = .ok (.getstatic 9, 3) := by decide +kernel
theorem dX6_restart_24 : decode cX6_restart 24 = .ok (.iload_n 2, 1) := by decide +kernel
theorem dX6_restart_25 : decode cX6_restart 25 = .ok (.bipush 8, 2) := by decide +kernel
theorem dX6_restart_27 : decode cX6_restart 27 = .ok (.idiv, 1) := by decide +kernel
theorem dX6_restart_28 : decode cX6_restart 28 = .ok (.iaload, 1) := by decide +kernel
theorem dX6_restart_29 : decode cX6_restart 29 = .ok (.iastore, 1) := by decide +kernel
theorem dX6_restart_30 : decode cX6_restart 30 = .ok (.iinc 2 1, 3) := by decide +kernel
theorem dX6_restart_33 : decode cX6_restart 33 = .ok (.goto (-26), 3) := by decide +kernel
theorem dX6_restart_36 : decode cX6_restart 36 = .ok (.return_, 1) := by decide +kernel
theorem dX6_has_0 : decode cX6_has 0 = .ok (.iload_n 1, 1) := by decide +kernel
theorem dX6_has_1 : decode cX6_has 1 = .ok (.ifCond .lt 15, 3) := by decide +kernel
theorem dX6_has_4 : decode cX6_has 4 = .ok (.iload_n 1, 1) := by decide +kernel
theorem dX6_has_5 : decode cX6_has 5 = .ok (.aload_n 0, 1) := by decide +kernel
theorem dX6_has_6 : decode cX6_has 6 = .ok (.getfield 22, 3) := by decide +kernel
theorem dX6_has_9 : decode cX6_has 9 = .ok (.if_icmp .ge 7, 3) := by decide +kernel
theorem dX6_has_12 : decode cX6_has 12 = .ok (.iconst 1, 1) := by decide +kernel
theorem dX6_has_13 : decode cX6_has 13 = .ok (.goto 4, 3) := by decide +kernel
theorem dX6_has_16 : decode cX6_has 16 = .ok (.iconst 0, 1) := by decide +kernel
theorem dX6_has_17 : decode cX6_has 17 = .ok (.ireturn, 1) := by decide +kernel
set_option maxRecDepth 20000 in
theorem ggX6_allows_X7_within : GoodIn wsX6_allows wsX7_within := goodIn_r _ [4] rfl (by decide +kernel)
set_option maxRecDepth 20000 in
theorem gX6_allows_X7_within_n29 : GoodIn wsX6_allows (wsX7_within) := ggX6_allows_X7_within
theorem dX6_allows_0 : decode cX6_allows 0 = .ok (.iload_n 2, 1) := by decide +kernel
theorem dX6_allows_1 : decode cX6_allows 1 = .ok (.iconst 0, 1) := by decide +kernel
theorem dX6_allows_2 : decode cX6_allows 2 = .ok (.getstatic 26, 3) := by decide +kernel
theorem dX6_allows_5 : decode cX6_allows 5 = .ok (.iload_n 1, 1) := by decide +kernel
theorem dX6_allows_6 : decode cX6_allows 6 = .ok (.iaload, 1) := by decide +kernel
theorem dX6_allows_7 : decode cX6_allows 7 = .ok (.invokestatic 29, 3) := by decide +kernel
theorem dX6_allows_10 : decode cX6_allows 10 = .ok (.ireturn, 1) := by decide +kernel
theorem dX6_valueOf_0 : decode cX6_valueOf 0 = .ok (.aload_n 0, 1) := by decide +kernel
theorem dX6_valueOf_1 : decode cX6_valueOf 1 = .ok (.getfield 15, 3) := by decide +kernel
theorem dX6_valueOf_4 : decode cX6_valueOf 4 = .ok (.iload_n 2, 1) := by decide +kernel
theorem dX6_valueOf_5 : decode cX6_valueOf 5 = .ok (.bipush 8, 2) := by decide +kernel
theorem dX6_valueOf_7 : decode cX6_valueOf 7 = .ok (.imul, 1) := by decide +kernel
theorem dX6_valueOf_8 : decode cX6_valueOf 8 = .ok (.iload_n 1, 1) := by decide +kernel
theorem dX6_valueOf_9 : decode cX6_valueOf 9 = .ok (.iadd, 1) := by decide +kernel
theorem dX6_valueOf_10 : decode cX6_valueOf 10 = .ok (.iaload, 1) := by decide +kernel
theorem dX6_valueOf_11 : decode cX6_valueOf 11 = .ok (.ireturn, 1) := by decide +kernel
theorem dX6_change_0 : decode cX6_change 0 = .ok (.iload_n 2, 1) := by decide +kernel
theorem dX6_change_1 : decode cX6_change 1 = .ok (.bipush 8, 2) := by decide +kernel
theorem dX6_change_3 : decode cX6_change 3 = .ok (.imul, 1) := by decide +kernel
theorem dX6_change_4 : decode cX6_change 4 = .ok (.iload_n 1, 1) := by decide +kernel
theorem dX6_change_5 : decode cX6_change 5 = .ok (.iadd, 1) := by decide +kernel
theorem dX6_change_6 : decode cX6_change 6 = .ok (.istore 4, 2) := by decide +kernel
theorem dX6_change_8 : decode cX6_change 8 = .ok (.aload_n 0, 1) := by decide +kernel
theorem dX6_change_9 : decode cX6_change 9 = .ok (.getfield 15, 3) := by decide +kernel
theorem dX6_change_12 : decode cX6_change 12 = .ok (.iload 4, 2) := by decide +kernel
theorem dX6_change_14 : decode cX6_change 14 = .ok (.iaload, 1) := by decide +kernel
theorem dX6_change_15 : decode cX6_change 15 = .ok (.istore 5, 2) := by decide +kernel
theorem dX6_change_17 : decode cX6_change 17 = .ok (.aload_n 0, 1) := by decide +kernel
theorem dX6_change_18 : decode cX6_change 18 = .ok (.getfield 15, 3) := by decide +kernel
theorem dX6_change_21 : decode cX6_change 21 = .ok (.iload 4, 2) := by decide +kernel
theorem dX6_change_23 : decode cX6_change 23 = .ok (.iload_n 3, 1) := by decide +kernel
theorem dX6_change_24 : decode cX6_change 24 = .ok (.iastore, 1) := by decide +kernel
theorem dX6_change_25 : decode cX6_change 25 = .ok (.iload 5, 2) := by decide +kernel
theorem dX6_change_27 : decode cX6_change 27 = .ok (.ireturn, 1) := by decide +kernel
set_option maxRecDepth 20000 in
theorem ggX7_init_X3_init : GoodIn wsX7_init wsX3_init := goodIn_r _ [35, 36, 2, 3, 37, 38, 39, 40, 41, 42, 43, 44, 108] rfl (by decide +kernel)
set_option maxRecDepth 20000 in
theorem gX7_init_X3_init : GoodIn wsX7_init (wsX3_init) := ggX7_init_X3_init
set_option maxRecDepth 20000 in
theorem ggX7_init_X6_init : GoodIn wsX7_init wsX6_init := goodIn_r _ [47, 48, 2, 3, 49, 50, 51, 52, 53, 54, 10, 55, 56, 117, 118] rfl (by decide +kernel)
set_option maxRecDepth 20000 in
theorem gX7_init_X6_init : GoodIn wsX7_init (wsX6_init) := ggX7_init_X6_init
set_option maxRecDepth 20000 in
theorem ggX7_init_X5_init : GoodIn wsX7_init wsX5_init := goodIn_r _ [59, 60, 2, 3, 50, 61, 62, 63, 64, 14, 65, 66, 67, 68, 69, 70, 119, 120, 121, 122, 123, 124] rfl (by decide +kernel)
set_option maxRecDepth 20000 in
theorem gX7_init_X5_init : GoodIn wsX7_init (wsX5_init) := ggX7_init_X5_init
set_option maxRecDepth 20000 in
theorem ggX7_init_X4_init : GoodIn wsX7_init wsX4_init := goodIn_r _ [73, 74, 2, 3, 50, 75, 76, 77, 78, 79, 80, 18, 81, 82, 83, 84, 85, 125, 126, 127, 128, 129, 130] rfl (by decide +kernel)
set_option maxRecDepth 20000 in
theorem gX7_init_X4_init : GoodIn wsX7_init (wsX4_init) := ggX7_init_X4_init
set_option maxRecDepth 20000 in
theorem ggX7_init_X2_init : GoodIn wsX7_init wsX2_init := goodIn_r _ [88, 89, 2, 3, 90, 131, 132, 133, 134, 135] rfl (by decide +kernel)
set_option maxRecDepth 20000 in
theorem gX7_init_X2_init : GoodIn wsX7_init (wsX2_init) := ggX7_init_X2_init
set_option maxRecDepth 20000 in
theorem ggX7_init_X1_init : GoodIn wsX7_init wsX1_init := goodIn_r _ [93, 94, 2, 3, 50, 95, 96, 97, 98, 136, 137, 138, 139, 140, 141, 142, 143, 144, 145, 146, 147] rfl (by decide +kernel)
set_option maxRecDepth 20000 in
theorem gX7_init_X1_init : GoodIn wsX7_init (wsX1_init) := ggX7_init_X1_init
set_option maxRecDepth 20000 in
theorem ggX7_init_X0_init : GoodIn wsX7_init wsX0_init := goodIn_r _ [101, 102, 2, 3, 50, 103, 104, 105, 106, 107, 148, 149, 150, 151, 152, 153, 154] rfl (by decide +kernel)
set_option maxRecDepth 20000 in
theorem gX7_init_X0_init : GoodIn wsX7_init (wsX0_init) := ggX7_init_X0_init
theorem dX7_init_0 : decode cX7_init 0 = .ok (.aload_n 0, 1) := by decide +kernel
theorem dX7_init_1 : decode cX7_init 1 = .ok (.invokespecial 1, 3) := by decide +kernel
theorem dX7_init_4 : decode cX7_init 4 = .ok (.aload_n 0, 1) := by decide +kernel
theorem dX7_init_5 : decode cX7_init 5 = .ok (.new 7, 3) := by decide +kernel
theorem dX7_init_8 : decode cX7_init 8 = .ok (.dup, 1) := by decide +kernel
theorem dX7_init_9 : decode cX7_init 9 = .ok (.invokespecial 9, 3) := by decide +kernel
theorem dX7_init_12 : decode cX7_init 12 = .ok (.putfield 10, 3) := by decide +kernel
theorem dX7_init_15 : decode cX7_init 15 = .ok (.aload_n 0, 1) := by decide +kernel
theorem dX7_init_16 : decode cX7_init 16 = .ok (.new 16, 3) := by decide +kernel
theorem dX7_init_19 : decode cX7_init 19 = .ok (.dup, 1) := by decide +kernel
theorem dX7_init_20 : decode cX7_init 20 = .ok (.invokespecial 18, 3) := by decide +kernel
theorem dX7_init_23 : decode cX7_init 23 = .ok (.putfield 19, 3) := by decide +kernel
theorem dX7_init_26 : decode cX7_init 26 = .ok (.aload_n 0, 1) := by decide +kernel
theorem dX7_init_27 : decode cX7_init 27 = .ok (.new 23, 3) := by decide +kernel
theorem dX7_init_30 : decode cX7_init 30 = .ok (.dup, 1) := by decide +kernel
theorem dX7_init_31 : decode cX7_init 31 = .ok (.invokespecial 25, 3) := by decide +kernel
theorem dX7_init_34 : decode cX7_init 34 = .ok (.putfield 26, 3) := by decide +kernel
theorem dX7_init_37 : decode cX7_init 37 = .ok (.aload_n 0, 1) := by decide +kernel
theorem dX7_init_38 : decode cX7_init 38 = .ok (.new 30, 3) := by decide +kernel
theorem dX7_init_41 : decode cX7_init 41 = .ok (.dup, 1) := by decide +kernel
theorem dX7_init_42 : decode cX7_init 42 = .ok (.invokespecial 32, 3) := by decide +kernel
theorem dX7_init_45 : decode cX7_init 45 = .ok (.putfield 33, 3) := by decide +kernel
theorem dX7_init_48 : decode cX7_init 48 = .ok (.aload_n 0, 1) := by decide +kernel
theorem dX7_init_49 : decode cX7_init 49 = .ok (.new 37, 3) := by decide +kernel
theorem dX7_init_52 : decode cX7_init 52 = .ok (.dup, 1) := by decide +kernel
theorem dX7_init_53 : decode cX7_init 53 = .ok (.invokespecial 39, 3) := by decide +kernel
theorem dX7_init_56 : decode cX7_init 56 = .ok (.putfield 40, 3) := by decide +kernel
theorem dX7_init_59 : decode cX7_init 59 = .ok (.aload_n 0, 1) := by decide +kernel
theorem dX7_init_60 : decode cX7_init 60 = .ok (.new 44, 3) := by decide +kernel
theorem dX7_init_63 : decode cX7_init 63 = .ok (.dup, 1) := by decide +kernel
theorem dX7_init_64 : decode cX7_init 64 = .ok (.invokespecial 46, 3) := by decide +kernel
theorem dX7_init_67 : decode cX7_init 67 = .ok (.putfield 47, 3) := by decide +kernel
theorem dX7_init_70 : decode cX7_init 70 = .ok (.aload_n 0, 1) := by decide +kernel
theorem dX7_init_71 : decode cX7_init 71 = .ok (.new 51, 3) := by decide +kernel
theorem dX7_init_74 : decode cX7_init 74 = .ok (.dup, 1) := by decide +kernel
theorem dX7_init_75 : decode cX7_init 75 = .ok (.invokespecial 53, 3) := by decide +kernel
theorem dX7_init_78 : decode cX7_init 78 = .ok (.putfield 54, 3) := by decide +kernel
theorem dX7_init_81 : decode cX7_init 81 = .ok (.aload_n 0, 1) := by decide +kernel
theorem dX7_init_82 : decode cX7_init 82 = .ok (.iconst 0, 1) := by decide +kernel
theorem dX7_init_83 : decode cX7_init 83 = .ok (.putfield 58, 3) := by decide +kernel
theorem dX7_init_86 : decode cX7_init 86 = .ok (.return_, 1) := by decide +kernel
set_option maxRecDepth 20000 in
theorem ggX7_press_X7_within : GoodIn wsX7_press wsX7_within := goodIn_r _ [8] rfl (by decide +kernel)
set_option maxRecDepth 20000 in
theorem gX7_press_X7_within : GoodIn wsX7_press (va_wsS RX7 62 yX7_within wsX7_within) := goodIn_app (goodIn_of _ (by decide +kernel)) ggX7_press_X7_within
set_option maxRecDepth 20000 in
theorem ggX7_press_X6_restart : GoodIn wsX7_press wsX6_restart := goodIn_r _ [13, 14, 15, 16, 45, 46] rfl (by decide +kernel)
set_option maxRecDepth 20000 in
theorem gX7_press_X6_restart : GoodIn wsX7_press (wsV RX7 66 RX6 yX6_restart wsX6_restart) := goodIn_app (goodIn_of _ (by decide +kernel)) ggX7_press_X6_restart
set_option maxRecDepth 20000 in
theorem ggX7_press_X5_restart : GoodIn wsX7_press wsX5_restart := goodIn_r _ [21, 22, 23, 24, 25, 26, 27, 47, 48, 49, 50, 51, 52] rfl (by decide +kernel)
set_option maxRecDepth 20000 in
theorem gX7_press_X5_restart : GoodIn wsX7_press (wsV RX7 70 RX5 yX5_restart wsX5_restart) := goodIn_app (goodIn_of _ (by decide +kernel)) ggX7_press_X5_restart
set_option maxRecDepth 20000 in
theorem ggX7_press_X4_restart : GoodIn wsX7_press wsX4_restart := goodIn_r _ [32, 33, 34, 35, 36, 53, 54, 55, 56, 57, 58] rfl (by decide +kernel)
set_option maxRecDepth 20000 in
theorem gX7_press_X4_restart : GoodIn wsX7_press (wsV RX7 73 RX4 yX4_restart wsX4_restart) := goodIn_app (goodIn_of _ (by decide +kernel)) ggX7_press_X4_restart
theorem dX7_press_0 : decode cX7_press 0 = .ok (.iload_n 1, 1) := by decide +kernel
theorem dX7_press_1 : decode cX7_press 1 = .ok (.iconst 2, 1) := by decide +kernel
theorem dX7_press_2 : decode cX7_press 2 = .ok (.bipush 8, 2) := by decide +kernel
theorem dX7_press_4 : decode cX7_press 4 = .ok (.invokestatic 62, 3) := by decide +kernel
theorem dX7_press_7 : decode cX7_press 7 = .ok (.ifCond .eq 12, 3) := by decide +kernel
theorem dX7_press_10 : decode cX7_press 10 = .ok (.iload_n 2, 1) := by decide +kernel
theorem dX7_press_11 : decode cX7_press 11 = .ok (.iconst 2, 1) := by decide +kernel
theorem dX7_press_12 : decode cX7_press 12 = .ok (.iconst 5, 1) := by decide +kernel
theorem dX7_press_13 : decode cX7_press 13 = .ok (.invokestatic 62, 3) := by decide +kernel
theorem dX7_press_16 : decode cX7_press 16 = .ok (.ifCond .ne 6, 3) := by decide +kernel
theorem dX7_press_19 : decode cX7_press 19 = .ok (.bipush (-2), 2) := by decide +kernel
theorem dX7_press_21 : decode cX7_press 21 = .ok (.ireturn, 1) := by decide +kernel
theorem dX7_press_22 : decode cX7_press 22 = .ok (.aload_n 0, 1) := by decide +kernel
theorem dX7_press_23 : decode cX7_press 23 = .ok (.getfield 19, 3) := by decide +kernel
theorem dX7_press_26 : decode cX7_press 26 = .ok (.iload_n 1, 1) := by decide +kernel
theorem dX7_press_27 : decode cX7_press 27 = .ok (.invokevirtual 66, 3) := by decide +kernel
theorem dX7_press_30 : decode cX7_press 30 = .ok (.aload_n 0, 1) := by decide +kernel
theorem dX7_press_31 : decode cX7_press 31 = .ok (.getfield 26, 3) := by decide +kernel
theorem dX7_press_34 : decode cX7_press 34 = .ok (.iload_n 1, 1) := by decide +kernel
theorem dX7_press_35 : decode cX7_press 35 = .ok (.iload_n 2, 1) := by decide +kernel
theorem dX7_press_36 : decode cX7_press 36 = .ok (.invokevirtual 70, 3) := by decide +kernel
theorem dX7_press_39 : decode cX7_press 39 = .ok (.aload_n 0, 1) := by decide +kernel
theorem dX7_press_40 : decode cX7_press 40 = .ok (.getfield 33, 3) := by decide +kernel
theorem dX7_press_43 : decode cX7_press 43 = .ok (.invokevirtual 73, 3) := by decide +kernel
theorem dX7_press_46 : decode cX7_press 46 = .ok (.aload_n 0, 1) := by decide +kernel
theorem dX7_press_47 : decode cX7_press 47 = .ok (.iconst 0, 1) := by decide +kernel
theorem dX7_press_48 : decode cX7_press 48 = .ok (.putfield 58, 3) := by decide +kernel
theorem dX7_press_51 : decode cX7_press 51 = .ok (.iload_n 1, 1) := by decide +kernel
theorem dX7_press_52 : decode cX7_press 52 = .ok (.iload_n 2, 1) := by decide +kernel
theorem dX7_press_53 : decode cX7_press 53 = .ok (.imul, 1) := by decide +kernel
theorem dX7_press_54 : decode cX7_press 54 = .ok (.ireturn, 1) := by decide +kernel
set_option maxRecDepth 20000 in
theorem ggX7_rule_X3_has : GoodIn wsX7_rule wsX3_has := goodIn_r _ [8, 9, 31] rfl (by decide +kernel)
set_option maxRecDepth 20000 in
theorem gX7_rule_X3_has : GoodIn wsX7_rule (wsV RX7 75 RX3 yX3_has wsX3_has) := goodIn_app (goodIn_of _ (by decide +kernel)) ggX7_rule_X3_has
set_option maxRecDepth 20000 in
theorem ggX7_rule_X3_allows : GoodIn wsX7_rule wsX3_allows := goodIn_r _ [13, 14, 15, 16, 17, 18] rfl (by decide +kernel)
set_option maxRecDepth 20000 in
theorem gX7_rule_X3_allows : GoodIn wsX7_rule (wsV RX7 80 RX3 yX3_allows wsX3_allows) := goodIn_app (goodIn_of _ (by decide +kernel)) ggX7_rule_X3_allows
set_option maxRecDepth 20000 in
theorem ggX7_rule_X3_change : GoodIn wsX7_rule wsX3_change := goodIn_r _ [22, 9, 31] rfl (by decide +kernel)
set_option maxRecDepth 20000 in
theorem gX7_rule_X3_change : GoodIn wsX7_rule (wsV RX7 85 RX3 yX3_change wsX3_change) := goodIn_app (goodIn_of _ (by decide +kernel)) ggX7_rule_X3_change
theorem dX7_rule_0 : decode cX7_rule 0 = .ok (.aload_n 0, 1) := by decide +kernel
theorem dX7_rule_1 : decode cX7_rule 1 = .ok (.getfield 10, 3) := by decide +kernel
theorem dX7_rule_4 : decode cX7_rule 4 = .ok (.iload_n 1, 1) := by decide +kernel
theorem dX7_rule_5 : decode cX7_rule 5 = .ok (.invokevirtual 75, 3) := by decide +kernel
theorem dX7_rule_8 : decode cX7_rule 8 = .ok (.ifCond .ne 6, 3) := by decide +kernel
theorem dX7_rule_11 : decode cX7_rule 11 = .ok (.ldc 79, 2) := by decide +kernel
theorem dX7_rule_13 : decode cX7_rule 13 = .ok (.ireturn, 1) := by decide +kernel
theorem dX7_rule_14 : decode cX7_rule 14 = .ok (.aload_n 0, 1) := by decide +kernel
theorem dX7_rule_15 : decode cX7_rule 15 = .ok (.getfield 10, 3) := by decide +kernel
theorem dX7_rule_18 : decode cX7_rule 18 = .ok (.iload_n 1, 1) := by decide +kernel
theorem dX7_rule_19 : decode cX7_rule 19 = .ok (.iload_n 2, 1) := by decide +kernel
theorem dX7_rule_20 : decode cX7_rule 20 = .ok (.invokevirtual 80, 3) := by decide +kernel
theorem dX7_rule_23 : decode cX7_rule 23 = .ok (.ifCond .ne 6, 3) := by decide +kernel
theorem dX7_rule_26 : decode cX7_rule 26 = .ok (.ldc 84, 2) := by decide +kernel
theorem dX7_rule_28 : decode cX7_rule 28 = .ok (.ireturn, 1) := by decide +kernel
theorem dX7_rule_29 : decode cX7_rule 29 = .ok (.aload_n 0, 1) := by decide +kernel
theorem dX7_rule_30 : decode cX7_rule 30 = .ok (.getfield 10, 3) := by decide +kernel
theorem dX7_rule_33 : decode cX7_rule 33 = .ok (.iload_n 1, 1) := by decide +kernel
theorem dX7_rule_34 : decode cX7_rule 34 = .ok (.iload_n 2, 1) := by decide +kernel
theorem dX7_rule_35 : decode cX7_rule 35 = .ok (.invokevirtual 85, 3) := by decide +kernel
theorem dX7_rule_38 : decode cX7_rule 38 = .ok (.ireturn, 1) := by decide +kernel
set_option maxRecDepth 20000 in
theorem ggX7_set_X6_has : GoodIn wsX7_set wsX6_has := goodIn_r _ [6, 7, 30, 31] rfl (by decide +kernel)
set_option maxRecDepth 20000 in
theorem gX7_set_X6_has : GoodIn wsX7_set (wsV RX7 89 RX6 yX6_has wsX6_has) := goodIn_app (goodIn_of _ (by decide +kernel)) ggX7_set_X6_has
set_option maxRecDepth 20000 in
theorem ggX7_set_X7_within : GoodIn wsX7_set wsX7_within := goodIn_r _ [11] rfl (by decide +kernel)
set_option maxRecDepth 20000 in
theorem gX7_set_X7_within : GoodIn wsX7_set (va_wsS RX7 62 yX7_within wsX7_within) := goodIn_app (goodIn_of _ (by decide +kernel)) ggX7_set_X7_within
set_option maxRecDepth 20000 in
theorem ggX7_set_X6_allows : GoodIn wsX7_set wsX6_allows := goodIn_r _ [15, 16, 9, 10, 11] rfl (by decide +kernel)
set_option maxRecDepth 20000 in
theorem gX7_set_X6_allows : GoodIn wsX7_set (wsV RX7 90 RX6 yX6_allows wsX6_allows) := goodIn_app (goodIn_of _ (by decide +kernel)) ggX7_set_X6_allows
set_option maxRecDepth 20000 in
theorem ggX7_set_X6_change : GoodIn wsX7_set wsX6_change := goodIn_r _ [20, 21, 30, 31] rfl (by decide +kernel)
set_option maxRecDepth 20000 in
theorem gX7_set_X6_change : GoodIn wsX7_set (wsV RX7 91 RX6 yX6_change wsX6_change) := goodIn_app (goodIn_of _ (by decide +kernel)) ggX7_set_X6_change
theorem dX7_set_0 : decode cX7_set 0 = .ok (.aload_n 0, 1) := by decide +kernel
theorem dX7_set_1 : decode cX7_set 1 = .ok (.getfield 19, 3) := by decide +kernel
theorem dX7_set_4 : decode cX7_set 4 = .ok (.iload_n 1, 1) := by decide +kernel
theorem dX7_set_5 : decode cX7_set 5 = .ok (.invokevirtual 89, 3) := by decide +kernel
theorem dX7_set_8 : decode cX7_set 8 = .ok (.ifCond .ne 5, 3) := by decide +kernel
theorem dX7_set_11 : decode cX7_set 11 = .ok (.iconst (-1), 1) := by decide +kernel
theorem dX7_set_12 : decode cX7_set 12 = .ok (.ireturn, 1) := by decide +kernel
theorem dX7_set_13 : decode cX7_set 13 = .ok (.iload_n 2, 1) := by decide +kernel
theorem dX7_set_14 : decode cX7_set 14 = .ok (.iconst 0, 1) := by decide +kernel
theorem dX7_set_15 : decode cX7_set 15 = .ok (.iconst 2, 1) := by decide +kernel
theorem dX7_set_16 : decode cX7_set 16 = .ok (.invokestatic 62, 3) := by decide +kernel
theorem dX7_set_19 : decode cX7_set 19 = .ok (.ifCond .eq 15, 3) := by decide +kernel
theorem dX7_set_22 : decode cX7_set 22 = .ok (.aload_n 0, 1) := by decide +kernel
theorem dX7_set_23 : decode cX7_set 23 = .ok (.getfield 19, 3) := by decide +kernel
theorem dX7_set_26 : decode cX7_set 26 = .ok (.iload_n 2, 1) := by decide +kernel
theorem dX7_set_27 : decode cX7_set 27 = .ok (.iload_n 3, 1) := by decide +kernel
theorem dX7_set_28 : decode cX7_set 28 = .ok (.invokevirtual 90, 3) := by decide +kernel
theorem dX7_set_31 : decode cX7_set 31 = .ok (.ifCond .ne 6, 3) := by decide +kernel
theorem dX7_set_34 : decode cX7_set 34 = .ok (.bipush (-2), 2) := by decide +kernel
theorem dX7_set_36 : decode cX7_set 36 = .ok (.ireturn, 1) := by decide +kernel
theorem dX7_set_37 : decode cX7_set 37 = .ok (.aload_n 0, 1) := by decide +kernel
theorem dX7_set_38 : decode cX7_set 38 = .ok (.getfield 19, 3) := by decide +kernel
theorem dX7_set_41 : decode cX7_set 41 = .ok (.iload_n 1, 1) := by decide +kernel
theorem dX7_set_42 : decode cX7_set 42 = .ok (.iload_n 2, 1) := by decide +kernel
theorem dX7_set_43 : decode cX7_set 43 = .ok (.iload_n 3, 1) := by decide +kernel
theorem dX7_set_44 : decode cX7_set 44 = .ok (.invokevirtual 91, 3) := by decide +kernel
theorem dX7_set_47 : decode cX7_set 47 = .ok (.ireturn, 1) := by decide +kernel
set_option maxRecDepth 20000 in
theorem ggX7_zone_X6_has : GoodIn wsX7_zone wsX6_has := goodIn_r _ [7, 8, 37, 38] rfl (by decide +kernel)
set_option maxRecDepth 20000 in
theorem gX7_zone_X6_has : GoodIn wsX7_zone (wsV RX7 89 RX6 yX6_has wsX6_has) := goodIn_app (goodIn_of _ (by decide +kernel)) ggX7_zone_X6_has
set_option maxRecDepth 20000 in
theorem ggX7_zone_X7_within : GoodIn wsX7_zone wsX7_within := goodIn_r _ [12] rfl (by decide +kernel)
set_option maxRecDepth 20000 in
theorem gX7_zone_X7_within : GoodIn wsX7_zone (va_wsS RX7 62 yX7_within wsX7_within) := goodIn_app (goodIn_of _ (by decide +kernel)) ggX7_zone_X7_within
set_option maxRecDepth 20000 in
theorem ggX7_zone_X4_latestDensity : GoodIn wsX7_zone wsX4_latestDensity := goodIn_r _ [17, 18, 19, 20, 21, 16, 22, 23, 39, 40, 41, 42, 43, 44] rfl (by decide +kernel)
set_option maxRecDepth 20000 in
theorem gX7_zone_X4_latestDensity : GoodIn wsX7_zone (wsV RX7 94 RX4 yX4_latestDensity wsX4_latestDensity) := goodIn_app (goodIn_of _ (by decide +kernel)) ggX7_zone_X4_latestDensity
set_option maxRecDepth 20000 in
theorem ggX7_zone_X6_valueOf : GoodIn wsX7_zone wsX6_valueOf := goodIn_r _ [27, 28, 37, 38] rfl (by decide +kernel)
set_option maxRecDepth 20000 in
theorem gX7_zone_X6_valueOf : GoodIn wsX7_zone (wsV RX7 98 RX6 yX6_valueOf wsX6_valueOf) := goodIn_app (goodIn_of _ (by decide +kernel)) ggX7_zone_X6_valueOf
theorem dX7_zone_0 : decode cX7_zone 0 = .ok (.aload_n 0, 1) := by decide +kernel
theorem dX7_zone_1 : decode cX7_zone 1 = .ok (.getfield 19, 3) := by decide +kernel
theorem dX7_zone_4 : decode cX7_zone 4 = .ok (.iload_n 1, 1) := by decide +kernel
theorem dX7_zone_5 : decode cX7_zone 5 = .ok (.invokevirtual 89, 3) := by decide +kernel
theorem dX7_zone_8 : decode cX7_zone 8 = .ok (.ifCond .ne 5, 3) := by decide +kernel
theorem dX7_zone_11 : decode cX7_zone 11 = .ok (.iconst (-1), 1) := by decide +kernel
theorem dX7_zone_12 : decode cX7_zone 12 = .ok (.ireturn, 1) := by decide +kernel
theorem dX7_zone_13 : decode cX7_zone 13 = .ok (.iload_n 2, 1) := by decide +kernel
theorem dX7_zone_14 : decode cX7_zone 14 = .ok (.iconst 0, 1) := by decide +kernel
theorem dX7_zone_15 : decode cX7_zone 15 = .ok (.iconst 3, 1) := by decide +kernel
theorem dX7_zone_16 : decode cX7_zone 16 = .ok (.invokestatic 62, 3) := by decide +kernel
theorem dX7_zone_19 : decode cX7_zone 19 = .ok (.ifCond .ne 6, 3) := by decide +kernel
theorem dX7_zone_22 : decode cX7_zone 22 = .ok (.bipush (-2), 2) := by decide +kernel
theorem dX7_zone_24 : decode cX7_zone 24 = .ok (.ireturn, 1) := by decide +kernel
theorem dX7_zone_25 : decode cX7_zone 25 = .ok (.iload_n 2, 1) := by decide +kernel
theorem dX7_zone_26 : decode cX7_zone 26 = .ok (.iconst 3, 1) := by decide +kernel
theorem dX7_zone_27 : decode cX7_zone 27 = .ok (.if_icmp .ne 14, 3) := by decide +kernel
theorem dX7_zone_30 : decode cX7_zone 30 = .ok (.aload_n 0, 1) := by decide +kernel
theorem dX7_zone_31 : decode cX7_zone 31 = .ok (.getfield 33, 3) := by decide +kernel
theorem dX7_zone_34 : decode cX7_zone 34 = .ok (.iload_n 1, 1) := by decide +kernel
theorem dX7_zone_35 : decode cX7_zone 35 = .ok (.invokevirtual 94, 3) := by decide +kernel
theorem dX7_zone_38 : decode cX7_zone 38 = .ok (.goto 12, 3) := by decide +kernel
theorem dX7_zone_41 : decode cX7_zone 41 = .ok (.aload_n 0, 1) := by decide +kernel
theorem dX7_zone_42 : decode cX7_zone 42 = .ok (.getfield 19, 3) := by decide +kernel
theorem dX7_zone_45 : decode cX7_zone 45 = .ok (.iload_n 1, 1) := by decide +kernel
theorem dX7_zone_46 : decode cX7_zone 46 = .ok (.iload_n 2, 1) := by decide +kernel
theorem dX7_zone_47 : decode cX7_zone 47 = .ok (.invokevirtual 98, 3) := by decide +kernel
theorem dX7_zone_50 : decode cX7_zone 50 = .ok (.ireturn, 1) := by decide +kernel
set_option maxRecDepth 20000 in
theorem ggX7_ink_X5_has : GoodIn wsX7_ink wsX5_has := goodIn_r _ [7, 8, 28, 29, 30, 31, 32, 33] rfl (by decide +kernel)
set_option maxRecDepth 20000 in
theorem gX7_ink_X5_has : GoodIn wsX7_ink (wsV RX7 101 RX5 yX5_has wsX5_has) := goodIn_app (goodIn_of _ (by decide +kernel)) ggX7_ink_X5_has
set_option maxRecDepth 20000 in
theorem ggX7_ink_X6_has : GoodIn wsX7_ink wsX6_has := goodIn_r _ [13, 14, 34, 35] rfl (by decide +kernel)
set_option maxRecDepth 20000 in
theorem gX7_ink_X6_has : GoodIn wsX7_ink (wsV RX7 89 RX6 yX6_has wsX6_has) := goodIn_app (goodIn_of _ (by decide +kernel)) ggX7_ink_X6_has
set_option maxRecDepth 20000 in
theorem ggX7_ink_X5_inkAt : GoodIn wsX7_ink wsX5_inkAt := goodIn_r _ [18, 19, 28, 29, 30, 31, 32, 33] rfl (by decide +kernel)
set_option maxRecDepth 20000 in
theorem gX7_ink_X5_inkAt : GoodIn wsX7_ink (wsV RX7 102 RX5 yX5_inkAt wsX5_inkAt) := goodIn_app (goodIn_of _ (by decide +kernel)) ggX7_ink_X5_inkAt
theorem dX7_ink_0 : decode cX7_ink 0 = .ok (.aload_n 0, 1) := by decide +kernel
theorem dX7_ink_1 : decode cX7_ink 1 = .ok (.getfield 26, 3) := by decide +kernel
theorem dX7_ink_4 : decode cX7_ink 4 = .ok (.iload_n 1, 1) := by decide +kernel
theorem dX7_ink_5 : decode cX7_ink 5 = .ok (.invokevirtual 101, 3) := by decide +kernel
theorem dX7_ink_8 : decode cX7_ink 8 = .ok (.ifCond .eq 14, 3) := by decide +kernel
theorem dX7_ink_11 : decode cX7_ink 11 = .ok (.aload_n 0, 1) := by decide +kernel
theorem dX7_ink_12 : decode cX7_ink 12 = .ok (.getfield 19, 3) := by decide +kernel
theorem dX7_ink_15 : decode cX7_ink 15 = .ok (.iload_n 2, 1) := by decide +kernel
theorem dX7_ink_16 : decode cX7_ink 16 = .ok (.invokevirtual 89, 3) := by decide +kernel
theorem dX7_ink_19 : decode cX7_ink 19 = .ok (.ifCond .ne 5, 3) := by decide +kernel
theorem dX7_ink_22 : decode cX7_ink 22 = .ok (.iconst (-1), 1) := by decide +kernel
theorem dX7_ink_23 : decode cX7_ink 23 = .ok (.ireturn, 1) := by decide +kernel
theorem dX7_ink_24 : decode cX7_ink 24 = .ok (.aload_n 0, 1) := by decide +kernel
theorem dX7_ink_25 : decode cX7_ink 25 = .ok (.getfield 26, 3) := by decide +kernel
theorem dX7_ink_28 : decode cX7_ink 28 = .ok (.iload_n 1, 1) := by decide +kernel
theorem dX7_ink_29 : decode cX7_ink 29 = .ok (.iload_n 2, 1) := by decide +kernel
theorem dX7_ink_30 : decode cX7_ink 30 = .ok (.invokevirtual 102, 3) := by decide +kernel
theorem dX7_ink_33 : decode cX7_ink 33 = .ok (.ireturn, 1) := by decide +kernel
set_option maxRecDepth 20000 in
theorem ggX7_print_X7_within : GoodIn wsX7_print wsX7_within := goodIn_r _ [6] rfl (by decide +kernel)
set_option maxRecDepth 20000 in
theorem gX7_print_X7_within : GoodIn wsX7_print (va_wsS RX7 62 yX7_within wsX7_within) := goodIn_app (goodIn_of _ (by decide +kernel)) ggX7_print_X7_within
set_option maxRecDepth 20000 in
theorem ggX7_print_X7_printSheet : GoodIn wsX7_print wsX7_printSheet := goodIn_r _ [10, 11, 12, 13, 1, 14, 15, 16, 17, 18, 19, 20, 21, 22, 23, 24, 25, 26, 27, 28, 29, 30, 31, 32, 33, 34, 35, 36, 37, 38, 39, 40, 41, 42, 43, 44, 45, 46, 47, 48, 49, 50, 51, 52, 53, 54, 55, 56, 57, 58, 59, 60, 61, 62, 63, 64, 65, 66, 67, 68, 69, 70, 71, 72, 73, 74, 104, 105, 106, 107, 108, 109, 110, 111, 118, 119, 120, 121, 122, 123, 124, 125, 126, 112, 113, 114, 115, 116, 117] rfl (by decide +kernel)
set_option maxRecDepth 20000 in
theorem gX7_print_X7_printSheet : GoodIn wsX7_print (wsV RX7 109 RX7 yX7_printSheet wsX7_printSheet) := goodIn_app (goodIn_of _ (by decide +kernel)) ggX7_print_X7_printSheet
set_option maxRecDepth 20000 in
theorem ggX7_print_X7_isSteeringDue : GoodIn wsX7_print wsX7_isSteeringDue := goodIn_r _ [78, 13, 1, 24, 25, 26, 27, 28, 29, 104, 105, 106, 107, 108, 109, 110, 111, 112, 113, 114, 115, 116, 117, 120] rfl (by decide +kernel)
set_option maxRecDepth 20000 in
theorem gX7_print_X7_isSteeringDue : GoodIn wsX7_print (wsV RX7 112 RX7 yX7_isSteeringDue wsX7_isSteeringDue) := goodIn_app (goodIn_of _ (by decide +kernel)) ggX7_print_X7_isSteeringDue
set_option maxRecDepth 20000 in
theorem ggX7_print_X7_steerKeys : GoodIn wsX7_print wsX7_steerKeys := goodIn_r _ [82, 13, 11, 1, 24, 25, 26, 27, 28, 29, 18, 19, 20, 21, 22, 23, 83, 84, 85, 53, 86, 55, 87, 88, 89, 90, 66, 91, 92, 5, 93, 94, 95, 16, 96, 97, 98, 99, 100, 101, 102, 103, 104, 105, 106, 107, 108, 109, 110, 111, 118, 119, 120, 112, 113, 114, 115, 116, 117] rfl (by decide +kernel)
set_option maxRecDepth 20000 in
theorem gX7_print_X7_steerKeys : GoodIn wsX7_print (wsV RX7 116 RX7 yX7_steerKeys wsX7_steerKeys) := goodIn_app (goodIn_of _ (by decide +kernel)) ggX7_print_X7_steerKeys
theorem dX7_print_0 : decode cX7_print 0 = .ok (.iload_n 1, 1) := by decide +kernel
theorem dX7_print_1 : decode cX7_print 1 = .ok (.iconst 1, 1) := by decide +kernel
theorem dX7_print_2 : decode cX7_print 2 = .ok (.sipush 200, 3) := by decide +kernel
theorem dX7_print_5 : decode cX7_print 5 = .ok (.invokestatic 62, 3) := by decide +kernel
theorem dX7_print_8 : decode cX7_print 8 = .ok (.ifCond .ne 6, 3) := by decide +kernel
theorem dX7_print_11 : decode cX7_print 11 = .ok (.bipush (-2), 2) := by decide +kernel
theorem dX7_print_13 : decode cX7_print 13 = .ok (.ireturn, 1) := by decide +kernel
theorem dX7_print_14 : decode cX7_print 14 = .ok (.aload_n 0, 1) := by decide +kernel
theorem dX7_print_15 : decode cX7_print 15 = .ok (.getfield 33, 3) := by decide +kernel
theorem dX7_print_18 : decode cX7_print 18 = .ok (.getfield 105, 3) := by decide +kernel
theorem dX7_print_21 : decode cX7_print 21 = .ok (.iload_n 1, 1) := by decide +kernel
theorem dX7_print_22 : decode cX7_print 22 = .ok (.iadd, 1) := by decide +kernel
theorem dX7_print_23 : decode cX7_print 23 = .ok (.sipush 1000, 3) := by decide +kernel
theorem dX7_print_26 : decode cX7_print 26 = .ok (.if_icmp .le 6, 3) := by decide +kernel
theorem dX7_print_29 : decode cX7_print 29 = .ok (.bipush (-3), 2) := by decide +kernel
theorem dX7_print_31 : decode cX7_print 31 = .ok (.ireturn, 1) := by decide +kernel
theorem dX7_print_32 : decode cX7_print 32 = .ok (.iconst 0, 1) := by decide +kernel
theorem dX7_print_33 : decode cX7_print 33 = .ok (.istore_n 2, 1) := by decide +kernel
theorem dX7_print_34 : decode cX7_print 34 = .ok (.iload_n 2, 1) := by decide +kernel
theorem dX7_print_35 : decode cX7_print 35 = .ok (.iload_n 1, 1) := by decide +kernel
theorem dX7_print_36 : decode cX7_print 36 = .ok (.if_icmp .ge 31, 3) := by decide +kernel
theorem dX7_print_39 : decode cX7_print 39 = .ok (.aload_n 0, 1) := by decide +kernel
theorem dX7_print_40 : decode cX7_print 40 = .ok (.invokevirtual 109, 3) := by decide +kernel
theorem dX7_print_43 : decode cX7_print 43 = .ok (.aload_n 0, 1) := by decide +kernel
theorem dX7_print_44 : decode cX7_print 44 = .ok (.getfield 58, 3) := by decide +kernel
theorem dX7_print_47 : decode cX7_print 47 = .ok (.ifCond .eq 14, 3) := by decide +kernel
theorem dX7_print_50 : decode cX7_print 50 = .ok (.aload_n 0, 1) := by decide +kernel
theorem dX7_print_51 : decode cX7_print 51 = .ok (.invokevirtual 112, 3) := by decide +kernel
theorem dX7_print_54 : decode cX7_print 54 = .ok (.ifCond .eq 7, 3) := by decide +kernel
theorem dX7_print_57 : decode cX7_print 57 = .ok (.aload_n 0, 1) := by decide +kernel
theorem dX7_print_58 : decode cX7_print 58 = .ok (.invokevirtual 116, 3) := by decide +kernel
theorem dX7_print_61 : decode cX7_print 61 = .ok (.iinc 2 1, 3) := by decide +kernel
theorem dX7_print_64 : decode cX7_print 64 = .ok (.goto (-30), 3) := by decide +kernel
theorem dX7_print_67 : decode cX7_print 67 = .ok (.aload_n 0, 1) := by decide +kernel
theorem dX7_print_68 : decode cX7_print 68 = .ok (.getfield 33, 3) := by decide +kernel
theorem dX7_print_71 : decode cX7_print 71 = .ok (.getfield 105, 3) := by decide +kernel
theorem dX7_print_74 : decode cX7_print 74 = .ok (.ireturn, 1) := by decide +kernel
theorem dX7_steer_0 : decode cX7_steer 0 = .ok (.aload_n 0, 1) := by decide +kernel
theorem dX7_steer_1 : decode cX7_steer 1 = .ok (.getfield 58, 3) := by decide +kernel
theorem dX7_steer_4 : decode cX7_steer 4 = .ok (.ifCond .eq 7, 3) := by decide +kernel
theorem dX7_steer_7 : decode cX7_steer 7 = .ok (.iconst 1, 1) := by decide +kernel
theorem dX7_steer_8 : decode cX7_steer 8 = .ok (.goto 4, 3) := by decide +kernel
theorem dX7_steer_11 : decode cX7_steer 11 = .ok (.iconst 0, 1) := by decide +kernel
theorem dX7_steer_12 : decode cX7_steer 12 = .ok (.istore_n 2, 1) := by decide +kernel
theorem dX7_steer_13 : decode cX7_steer 13 = .ok (.aload_n 0, 1) := by decide +kernel
theorem dX7_steer_14 : decode cX7_steer 14 = .ok (.iload_n 1, 1) := by decide +kernel
theorem dX7_steer_15 : decode cX7_steer 15 = .ok (.putfield 58, 3) := by decide +kernel
theorem dX7_steer_18 : decode cX7_steer 18 = .ok (.iload_n 2, 1) := by decide +kernel
theorem dX7_steer_19 : decode cX7_steer 19 = .ok (.ireturn, 1) := by decide +kernel
set_option maxRecDepth 20000 in
theorem ggX7_good_X4_has : GoodIn wsX7_good wsX4_has := goodIn_r _ [6, 7, 21, 22, 23, 24, 25, 26] rfl (by decide +kernel)
set_option maxRecDepth 20000 in
theorem gX7_good_X4_has : GoodIn wsX7_good (wsV RX7 119 RX4 yX4_has wsX4_has) := goodIn_app (goodIn_of _ (by decide +kernel)) ggX7_good_X4_has
set_option maxRecDepth 20000 in
theorem ggX7_good_X4_wasGood : GoodIn wsX7_good wsX4_wasGood := goodIn_r _ [11, 12, 21, 22, 23, 24, 25, 26] rfl (by decide +kernel)
set_option maxRecDepth 20000 in
theorem gX7_good_X4_wasGood : GoodIn wsX7_good (wsV RX7 120 RX4 yX4_wasGood wsX4_wasGood) := goodIn_app (goodIn_of _ (by decide +kernel)) ggX7_good_X4_wasGood
theorem dX7_good_0 : decode cX7_good 0 = .ok (.aload_n 0, 1) := by decide +kernel
theorem dX7_good_1 : decode cX7_good 1 = .ok (.getfield 33, 3) := by decide +kernel
theorem dX7_good_4 : decode cX7_good 4 = .ok (.iload_n 1, 1) := by decide +kernel
theorem dX7_good_5 : decode cX7_good 5 = .ok (.invokevirtual 119, 3) := by decide +kernel
theorem dX7_good_8 : decode cX7_good 8 = .ok (.ifCond .ne 5, 3) := by decide +kernel
theorem dX7_good_11 : decode cX7_good 11 = .ok (.iconst (-1), 1) := by decide +kernel
theorem dX7_good_12 : decode cX7_good 12 = .ok (.ireturn, 1) := by decide +kernel
theorem dX7_good_13 : decode cX7_good 13 = .ok (.aload_n 0, 1) := by decide +kernel
theorem dX7_good_14 : decode cX7_good 14 = .ok (.getfield 33, 3) := by decide +kernel
theorem dX7_good_17 : decode cX7_good 17 = .ok (.iload_n 1, 1) := by decide +kernel
theorem dX7_good_18 : decode cX7_good 18 = .ok (.invokevirtual 120, 3) := by decide +kernel
theorem dX7_good_21 : decode cX7_good 21 = .ok (.ifCond .eq 7, 3) := by decide +kernel
theorem dX7_good_24 : decode cX7_good 24 = .ok (.iconst 1, 1) := by decide +kernel
theorem dX7_good_25 : decode cX7_good 25 = .ok (.goto 4, 3) := by decide +kernel
theorem dX7_good_28 : decode cX7_good 28 = .ok (.iconst 0, 1) := by decide +kernel
theorem dX7_good_29 : decode cX7_good 29 = .ok (.ireturn, 1) := by decide +kernel
set_option maxRecDepth 20000 in
theorem ggX7_density_X4_has : GoodIn wsX7_density wsX4_has := goodIn_r _ [7, 8, 28, 29, 30, 31, 32, 33] rfl (by decide +kernel)
set_option maxRecDepth 20000 in
theorem gX7_density_X4_has : GoodIn wsX7_density (wsV RX7 119 RX4 yX4_has wsX4_has) := goodIn_app (goodIn_of _ (by decide +kernel)) ggX7_density_X4_has
set_option maxRecDepth 20000 in
theorem ggX7_density_X6_has : GoodIn wsX7_density wsX6_has := goodIn_r _ [13, 14, 34, 35] rfl (by decide +kernel)
set_option maxRecDepth 20000 in
theorem gX7_density_X6_has : GoodIn wsX7_density (wsV RX7 89 RX6 yX6_has wsX6_has) := goodIn_app (goodIn_of _ (by decide +kernel)) ggX7_density_X6_has
set_option maxRecDepth 20000 in
theorem ggX7_density_X4_densityOn : GoodIn wsX7_density wsX4_densityOn := goodIn_r _ [18, 19, 28, 29, 30, 31, 32, 33] rfl (by decide +kernel)
set_option maxRecDepth 20000 in
theorem gX7_density_X4_densityOn : GoodIn wsX7_density (wsV RX7 123 RX4 yX4_densityOn wsX4_densityOn) := goodIn_app (goodIn_of _ (by decide +kernel)) ggX7_density_X4_densityOn
theorem dX7_density_0 : decode cX7_density 0 = .ok (.aload_n 0, 1) := by decide +kernel
theorem dX7_density_1 : decode cX7_density 1 = .ok (.getfield 33, 3) := by decide +kernel
theorem dX7_density_4 : decode cX7_density 4 = .ok (.iload_n 1, 1) := by decide +kernel
theorem dX7_density_5 : decode cX7_density 5 = .ok (.invokevirtual 119, 3) := by decide +kernel
theorem dX7_density_8 : decode cX7_density 8 = .ok (.ifCond .eq 14, 3) := by decide +kernel
theorem dX7_density_11 : decode cX7_density 11 = .ok (.aload_n 0, 1) := by decide +kernel
theorem dX7_density_12 : decode cX7_density 12 = .ok (.getfield 19, 3) := by decide +kernel
theorem dX7_density_15 : decode cX7_density 15 = .ok (.iload_n 2, 1) := by decide +kernel
theorem dX7_density_16 : decode cX7_density 16 = .ok (.invokevirtual 89, 3) := by decide +kernel
theorem dX7_density_19 : decode cX7_density 19 = .ok (.ifCond .ne 5, 3) := by decide +kernel
theorem dX7_density_22 : decode cX7_density 22 = .ok (.iconst (-1), 1) := by decide +kernel
end
section
theorem dX7_density_23 : decode cX7_density 23 = .ok (.ireturn, 1) := by decide +kernel
theorem dX7_density_24 : decode cX7_density 24 = .ok (.aload_n 0, 1) := by decide +kernel
theorem dX7_density_25 : decode cX7_density 25 = .ok (.getfield 33, 3) := by decide +kernel
theorem dX7_density_28 : decode cX7_density 28 = .ok (.iload_n 1, 1) := by decide +kernel
theorem dX7_density_29 : decode cX7_density 29 = .ok (.iload_n 2, 1) := by decide +kernel
theorem dX7_density_30 : decode cX7_density 30 = .ok (.invokevirtual 123, 3) := by decide +kernel
theorem dX7_density_33 : decode cX7_density 33 = .ok (.ireturn, 1) := by decide +kernel
set_option maxRecDepth 20000 in
theorem ggX7_past_X7_within : GoodIn wsX7_past wsX7_within := goodIn_r _ [5] rfl (by decide +kernel)
set_option maxRecDepth 20000 in
theorem gX7_past_X7_within : GoodIn wsX7_past (va_wsS RX7 62 yX7_within wsX7_within) := goodIn_app (goodIn_of _ (by decide +kernel)) ggX7_past_X7_within
set_option maxRecDepth 20000 in
theorem ggX7_past_X2_isFull : GoodIn wsX7_past wsX2_isFull := goodIn_r _ [10, 11, 28, 29, 30, 31, 32] rfl (by decide +kernel)
set_option maxRecDepth 20000 in
theorem gX7_past_X2_isFull : GoodIn wsX7_past (wsV RX7 126 RX2 yX2_isFull wsX2_isFull) := goodIn_app (goodIn_of _ (by decide +kernel)) ggX7_past_X2_isFull
set_option maxRecDepth 20000 in
theorem ggX7_past_X2_add : GoodIn wsX7_past wsX2_add := goodIn_r _ [15, 11, 16, 17, 18, 19, 28, 29, 30, 31, 32] rfl (by decide +kernel)
set_option maxRecDepth 20000 in
theorem gX7_past_X2_add : GoodIn wsX7_past (wsV RX7 129 RX2 yX2_add wsX2_add) := goodIn_app (goodIn_of _ (by decide +kernel)) ggX7_past_X2_add
theorem dX7_past_0 : decode cX7_past 0 = .ok (.iload_n 1, 1) := by decide +kernel
theorem dX7_past_1 : decode cX7_past 1 = .ok (.iconst 0, 1) := by decide +kernel
theorem dX7_past_2 : decode cX7_past 2 = .ok (.bipush 100, 2) := by decide +kernel
theorem dX7_past_4 : decode cX7_past 4 = .ok (.invokestatic 62, 3) := by decide +kernel
theorem dX7_past_7 : decode cX7_past 7 = .ok (.ifCond .eq 13, 3) := by decide +kernel
theorem dX7_past_10 : decode cX7_past 10 = .ok (.iload_n 2, 1) := by decide +kernel
theorem dX7_past_11 : decode cX7_past 11 = .ok (.iconst 0, 1) := by decide +kernel
theorem dX7_past_12 : decode cX7_past 12 = .ok (.bipush 100, 2) := by decide +kernel
theorem dX7_past_14 : decode cX7_past 14 = .ok (.invokestatic 62, 3) := by decide +kernel
theorem dX7_past_17 : decode cX7_past 17 = .ok (.ifCond .ne 6, 3) := by decide +kernel
theorem dX7_past_20 : decode cX7_past 20 = .ok (.bipush (-2), 2) := by decide +kernel
theorem dX7_past_22 : decode cX7_past 22 = .ok (.ireturn, 1) := by decide +kernel
theorem dX7_past_23 : decode cX7_past 23 = .ok (.aload_n 0, 1) := by decide +kernel
theorem dX7_past_24 : decode cX7_past 24 = .ok (.getfield 40, 3) := by decide +kernel
theorem dX7_past_27 : decode cX7_past 27 = .ok (.invokevirtual 126, 3) := by decide +kernel
theorem dX7_past_30 : decode cX7_past 30 = .ok (.ifCond .eq 6, 3) := by decide +kernel
theorem dX7_past_33 : decode cX7_past 33 = .ok (.bipush (-4), 2) := by decide +kernel
theorem dX7_past_35 : decode cX7_past 35 = .ok (.ireturn, 1) := by decide +kernel
theorem dX7_past_36 : decode cX7_past 36 = .ok (.aload_n 0, 1) := by decide +kernel
theorem dX7_past_37 : decode cX7_past 37 = .ok (.getfield 40, 3) := by decide +kernel
theorem dX7_past_40 : decode cX7_past 40 = .ok (.iload_n 1, 1) := by decide +kernel
theorem dX7_past_41 : decode cX7_past 41 = .ok (.iload_n 2, 1) := by decide +kernel
theorem dX7_past_42 : decode cX7_past 42 = .ok (.invokevirtual 129, 3) := by decide +kernel
theorem dX7_past_45 : decode cX7_past 45 = .ok (.ireturn, 1) := by decide +kernel
set_option maxRecDepth 20000 in
theorem ggX7_preset_X7_within : GoodIn wsX7_preset wsX7_within := goodIn_r _ [5] rfl (by decide +kernel)
set_option maxRecDepth 20000 in
theorem gX7_preset_X7_within : GoodIn wsX7_preset (va_wsS RX7 62 yX7_within wsX7_within) := goodIn_app (goodIn_of _ (by decide +kernel)) ggX7_preset_X7_within
set_option maxRecDepth 20000 in
theorem ggX7_preset_X2_isEmpty : GoodIn wsX7_preset wsX2_isEmpty := goodIn_r _ [10, 11, 37, 38, 39, 40, 41] rfl (by decide +kernel)
set_option maxRecDepth 20000 in
theorem gX7_preset_X2_isEmpty : GoodIn wsX7_preset (wsV RX7 132 RX2 yX2_isEmpty wsX2_isEmpty) := goodIn_app (goodIn_of _ (by decide +kernel)) ggX7_preset_X2_isEmpty
set_option maxRecDepth 20000 in
theorem ggX7_preset_X2_keyFor : GoodIn wsX7_preset wsX2_keyFor := goodIn_r _ [15, 11, 16, 17, 18, 19, 20, 4, 21, 22, 23, 24, 25, 26, 27, 28, 37, 38, 39, 40, 41] rfl (by decide +kernel)
set_option maxRecDepth 20000 in
theorem gX7_preset_X2_keyFor : GoodIn wsX7_preset (wsV RX7 135 RX2 yX2_keyFor wsX2_keyFor) := goodIn_app (goodIn_of _ (by decide +kernel)) ggX7_preset_X2_keyFor
theorem dX7_preset_0 : decode cX7_preset 0 = .ok (.iload_n 1, 1) := by decide +kernel
theorem dX7_preset_1 : decode cX7_preset 1 = .ok (.iconst 0, 1) := by decide +kernel
theorem dX7_preset_2 : decode cX7_preset 2 = .ok (.bipush 100, 2) := by decide +kernel
theorem dX7_preset_4 : decode cX7_preset 4 = .ok (.invokestatic 62, 3) := by decide +kernel
theorem dX7_preset_7 : decode cX7_preset 7 = .ok (.ifCond .ne 6, 3) := by decide +kernel
theorem dX7_preset_10 : decode cX7_preset 10 = .ok (.bipush (-2), 2) := by decide +kernel
theorem dX7_preset_12 : decode cX7_preset 12 = .ok (.ireturn, 1) := by decide +kernel
theorem dX7_preset_13 : decode cX7_preset 13 = .ok (.aload_n 0, 1) := by decide +kernel
theorem dX7_preset_14 : decode cX7_preset 14 = .ok (.getfield 40, 3) := by decide +kernel
theorem dX7_preset_17 : decode cX7_preset 17 = .ok (.invokevirtual 132, 3) := by decide +kernel
theorem dX7_preset_20 : decode cX7_preset 20 = .ok (.ifCond .eq 6, 3) := by decide +kernel
theorem dX7_preset_23 : decode cX7_preset 23 = .ok (.bipush (-3), 2) := by decide +kernel
theorem dX7_preset_25 : decode cX7_preset 25 = .ok (.ireturn, 1) := by decide +kernel
theorem dX7_preset_26 : decode cX7_preset 26 = .ok (.aload_n 0, 1) := by decide +kernel
theorem dX7_preset_27 : decode cX7_preset 27 = .ok (.getfield 40, 3) := by decide +kernel
theorem dX7_preset_30 : decode cX7_preset 30 = .ok (.iload_n 1, 1) := by decide +kernel
theorem dX7_preset_31 : decode cX7_preset 31 = .ok (.invokevirtual 135, 3) := by decide +kernel
theorem dX7_preset_34 : decode cX7_preset 34 = .ok (.ireturn, 1) := by decide +kernel
set_option maxRecDepth 20000 in
theorem ggX7_presets_X2_isEmpty : GoodIn wsX7_presets wsX2_isEmpty := goodIn_r _ [7, 8, 47, 48, 49, 50, 51] rfl (by decide +kernel)
set_option maxRecDepth 20000 in
theorem gX7_presets_X2_isEmpty : GoodIn wsX7_presets (wsV RX7 132 RX2 yX2_isEmpty wsX2_isEmpty) := goodIn_app (goodIn_of _ (by decide +kernel)) ggX7_presets_X2_isEmpty
set_option maxRecDepth 20000 in
theorem ggX7_presets_X6_valueOf : GoodIn wsX7_presets wsX6_valueOf := goodIn_r _ [13, 14, 45, 46] rfl (by decide +kernel)
set_option maxRecDepth 20000 in
theorem gX7_presets_X6_valueOf : GoodIn wsX7_presets (wsV RX7 98 RX6 yX6_valueOf wsX6_valueOf) := goodIn_app (goodIn_of _ (by decide +kernel)) ggX7_presets_X6_valueOf
set_option maxRecDepth 20000 in
theorem ggX7_presets_X2_keyFor : GoodIn wsX7_presets wsX2_keyFor := goodIn_r _ [18, 8, 19, 20, 21, 22, 23, 24, 25, 26, 27, 28, 29, 30, 31, 32, 47, 48, 49, 50, 51] rfl (by decide +kernel)
set_option maxRecDepth 20000 in
theorem gX7_presets_X2_keyFor : GoodIn wsX7_presets (wsV RX7 135 RX2 yX2_keyFor wsX2_keyFor) := goodIn_app (goodIn_of _ (by decide +kernel)) ggX7_presets_X2_keyFor
set_option maxRecDepth 20000 in
theorem ggX7_presets_X6_change : GoodIn wsX7_presets wsX6_change := goodIn_r _ [36, 14, 45, 46] rfl (by decide +kernel)
set_option maxRecDepth 20000 in
theorem gX7_presets_X6_change : GoodIn wsX7_presets (wsV RX7 91 RX6 yX6_change wsX6_change) := goodIn_app (goodIn_of _ (by decide +kernel)) ggX7_presets_X6_change
theorem dX7_presets_0 : decode cX7_presets 0 = .ok (.aload_n 0, 1) := by decide +kernel
theorem dX7_presets_1 : decode cX7_presets 1 = .ok (.getfield 40, 3) := by decide +kernel
theorem dX7_presets_4 : decode cX7_presets 4 = .ok (.invokevirtual 132, 3) := by decide +kernel
theorem dX7_presets_7 : decode cX7_presets 7 = .ok (.ifCond .eq 6, 3) := by decide +kernel
theorem dX7_presets_10 : decode cX7_presets 10 = .ok (.bipush (-3), 2) := by decide +kernel
theorem dX7_presets_12 : decode cX7_presets 12 = .ok (.ireturn, 1) := by decide +kernel
theorem dX7_presets_13 : decode cX7_presets 13 = .ok (.iconst 0, 1) := by decide +kernel
theorem dX7_presets_14 : decode cX7_presets 14 = .ok (.istore_n 1, 1) := by decide +kernel
theorem dX7_presets_15 : decode cX7_presets 15 = .ok (.iconst 0, 1) := by decide +kernel
theorem dX7_presets_16 : decode cX7_presets 16 = .ok (.istore_n 2, 1) := by decide +kernel
theorem dX7_presets_17 : decode cX7_presets 17 = .ok (.iload_n 2, 1) := by decide +kernel
theorem dX7_presets_18 : decode cX7_presets 18 = .ok (.aload_n 0, 1) := by decide +kernel
theorem dX7_presets_19 : decode cX7_presets 19 = .ok (.getfield 19, 3) := by decide +kernel
theorem dX7_presets_22 : decode cX7_presets 22 = .ok (.getfield 138, 3) := by decide +kernel
theorem dX7_presets_25 : decode cX7_presets 25 = .ok (.if_icmp .ge 43, 3) := by decide +kernel
theorem dX7_presets_28 : decode cX7_presets 28 = .ok (.aload_n 0, 1) := by decide +kernel
theorem dX7_presets_29 : decode cX7_presets 29 = .ok (.getfield 40, 3) := by decide +kernel
theorem dX7_presets_32 : decode cX7_presets 32 = .ok (.aload_n 0, 1) := by decide +kernel
theorem dX7_presets_33 : decode cX7_presets 33 = .ok (.getfield 19, 3) := by decide +kernel
theorem dX7_presets_36 : decode cX7_presets 36 = .ok (.iload_n 2, 1) := by decide +kernel
theorem dX7_presets_37 : decode cX7_presets 37 = .ok (.iconst 1, 1) := by decide +kernel
theorem dX7_presets_38 : decode cX7_presets 38 = .ok (.invokevirtual 98, 3) := by decide +kernel
theorem dX7_presets_41 : decode cX7_presets 41 = .ok (.invokevirtual 135, 3) := by decide +kernel
theorem dX7_presets_44 : decode cX7_presets 44 = .ok (.istore_n 3, 1) := by decide +kernel
theorem dX7_presets_45 : decode cX7_presets 45 = .ok (.aload_n 0, 1) := by decide +kernel
theorem dX7_presets_46 : decode cX7_presets 46 = .ok (.getfield 19, 3) := by decide +kernel
theorem dX7_presets_49 : decode cX7_presets 49 = .ok (.iload_n 2, 1) := by decide +kernel
theorem dX7_presets_50 : decode cX7_presets 50 = .ok (.iconst 0, 1) := by decide +kernel
theorem dX7_presets_51 : decode cX7_presets 51 = .ok (.iload_n 3, 1) := by decide +kernel
theorem dX7_presets_52 : decode cX7_presets 52 = .ok (.invokevirtual 91, 3) := by decide +kernel
theorem dX7_presets_55 : decode cX7_presets 55 = .ok (.iload_n 3, 1) := by decide +kernel
theorem dX7_presets_56 : decode cX7_presets 56 = .ok (.if_icmp .eq 6, 3) := by decide +kernel
theorem dX7_presets_59 : decode cX7_presets 59 = .ok (.iinc 1 1, 3) := by decide +kernel
theorem dX7_presets_62 : decode cX7_presets 62 = .ok (.iinc 2 1, 3) := by decide +kernel
theorem dX7_presets_65 : decode cX7_presets 65 = .ok (.goto (-48), 3) := by decide +kernel
theorem dX7_presets_68 : decode cX7_presets 68 = .ok (.iload_n 1, 1) := by decide +kernel
theorem dX7_presets_69 : decode cX7_presets 69 = .ok (.ireturn, 1) := by decide +kernel
set_option maxRecDepth 20000 in
theorem ggX7_told_X5_inkOn : GoodIn wsX7_told wsX5_inkOn := goodIn_r _ [10, 11, 26, 27, 28, 29, 30, 31] rfl (by decide +kernel)
set_option maxRecDepth 20000 in
theorem gX7_told_X5_inkOn : GoodIn wsX7_told (wsV RX7 148 RX5 yX5_inkOn wsX5_inkOn) := goodIn_app (goodIn_of _ (by decide +kernel)) ggX7_told_X5_inkOn
theorem dX7_told_0 : decode cX7_told 0 = .ok (.iload_n 1, 1) := by decide +kernel
theorem dX7_told_1 : decode cX7_told 1 = .ok (.tableswitch 148 0 9 #[55, 63, 71, 87, 95, 103, 111, 119, 127, 140], 55) := by decide +kernel
theorem dX7_told_56 : decode cX7_told 56 = .ok (.aload_n 0, 1) := by decide +kernel
theorem dX7_told_57 : decode cX7_told 57 = .ok (.getfield 33, 3) := by decide +kernel
theorem dX7_told_60 : decode cX7_told 60 = .ok (.getfield 105, 3) := by decide +kernel
theorem dX7_told_63 : decode cX7_told 63 = .ok (.ireturn, 1) := by decide +kernel
theorem dX7_told_64 : decode cX7_told 64 = .ok (.aload_n 0, 1) := by decide +kernel
theorem dX7_told_65 : decode cX7_told 65 = .ok (.getfield 33, 3) := by decide +kernel
theorem dX7_told_68 : decode cX7_told 68 = .ok (.getfield 139, 3) := by decide +kernel
theorem dX7_told_71 : decode cX7_told 71 = .ok (.ireturn, 1) := by decide +kernel
theorem dX7_told_72 : decode cX7_told 72 = .ok (.aload_n 0, 1) := by decide +kernel
theorem dX7_told_73 : decode cX7_told 73 = .ok (.getfield 33, 3) := by decide +kernel
theorem dX7_told_76 : decode cX7_told 76 = .ok (.getfield 105, 3) := by decide +kernel
theorem dX7_told_79 : decode cX7_told 79 = .ok (.aload_n 0, 1) := by decide +kernel
theorem dX7_told_80 : decode cX7_told 80 = .ok (.getfield 33, 3) := by decide +kernel
theorem dX7_told_83 : decode cX7_told 83 = .ok (.getfield 139, 3) := by decide +kernel
theorem dX7_told_86 : decode cX7_told 86 = .ok (.isub, 1) := by decide +kernel
theorem dX7_told_87 : decode cX7_told 87 = .ok (.ireturn, 1) := by decide +kernel
theorem dX7_told_88 : decode cX7_told 88 = .ok (.aload_n 0, 1) := by decide +kernel
theorem dX7_told_89 : decode cX7_told 89 = .ok (.getfield 33, 3) := by decide +kernel
theorem dX7_told_92 : decode cX7_told 92 = .ok (.getfield 142, 3) := by decide +kernel
theorem dX7_told_95 : decode cX7_told 95 = .ok (.ireturn, 1) := by decide +kernel
theorem dX7_told_96 : decode cX7_told 96 = .ok (.aload_n 0, 1) := by decide +kernel
theorem dX7_told_97 : decode cX7_told 97 = .ok (.getfield 26, 3) := by decide +kernel
theorem dX7_told_100 : decode cX7_told 100 = .ok (.getfield 145, 3) := by decide +kernel
theorem dX7_told_103 : decode cX7_told 103 = .ok (.ireturn, 1) := by decide +kernel
theorem dX7_told_104 : decode cX7_told 104 = .ok (.aload_n 0, 1) := by decide +kernel
theorem dX7_told_105 : decode cX7_told 105 = .ok (.getfield 26, 3) := by decide +kernel
theorem dX7_told_108 : decode cX7_told 108 = .ok (.invokevirtual 148, 3) := by decide +kernel
theorem dX7_told_111 : decode cX7_told 111 = .ok (.ireturn, 1) := by decide +kernel
theorem dX7_told_112 : decode cX7_told 112 = .ok (.aload_n 0, 1) := by decide +kernel
theorem dX7_told_113 : decode cX7_told 113 = .ok (.getfield 26, 3) := by decide +kernel
theorem dX7_told_116 : decode cX7_told 116 = .ok (.getfield 152, 3) := by decide +kernel
theorem dX7_told_119 : decode cX7_told 119 = .ok (.ireturn, 1) := by decide +kernel
theorem dX7_told_120 : decode cX7_told 120 = .ok (.aload_n 0, 1) := by decide +kernel
theorem dX7_told_121 : decode cX7_told 121 = .ok (.getfield 26, 3) := by decide +kernel
theorem dX7_told_124 : decode cX7_told 124 = .ok (.getfield 155, 3) := by decide +kernel
theorem dX7_told_127 : decode cX7_told 127 = .ok (.ireturn, 1) := by decide +kernel
theorem dX7_told_128 : decode cX7_told 128 = .ok (.aload_n 0, 1) := by decide +kernel
theorem dX7_told_129 : decode cX7_told 129 = .ok (.getfield 58, 3) := by decide +kernel
theorem dX7_told_132 : decode cX7_told 132 = .ok (.ifCond .eq 7, 3) := by decide +kernel
theorem dX7_told_135 : decode cX7_told 135 = .ok (.iconst 1, 1) := by decide +kernel
theorem dX7_told_136 : decode cX7_told 136 = .ok (.goto 4, 3) := by decide +kernel
theorem dX7_told_139 : decode cX7_told 139 = .ok (.iconst 0, 1) := by decide +kernel
theorem dX7_told_140 : decode cX7_told 140 = .ok (.ireturn, 1) := by decide +kernel
theorem dX7_told_141 : decode cX7_told 141 = .ok (.aload_n 0, 1) := by decide +kernel
theorem dX7_told_142 : decode cX7_told 142 = .ok (.getfield 40, 3) := by decide +kernel
theorem dX7_told_145 : decode cX7_told 145 = .ok (.getfield 158, 3) := by decide +kernel
theorem dX7_told_148 : decode cX7_told 148 = .ok (.ireturn, 1) := by decide +kernel
theorem dX7_told_149 : decode cX7_told 149 = .ok (.ldc 84, 2) := by decide +kernel
theorem dX7_told_151 : decode cX7_told 151 = .ok (.ireturn, 1) := by decide +kernel
set_option maxRecDepth 20000 in
theorem ggX7_mark_X1_isPlace : GoodIn wsX7_mark wsX1_isPlace := goodIn_r _ [5, 6, 7, 8] rfl (by decide +kernel)
set_option maxRecDepth 20000 in
theorem gX7_mark_X1_isPlace : GoodIn wsX7_mark (va_wsS RX7 159 yX1_isPlace wsX1_isPlace) := goodIn_app (goodIn_of _ (by decide +kernel)) ggX7_mark_X1_isPlace
set_option maxRecDepth 20000 in
theorem ggX7_mark_X1_isOffset : GoodIn wsX7_mark wsX1_isOffset := goodIn_r _ [11, 6, 7, 8] rfl (by decide +kernel)
set_option maxRecDepth 20000 in
theorem gX7_mark_X1_isOffset : GoodIn wsX7_mark (va_wsS RX7 162 yX1_isOffset wsX1_isOffset) := goodIn_app (goodIn_of _ (by decide +kernel)) ggX7_mark_X1_isOffset
set_option maxRecDepth 20000 in
theorem ggX7_mark_X1_isFull : GoodIn wsX7_mark wsX1_isFull := goodIn_r _ [15, 16, 40, 41, 42, 43, 44, 45, 46, 47, 48, 49, 50, 51] rfl (by decide +kernel)
set_option maxRecDepth 20000 in
theorem gX7_mark_X1_isFull : GoodIn wsX7_mark (wsV RX7 165 RX1 yX1_isFull wsX1_isFull) := goodIn_app (goodIn_of _ (by decide +kernel)) ggX7_mark_X1_isFull
set_option maxRecDepth 20000 in
theorem ggX7_mark_X1_add : GoodIn wsX7_mark wsX1_add := goodIn_r _ [20, 21, 16, 22, 23, 24, 25, 26, 27, 28, 29, 30, 31, 40, 41, 42, 43, 44, 45, 46, 47, 48, 49, 50, 51] rfl (by decide +kernel)
set_option maxRecDepth 20000 in
theorem gX7_mark_X1_add : GoodIn wsX7_mark (wsV RX7 166 RX1 yX1_add wsX1_add) := goodIn_app (goodIn_of _ (by decide +kernel)) ggX7_mark_X1_add
theorem dX7_mark_0 : decode cX7_mark 0 = .ok (.iload_n 1, 1) := by decide +kernel
theorem dX7_mark_1 : decode cX7_mark 1 = .ok (.invokestatic 159, 3) := by decide +kernel
theorem dX7_mark_4 : decode cX7_mark 4 = .ok (.ifCond .eq 25, 3) := by decide +kernel
theorem dX7_mark_7 : decode cX7_mark 7 = .ok (.iload_n 2, 1) := by decide +kernel
theorem dX7_mark_8 : decode cX7_mark 8 = .ok (.invokestatic 159, 3) := by decide +kernel
theorem dX7_mark_11 : decode cX7_mark 11 = .ok (.ifCond .eq 18, 3) := by decide +kernel
theorem dX7_mark_14 : decode cX7_mark 14 = .ok (.iload_n 3, 1) := by decide +kernel
theorem dX7_mark_15 : decode cX7_mark 15 = .ok (.invokestatic 162, 3) := by decide +kernel
theorem dX7_mark_18 : decode cX7_mark 18 = .ok (.ifCond .eq 11, 3) := by decide +kernel
theorem dX7_mark_21 : decode cX7_mark 21 = .ok (.iload 4, 2) := by decide +kernel
theorem dX7_mark_23 : decode cX7_mark 23 = .ok (.invokestatic 162, 3) := by decide +kernel
theorem dX7_mark_26 : decode cX7_mark 26 = .ok (.ifCond .ne 6, 3) := by decide +kernel
theorem dX7_mark_29 : decode cX7_mark 29 = .ok (.bipush (-2), 2) := by decide +kernel
theorem dX7_mark_31 : decode cX7_mark 31 = .ok (.ireturn, 1) := by decide +kernel
theorem dX7_mark_32 : decode cX7_mark 32 = .ok (.aload_n 0, 1) := by decide +kernel
theorem dX7_mark_33 : decode cX7_mark 33 = .ok (.getfield 47, 3) := by decide +kernel
theorem dX7_mark_36 : decode cX7_mark 36 = .ok (.invokevirtual 165, 3) := by decide +kernel
theorem dX7_mark_39 : decode cX7_mark 39 = .ok (.ifCond .eq 6, 3) := by decide +kernel
theorem dX7_mark_42 : decode cX7_mark 42 = .ok (.bipush (-4), 2) := by decide +kernel
theorem dX7_mark_44 : decode cX7_mark 44 = .ok (.ireturn, 1) := by decide +kernel
theorem dX7_mark_45 : decode cX7_mark 45 = .ok (.aload_n 0, 1) := by decide +kernel
theorem dX7_mark_46 : decode cX7_mark 46 = .ok (.getfield 47, 3) := by decide +kernel
theorem dX7_mark_49 : decode cX7_mark 49 = .ok (.iload_n 1, 1) := by decide +kernel
theorem dX7_mark_50 : decode cX7_mark 50 = .ok (.iload_n 2, 1) := by decide +kernel
theorem dX7_mark_51 : decode cX7_mark 51 = .ok (.iload_n 3, 1) := by decide +kernel
theorem dX7_mark_52 : decode cX7_mark 52 = .ok (.iload 4, 2) := by decide +kernel
theorem dX7_mark_54 : decode cX7_mark 54 = .ok (.invokevirtual 166, 3) := by decide +kernel
theorem dX7_mark_57 : decode cX7_mark 57 = .ok (.ireturn, 1) := by decide +kernel
set_option maxRecDepth 20000 in
theorem ggX7_clear_X1_removeAll : GoodIn wsX7_clear wsX1_removeAll := goodIn_r _ [6, 7, 8, 9, 10, 11, 12, 13, 14, 23, 24, 25, 26, 27, 28, 29, 30, 31, 32, 33, 34] rfl (by decide +kernel)
set_option maxRecDepth 20000 in
theorem gX7_clear_X1_removeAll : GoodIn wsX7_clear (wsV RX7 169 RX1 yX1_removeAll wsX1_removeAll) := goodIn_app (goodIn_of _ (by decide +kernel)) ggX7_clear_X1_removeAll
theorem dX7_clear_0 : decode cX7_clear 0 = .ok (.aload_n 0, 1) := by decide +kernel
theorem dX7_clear_1 : decode cX7_clear 1 = .ok (.getfield 47, 3) := by decide +kernel
theorem dX7_clear_4 : decode cX7_clear 4 = .ok (.invokevirtual 169, 3) := by decide +kernel
theorem dX7_clear_7 : decode cX7_clear 7 = .ok (.ireturn, 1) := by decide +kernel
set_option maxRecDepth 20000 in
theorem ggX7_fit_X7_within : GoodIn wsX7_fit wsX7_within := goodIn_r _ [7] rfl (by decide +kernel)
set_option maxRecDepth 20000 in
theorem gX7_fit_X7_within : GoodIn wsX7_fit (va_wsS RX7 62 yX7_within wsX7_within) := goodIn_app (goodIn_of _ (by decide +kernel)) ggX7_fit_X7_within
set_option maxRecDepth 20000 in
theorem ggX7_fit_X1_isTold : GoodIn wsX7_fit wsX1_isTold := goodIn_r _ [12, 13, 14, 15, 11, 16, 17, 18, 19, 20, 64, 65, 66, 67, 68, 69, 70, 71, 72, 73, 74, 75] rfl (by decide +kernel)
set_option maxRecDepth 20000 in
theorem gX7_fit_X1_isTold : GoodIn wsX7_fit (wsV RX7 174 RX1 yX1_isTold wsX1_isTold) := goodIn_app (goodIn_of _ (by decide +kernel)) ggX7_fit_X1_isTold
set_option maxRecDepth 20000 in
theorem ggX7_fit_X1_upper : GoodIn wsX7_fit wsX1_upper := goodIn_r _ [24, 25, 26, 27, 11, 28, 17, 29, 19, 30, 20, 31, 32, 33, 34, 35, 36, 37, 38, 39, 40, 13, 14, 15, 16, 18, 41, 42, 43, 44, 64, 65, 66, 67, 68, 69, 70, 71, 72, 73, 74, 75] rfl (by decide +kernel)
set_option maxRecDepth 20000 in
theorem gX7_fit_X1_upper : GoodIn wsX7_fit (wsV RX7 179 RX1 yX1_upper wsX1_upper) := goodIn_app (goodIn_of _ (by decide +kernel)) ggX7_fit_X1_upper
set_option maxRecDepth 20000 in
theorem ggX7_fit_X1_lower : GoodIn wsX7_fit wsX1_lower := goodIn_r _ [48, 17, 13, 14, 15, 11, 16, 18, 19, 20, 64, 65, 66, 67, 68, 69, 70, 71, 72, 73, 74, 75] rfl (by decide +kernel)
set_option maxRecDepth 20000 in
theorem gX7_fit_X1_lower : GoodIn wsX7_fit (wsV RX7 183 RX1 yX1_lower wsX1_lower) := goodIn_app (goodIn_of _ (by decide +kernel)) ggX7_fit_X1_lower
set_option maxRecDepth 20000 in
theorem ggX7_fit_X7_commonDivisor : GoodIn wsX7_fit wsX7_commonDivisor := goodIn_r _ [51, 52, 53, 54, 55] rfl (by decide +kernel)
set_option maxRecDepth 20000 in
theorem gX7_fit_X7_commonDivisor : GoodIn wsX7_fit (va_wsS RX7 186 yX7_commonDivisor wsX7_commonDivisor) := goodIn_app (goodIn_of _ (by decide +kernel)) ggX7_fit_X7_commonDivisor
theorem dX7_fit_0 : decode cX7_fit 0 = .ok (.iload_n 1, 1) := by decide +kernel
theorem dX7_fit_1 : decode cX7_fit 1 = .ok (.iconst 0, 1) := by decide +kernel
theorem dX7_fit_2 : decode cX7_fit 2 = .ok (.iconst 3, 1) := by decide +kernel
theorem dX7_fit_3 : decode cX7_fit 3 = .ok (.invokestatic 62, 3) := by decide +kernel
theorem dX7_fit_6 : decode cX7_fit 6 = .ok (.ifCond .eq 12, 3) := by decide +kernel
theorem dX7_fit_9 : decode cX7_fit 9 = .ok (.iload_n 2, 1) := by decide +kernel
theorem dX7_fit_10 : decode cX7_fit 10 = .ok (.iconst 0, 1) := by decide +kernel
theorem dX7_fit_11 : decode cX7_fit 11 = .ok (.iconst 1, 1) := by decide +kernel
theorem dX7_fit_12 : decode cX7_fit 12 = .ok (.invokestatic 62, 3) := by decide +kernel
theorem dX7_fit_15 : decode cX7_fit 15 = .ok (.ifCond .ne 7, 3) := by decide +kernel
theorem dX7_fit_18 : decode cX7_fit 18 = .ok (.ldc2_w 172, 3) := by decide +kernel
theorem dX7_fit_21 : decode cX7_fit 21 = .ok (.lreturn, 1) := by decide +kernel
theorem dX7_fit_22 : decode cX7_fit 22 = .ok (.aload_n 0, 1) := by decide +kernel
theorem dX7_fit_23 : decode cX7_fit 23 = .ok (.getfield 47, 3) := by decide +kernel
theorem dX7_fit_26 : decode cX7_fit 26 = .ok (.invokevirtual 174, 3) := by decide +kernel
theorem dX7_fit_29 : decode cX7_fit 29 = .ok (.ifCond .ne 7, 3) := by decide +kernel
theorem dX7_fit_32 : decode cX7_fit 32 = .ok (.ldc2_w 177, 3) := by decide +kernel
theorem dX7_fit_35 : decode cX7_fit 35 = .ok (.lreturn, 1) := by decide +kernel
theorem dX7_fit_36 : decode cX7_fit 36 = .ok (.aload_n 0, 1) := by decide +kernel
theorem dX7_fit_37 : decode cX7_fit 37 = .ok (.getfield 47, 3) := by decide +kernel
theorem dX7_fit_40 : decode cX7_fit 40 = .ok (.iload_n 1, 1) := by decide +kernel
theorem dX7_fit_41 : decode cX7_fit 41 = .ok (.invokevirtual 179, 3) := by decide +kernel
theorem dX7_fit_44 : decode cX7_fit 44 = .ok (.lstore_n 3, 1) := by decide +kernel
theorem dX7_fit_45 : decode cX7_fit 45 = .ok (.aload_n 0, 1) := by decide +kernel
theorem dX7_fit_46 : decode cX7_fit 46 = .ok (.getfield 47, 3) := by decide +kernel
theorem dX7_fit_49 : decode cX7_fit 49 = .ok (.iload_n 1, 1) := by decide +kernel
theorem dX7_fit_50 : decode cX7_fit 50 = .ok (.invokevirtual 183, 3) := by decide +kernel
theorem dX7_fit_53 : decode cX7_fit 53 = .ok (.lstore 5, 2) := by decide +kernel
theorem dX7_fit_55 : decode cX7_fit 55 = .ok (.lload_n 3, 1) := by decide +kernel
theorem dX7_fit_56 : decode cX7_fit 56 = .ok (.lload 5, 2) := by decide +kernel
theorem dX7_fit_58 : decode cX7_fit 58 = .ok (.invokestatic 186, 3) := by decide +kernel
theorem dX7_fit_61 : decode cX7_fit 61 = .ok (.lstore 7, 2) := by decide +kernel
theorem dX7_fit_63 : decode cX7_fit 63 = .ok (.iload_n 2, 1) := by decide +kernel
theorem dX7_fit_64 : decode cX7_fit 64 = .ok (.ifCond .ne 7, 3) := by decide +kernel
theorem dX7_fit_67 : decode cX7_fit 67 = .ok (.lload_n 3, 1) := by decide +kernel
theorem dX7_fit_68 : decode cX7_fit 68 = .ok (.goto 5, 3) := by decide +kernel
theorem dX7_fit_71 : decode cX7_fit 71 = .ok (.lload 5, 2) := by decide +kernel
theorem dX7_fit_73 : decode cX7_fit 73 = .ok (.lstore 9, 2) := by decide +kernel
theorem dX7_fit_75 : decode cX7_fit 75 = .ok (.lload 7, 2) := by decide +kernel
theorem dX7_fit_77 : decode cX7_fit 77 = .ok (.lconst 0, 1) := by decide +kernel
theorem dX7_fit_78 : decode cX7_fit 78 = .ok (.lcmp, 1) := by decide +kernel
theorem dX7_fit_79 : decode cX7_fit 79 = .ok (.ifCond .le 11, 3) := by decide +kernel
theorem dX7_fit_82 : decode cX7_fit 82 = .ok (.lload 9, 2) := by decide +kernel
theorem dX7_fit_84 : decode cX7_fit 84 = .ok (.lload 7, 2) := by decide +kernel
theorem dX7_fit_86 : decode cX7_fit 86 = .ok (.ldiv, 1) := by decide +kernel
theorem dX7_fit_87 : decode cX7_fit 87 = .ok (.goto 5, 3) := by decide +kernel
theorem dX7_fit_90 : decode cX7_fit 90 = .ok (.lload 9, 2) := by decide +kernel
theorem dX7_fit_92 : decode cX7_fit 92 = .ok (.lreturn, 1) := by decide +kernel
set_option maxRecDepth 20000 in
theorem ggX7_off_X1_has : GoodIn wsX7_off wsX1_has := goodIn_r _ [9, 10, 71, 72, 73, 74, 75, 76, 77, 78, 79, 80, 81, 82] rfl (by decide +kernel)
set_option maxRecDepth 20000 in
theorem gX7_off_X1_has : GoodIn wsX7_off (wsV RX7 190 RX1 yX1_has wsX1_has) := goodIn_app (goodIn_of _ (by decide +kernel)) ggX7_off_X1_has
set_option maxRecDepth 20000 in
theorem ggX7_off_X7_within : GoodIn wsX7_off wsX7_within := goodIn_r _ [14] rfl (by decide +kernel)
set_option maxRecDepth 20000 in
theorem gX7_off_X7_within : GoodIn wsX7_off (va_wsS RX7 62 yX7_within wsX7_within) := goodIn_app (goodIn_of _ (by decide +kernel)) ggX7_off_X7_within
set_option maxRecDepth 20000 in
theorem ggX7_off_X1_isTold : GoodIn wsX7_off wsX1_isTold := goodIn_r _ [18, 19, 20, 21, 8, 22, 10, 23, 24, 25, 71, 72, 73, 74, 75, 76, 77, 78, 79, 80, 81, 82] rfl (by decide +kernel)
set_option maxRecDepth 20000 in
theorem gX7_off_X1_isTold : GoodIn wsX7_off (wsV RX7 174 RX1 yX1_isTold wsX1_isTold) := goodIn_app (goodIn_of _ (by decide +kernel)) ggX7_off_X1_isTold
set_option maxRecDepth 20000 in
theorem ggX7_off_X1_offAcross : GoodIn wsX7_off wsX1_offAcross := goodIn_r _ [29, 10, 30, 31, 32, 33, 34, 35, 8, 36, 37, 24, 38, 25, 39, 40, 41, 42, 43, 44, 45, 46, 47, 48, 19, 20, 21, 22, 23, 49, 50, 51, 52, 53, 71, 72, 73, 74, 75, 76, 77, 78, 79, 80, 81, 82] rfl (by decide +kernel)
set_option maxRecDepth 20000 in
theorem gX7_off_X1_offAcross : GoodIn wsX7_off (wsV RX7 192 RX1 yX1_offAcross wsX1_offAcross) := goodIn_app (goodIn_of _ (by decide +kernel)) ggX7_off_X1_offAcross
set_option maxRecDepth 20000 in
theorem ggX7_off_X1_offUp : GoodIn wsX7_off wsX1_offUp := goodIn_r _ [57, 10, 31, 30, 58, 33, 34, 35, 8, 36, 37, 24, 38, 25, 39, 40, 41, 42, 43, 44, 59, 60, 61, 62, 19, 20, 21, 22, 23, 49, 50, 51, 52, 53, 71, 72, 73, 74, 75, 76, 77, 78, 79, 80, 81, 82] rfl (by decide +kernel)
set_option maxRecDepth 20000 in
theorem gX7_off_X1_offUp : GoodIn wsX7_off (wsV RX7 195 RX1 yX1_offUp wsX1_offUp) := goodIn_app (goodIn_of _ (by decide +kernel)) ggX7_off_X1_offUp
theorem dX7_off_0 : decode cX7_off 0 = .ok (.aload_n 0, 1) := by decide +kernel
theorem dX7_off_1 : decode cX7_off 1 = .ok (.getfield 47, 3) := by decide +kernel
theorem dX7_off_4 : decode cX7_off 4 = .ok (.iload_n 1, 1) := by decide +kernel
theorem dX7_off_5 : decode cX7_off 5 = .ok (.invokevirtual 190, 3) := by decide +kernel
theorem dX7_off_8 : decode cX7_off 8 = .ok (.ifCond .ne 6, 3) := by decide +kernel
theorem dX7_off_11 : decode cX7_off 11 = .ok (.ldc 79, 2) := by decide +kernel
theorem dX7_off_13 : decode cX7_off 13 = .ok (.ireturn, 1) := by decide +kernel
theorem dX7_off_14 : decode cX7_off 14 = .ok (.iload_n 2, 1) := by decide +kernel
theorem dX7_off_15 : decode cX7_off 15 = .ok (.iconst 0, 1) := by decide +kernel
theorem dX7_off_16 : decode cX7_off 16 = .ok (.iconst 1, 1) := by decide +kernel
theorem dX7_off_17 : decode cX7_off 17 = .ok (.invokestatic 62, 3) := by decide +kernel
theorem dX7_off_20 : decode cX7_off 20 = .ok (.ifCond .ne 6, 3) := by decide +kernel
theorem dX7_off_23 : decode cX7_off 23 = .ok (.ldc 84, 2) := by decide +kernel
theorem dX7_off_25 : decode cX7_off 25 = .ok (.ireturn, 1) := by decide +kernel
theorem dX7_off_26 : decode cX7_off 26 = .ok (.aload_n 0, 1) := by decide +kernel
theorem dX7_off_27 : decode cX7_off 27 = .ok (.getfield 47, 3) := by decide +kernel
theorem dX7_off_30 : decode cX7_off 30 = .ok (.invokevirtual 174, 3) := by decide +kernel
theorem dX7_off_33 : decode cX7_off 33 = .ok (.ifCond .ne 6, 3) := by decide +kernel
theorem dX7_off_36 : decode cX7_off 36 = .ok (.ldc 191, 2) := by decide +kernel
theorem dX7_off_38 : decode cX7_off 38 = .ok (.ireturn, 1) := by decide +kernel
theorem dX7_off_39 : decode cX7_off 39 = .ok (.iload_n 2, 1) := by decide +kernel
theorem dX7_off_40 : decode cX7_off 40 = .ok (.ifCond .ne 14, 3) := by decide +kernel
theorem dX7_off_43 : decode cX7_off 43 = .ok (.aload_n 0, 1) := by decide +kernel
theorem dX7_off_44 : decode cX7_off 44 = .ok (.getfield 47, 3) := by decide +kernel
theorem dX7_off_47 : decode cX7_off 47 = .ok (.iload_n 1, 1) := by decide +kernel
theorem dX7_off_48 : decode cX7_off 48 = .ok (.invokevirtual 192, 3) := by decide +kernel
theorem dX7_off_51 : decode cX7_off 51 = .ok (.goto 11, 3) := by decide +kernel
theorem dX7_off_54 : decode cX7_off 54 = .ok (.aload_n 0, 1) := by decide +kernel
theorem dX7_off_55 : decode cX7_off 55 = .ok (.getfield 47, 3) := by decide +kernel
theorem dX7_off_58 : decode cX7_off 58 = .ok (.iload_n 1, 1) := by decide +kernel
theorem dX7_off_59 : decode cX7_off 59 = .ok (.invokevirtual 195, 3) := by decide +kernel
theorem dX7_off_62 : decode cX7_off 62 = .ok (.ireturn, 1) := by decide +kernel
set_option maxRecDepth 20000 in
theorem ggX7_job_X0_isColour : GoodIn wsX7_job wsX0_isColour := goodIn_r _ [5] rfl (by decide +kernel)
set_option maxRecDepth 20000 in
theorem gX7_job_X0_isColour : GoodIn wsX7_job (va_wsS RX7 198 yX0_isColour wsX0_isColour) := goodIn_app (goodIn_of _ (by decide +kernel)) ggX7_job_X0_isColour
set_option maxRecDepth 20000 in
theorem ggX7_job_X0_isPaper : GoodIn wsX7_job wsX0_isPaper := goodIn_r _ [8] rfl (by decide +kernel)
set_option maxRecDepth 20000 in
theorem gX7_job_X0_isPaper : GoodIn wsX7_job (va_wsS RX7 201 yX0_isPaper wsX0_isPaper) := goodIn_app (goodIn_of _ (by decide +kernel)) ggX7_job_X0_isPaper
set_option maxRecDepth 20000 in
theorem ggX7_job_X0_isFull : GoodIn wsX7_job wsX0_isFull := goodIn_r _ [12, 13, 29, 30, 31, 32, 33, 34, 35] rfl (by decide +kernel)
set_option maxRecDepth 20000 in
theorem gX7_job_X0_isFull : GoodIn wsX7_job (wsV RX7 204 RX0 yX0_isFull wsX0_isFull) := goodIn_app (goodIn_of _ (by decide +kernel)) ggX7_job_X0_isFull
set_option maxRecDepth 20000 in
theorem ggX7_job_X0_add : GoodIn wsX7_job wsX0_add := goodIn_r _ [17, 18, 13, 19, 20, 29, 30, 31, 32, 33, 34, 35] rfl (by decide +kernel)
set_option maxRecDepth 20000 in
theorem gX7_job_X0_add : GoodIn wsX7_job (wsV RX7 205 RX0 yX0_add wsX0_add) := goodIn_app (goodIn_of _ (by decide +kernel)) ggX7_job_X0_add
theorem dX7_job_0 : decode cX7_job 0 = .ok (.iload_n 1, 1) := by decide +kernel
theorem dX7_job_1 : decode cX7_job 1 = .ok (.invokestatic 198, 3) := by decide +kernel
theorem dX7_job_4 : decode cX7_job 4 = .ok (.ifCond .eq 10, 3) := by decide +kernel
theorem dX7_job_7 : decode cX7_job 7 = .ok (.iload_n 2, 1) := by decide +kernel
theorem dX7_job_8 : decode cX7_job 8 = .ok (.invokestatic 201, 3) := by decide +kernel
theorem dX7_job_11 : decode cX7_job 11 = .ok (.ifCond .ne 6, 3) := by decide +kernel
theorem dX7_job_14 : decode cX7_job 14 = .ok (.bipush (-2), 2) := by decide +kernel
theorem dX7_job_16 : decode cX7_job 16 = .ok (.ireturn, 1) := by decide +kernel
theorem dX7_job_17 : decode cX7_job 17 = .ok (.aload_n 0, 1) := by decide +kernel
theorem dX7_job_18 : decode cX7_job 18 = .ok (.getfield 54, 3) := by decide +kernel
theorem dX7_job_21 : decode cX7_job 21 = .ok (.invokevirtual 204, 3) := by decide +kernel
theorem dX7_job_24 : decode cX7_job 24 = .ok (.ifCond .eq 6, 3) := by decide +kernel
theorem dX7_job_27 : decode cX7_job 27 = .ok (.bipush (-4), 2) := by decide +kernel
theorem dX7_job_29 : decode cX7_job 29 = .ok (.ireturn, 1) := by decide +kernel
theorem dX7_job_30 : decode cX7_job 30 = .ok (.aload_n 0, 1) := by decide +kernel
theorem dX7_job_31 : decode cX7_job 31 = .ok (.getfield 54, 3) := by decide +kernel
theorem dX7_job_34 : decode cX7_job 34 = .ok (.iload_n 1, 1) := by decide +kernel
theorem dX7_job_35 : decode cX7_job 35 = .ok (.iload_n 2, 1) := by decide +kernel
theorem dX7_job_36 : decode cX7_job 36 = .ok (.invokevirtual 205, 3) := by decide +kernel
theorem dX7_job_39 : decode cX7_job 39 = .ok (.ireturn, 1) := by decide +kernel
set_option maxRecDepth 20000 in
theorem ggX7_forget_X0_removeAll : GoodIn wsX7_forget wsX0_removeAll := goodIn_r _ [6, 7, 8, 17, 18, 19, 20, 21, 22, 23] rfl (by decide +kernel)
set_option maxRecDepth 20000 in
theorem gX7_forget_X0_removeAll : GoodIn wsX7_forget (wsV RX7 206 RX0 yX0_removeAll wsX0_removeAll) := goodIn_app (goodIn_of _ (by decide +kernel)) ggX7_forget_X0_removeAll
theorem dX7_forget_0 : decode cX7_forget 0 = .ok (.aload_n 0, 1) := by decide +kernel
theorem dX7_forget_1 : decode cX7_forget 1 = .ok (.getfield 54, 3) := by decide +kernel
theorem dX7_forget_4 : decode cX7_forget 4 = .ok (.invokevirtual 206, 3) := by decide +kernel
theorem dX7_forget_7 : decode cX7_forget 7 = .ok (.ireturn, 1) := by decide +kernel
set_option maxRecDepth 20000 in
theorem ggX7_wash_X0_isColour : GoodIn wsX7_wash wsX0_isColour := goodIn_r _ [5] rfl (by decide +kernel)
set_option maxRecDepth 20000 in
theorem gX7_wash_X0_isColour : GoodIn wsX7_wash (va_wsS RX7 198 yX0_isColour wsX0_isColour) := goodIn_app (goodIn_of _ (by decide +kernel)) ggX7_wash_X0_isColour
set_option maxRecDepth 20000 in
theorem ggX7_wash_X0_isWashCost : GoodIn wsX7_wash wsX0_isWashCost := goodIn_r _ [8, 9, 10, 11] rfl (by decide +kernel)
set_option maxRecDepth 20000 in
theorem gX7_wash_X0_isWashCost : GoodIn wsX7_wash (va_wsS RX7 207 yX0_isWashCost wsX0_isWashCost) := goodIn_app (goodIn_of _ (by decide +kernel)) ggX7_wash_X0_isWashCost
set_option maxRecDepth 20000 in
theorem ggX7_wash_X0_changeWash : GoodIn wsX7_wash wsX0_changeWash := goodIn_r _ [15, 16, 17, 26, 27, 28, 29, 30, 31, 32] rfl (by decide +kernel)
set_option maxRecDepth 20000 in
theorem gX7_wash_X0_changeWash : GoodIn wsX7_wash (wsV RX7 210 RX0 yX0_changeWash wsX0_changeWash) := goodIn_app (goodIn_of _ (by decide +kernel)) ggX7_wash_X0_changeWash
theorem dX7_wash_0 : decode cX7_wash 0 = .ok (.iload_n 1, 1) := by decide +kernel
theorem dX7_wash_1 : decode cX7_wash 1 = .ok (.invokestatic 198, 3) := by decide +kernel
theorem dX7_wash_4 : decode cX7_wash 4 = .ok (.ifCond .eq 10, 3) := by decide +kernel
theorem dX7_wash_7 : decode cX7_wash 7 = .ok (.iload_n 2, 1) := by decide +kernel
theorem dX7_wash_8 : decode cX7_wash 8 = .ok (.invokestatic 198, 3) := by decide +kernel
theorem dX7_wash_11 : decode cX7_wash 11 = .ok (.ifCond .ne 5, 3) := by decide +kernel
theorem dX7_wash_14 : decode cX7_wash 14 = .ok (.iconst (-1), 1) := by decide +kernel
theorem dX7_wash_15 : decode cX7_wash 15 = .ok (.ireturn, 1) := by decide +kernel
theorem dX7_wash_16 : decode cX7_wash 16 = .ok (.iload_n 3, 1) := by decide +kernel
theorem dX7_wash_17 : decode cX7_wash 17 = .ok (.invokestatic 207, 3) := by decide +kernel
theorem dX7_wash_20 : decode cX7_wash 20 = .ok (.ifCond .ne 6, 3) := by decide +kernel
theorem dX7_wash_23 : decode cX7_wash 23 = .ok (.bipush (-2), 2) := by decide +kernel
theorem dX7_wash_25 : decode cX7_wash 25 = .ok (.ireturn, 1) := by decide +kernel
theorem dX7_wash_26 : decode cX7_wash 26 = .ok (.iload_n 1, 1) := by decide +kernel
theorem dX7_wash_27 : decode cX7_wash 27 = .ok (.iload_n 2, 1) := by decide +kernel
theorem dX7_wash_28 : decode cX7_wash 28 = .ok (.if_icmp .ne 6, 3) := by decide +kernel
theorem dX7_wash_31 : decode cX7_wash 31 = .ok (.bipush (-5), 2) := by decide +kernel
theorem dX7_wash_33 : decode cX7_wash 33 = .ok (.ireturn, 1) := by decide +kernel
theorem dX7_wash_34 : decode cX7_wash 34 = .ok (.aload_n 0, 1) := by decide +kernel
theorem dX7_wash_35 : decode cX7_wash 35 = .ok (.getfield 54, 3) := by decide +kernel
theorem dX7_wash_38 : decode cX7_wash 38 = .ok (.iload_n 1, 1) := by decide +kernel
theorem dX7_wash_39 : decode cX7_wash 39 = .ok (.iload_n 2, 1) := by decide +kernel
theorem dX7_wash_40 : decode cX7_wash 40 = .ok (.iload_n 3, 1) := by decide +kernel
theorem dX7_wash_41 : decode cX7_wash 41 = .ok (.invokevirtual 210, 3) := by decide +kernel
theorem dX7_wash_44 : decode cX7_wash 44 = .ok (.ireturn, 1) := by decide +kernel
set_option maxRecDepth 20000 in
theorem ggX7_order_X0_leastCosts : GoodIn wsX7_order wsX0_leastCosts := goodIn_r _ [6, 7, 8, 9, 10, 5, 11, 12, 13, 14, 15, 16, 17, 18, 19, 20, 21, 22, 23, 24, 25, 26, 27, 28, 29, 30, 31, 32, 33, 34, 35, 36, 45, 46, 47, 48, 49, 50, 51] rfl (by decide +kernel)
set_option maxRecDepth 20000 in
theorem gX7_order_X0_leastCosts : GoodIn wsX7_order (wsV RX7 213 RX0 yX0_leastCosts wsX0_leastCosts) := goodIn_app (goodIn_of _ (by decide +kernel)) ggX7_order_X0_leastCosts
theorem dX7_order_0 : decode cX7_order 0 = .ok (.aload_n 0, 1) := by decide +kernel
theorem dX7_order_1 : decode cX7_order 1 = .ok (.getfield 54, 3) := by decide +kernel
theorem dX7_order_4 : decode cX7_order 4 = .ok (.invokevirtual 213, 3) := by decide +kernel
theorem dX7_order_7 : decode cX7_order 7 = .ok (.ireturn, 1) := by decide +kernel
set_option maxRecDepth 20000 in
theorem ggX7_orderAt_X0_has : GoodIn wsX7_orderAt wsX0_has := goodIn_r _ [6, 7, 49, 50, 51, 52, 53, 54, 55] rfl (by decide +kernel)
set_option maxRecDepth 20000 in
theorem gX7_orderAt_X0_has : GoodIn wsX7_orderAt (wsV RX7 216 RX0 yX0_has wsX0_has) := goodIn_app (goodIn_of _ (by decide +kernel)) ggX7_orderAt_X0_has
set_option maxRecDepth 20000 in
theorem ggX7_orderAt_X0_inOrder : GoodIn wsX7_orderAt wsX0_inOrder := goodIn_r _ [11, 12, 13, 14, 15, 5, 16, 17, 7, 18, 19, 20, 21, 22, 23, 24, 25, 26, 27, 28, 29, 30, 31, 32, 33, 34, 35, 36, 37, 38, 39, 40, 49, 50, 51, 52, 53, 54, 55] rfl (by decide +kernel)
set_option maxRecDepth 20000 in
theorem gX7_orderAt_X0_inOrder : GoodIn wsX7_orderAt (wsV RX7 217 RX0 yX0_inOrder wsX0_inOrder) := goodIn_app (goodIn_of _ (by decide +kernel)) ggX7_orderAt_X0_inOrder
theorem dX7_orderAt_0 : decode cX7_orderAt 0 = .ok (.aload_n 0, 1) := by decide +kernel
theorem dX7_orderAt_1 : decode cX7_orderAt 1 = .ok (.getfield 54, 3) := by decide +kernel
theorem dX7_orderAt_4 : decode cX7_orderAt 4 = .ok (.iload_n 1, 1) := by decide +kernel
theorem dX7_orderAt_5 : decode cX7_orderAt 5 = .ok (.invokevirtual 216, 3) := by decide +kernel
theorem dX7_orderAt_8 : decode cX7_orderAt 8 = .ok (.ifCond .eq 14, 3) := by decide +kernel
theorem dX7_orderAt_11 : decode cX7_orderAt 11 = .ok (.aload_n 0, 1) := by decide +kernel
theorem dX7_orderAt_12 : decode cX7_orderAt 12 = .ok (.getfield 54, 3) := by decide +kernel
theorem dX7_orderAt_15 : decode cX7_orderAt 15 = .ok (.iload_n 1, 1) := by decide +kernel
theorem dX7_orderAt_16 : decode cX7_orderAt 16 = .ok (.invokevirtual 217, 3) := by decide +kernel
theorem dX7_orderAt_19 : decode cX7_orderAt 19 = .ok (.goto 5, 3) := by decide +kernel
theorem dX7_orderAt_22 : decode cX7_orderAt 22 = .ok (.bipush (-6), 2) := by decide +kernel
theorem dX7_orderAt_24 : decode cX7_orderAt 24 = .ok (.ireturn, 1) := by decide +kernel
set_option maxRecDepth 20000 in
theorem ggX7_printSheet_X6_valueOf : GoodIn wsX7_printSheet wsX6_valueOf := goodIn_r _ [13, 14, 74, 75] rfl (by decide +kernel)
set_option maxRecDepth 20000 in
theorem gX7_printSheet_X6_valueOf : GoodIn wsX7_printSheet (wsV RX7 98 RX6 yX6_valueOf wsX6_valueOf) := goodIn_app (goodIn_of _ (by decide +kernel)) ggX7_printSheet_X6_valueOf
set_option maxRecDepth 20000 in
theorem ggX7_printSheet_X3_valueOf : GoodIn wsX7_printSheet wsX3_valueOf := goodIn_r _ [19, 20, 76] rfl (by decide +kernel)
set_option maxRecDepth 20000 in
theorem gX7_printSheet_X3_valueOf : GoodIn wsX7_printSheet (wsV RX7 220 RX3 yX3_valueOf wsX3_valueOf) := goodIn_app (goodIn_of _ (by decide +kernel)) ggX7_printSheet_X3_valueOf
set_option maxRecDepth 20000 in
theorem ggX7_printSheet_X5_feedZone : GoodIn wsX7_printSheet wsX5_feedZone := goodIn_r _ [25, 26, 27, 77, 78, 79, 80, 81, 82] rfl (by decide +kernel)
set_option maxRecDepth 20000 in
theorem gX7_printSheet_X5_feedZone : GoodIn wsX7_printSheet (wsV RX7 222 RX5 yX5_feedZone wsX5_feedZone) := goodIn_app (goodIn_of _ (by decide +kernel)) ggX7_printSheet_X5_feedZone
set_option maxRecDepth 20000 in
theorem ggX7_printSheet_X5_passOn : GoodIn wsX7_printSheet wsX5_passOn := goodIn_r _ [31, 32, 33, 26, 34, 35, 24, 36, 77, 78, 79, 80, 81, 82] rfl (by decide +kernel)
set_option maxRecDepth 20000 in
theorem gX7_printSheet_X5_passOn : GoodIn wsX7_printSheet (wsV RX7 225 RX5 yX5_passOn wsX5_passOn) := goodIn_app (goodIn_of _ (by decide +kernel)) ggX7_printSheet_X5_passOn
set_option maxRecDepth 20000 in
theorem ggX7_printSheet_X5_driftAside : GoodIn wsX7_printSheet wsX5_driftAside := goodIn_r _ [40, 32, 26, 33, 34, 35, 24, 36, 77, 78, 79, 80, 81, 82] rfl (by decide +kernel)
set_option maxRecDepth 20000 in
theorem gX7_printSheet_X5_driftAside : GoodIn wsX7_printSheet (wsV RX7 228 RX5 yX5_driftAside wsX5_driftAside) := goodIn_app (goodIn_of _ (by decide +kernel)) ggX7_printSheet_X5_driftAside
set_option maxRecDepth 20000 in
theorem ggX7_printSheet_X4_begin : GoodIn wsX7_printSheet wsX4_begin := goodIn_r _ [45, 46, 83, 84, 85, 86, 87, 88] rfl (by decide +kernel)
set_option maxRecDepth 20000 in
theorem gX7_printSheet_X4_begin : GoodIn wsX7_printSheet (wsV RX7 231 RX4 yX4_begin wsX4_begin) := goodIn_app (goodIn_of _ (by decide +kernel)) ggX7_printSheet_X4_begin
set_option maxRecDepth 20000 in
theorem ggX7_printSheet_X5_takeOff : GoodIn wsX7_printSheet wsX5_takeOff := goodIn_r _ [50, 32, 26, 51, 52, 34, 35, 24, 36, 77, 78, 79, 80, 81, 82] rfl (by decide +kernel)
set_option maxRecDepth 20000 in
theorem gX7_printSheet_X5_takeOff : GoodIn wsX7_printSheet (wsV RX7 234 RX5 yX5_takeOff wsX5_takeOff) := goodIn_app (goodIn_of _ (by decide +kernel)) ggX7_printSheet_X5_takeOff
set_option maxRecDepth 20000 in
theorem ggX7_printSheet_X4_note : GoodIn wsX7_printSheet wsX4_note := goodIn_r _ [56, 57, 46, 83, 84, 85, 86, 87, 88] rfl (by decide +kernel)
set_option maxRecDepth 20000 in
theorem gX7_printSheet_X4_note : GoodIn wsX7_printSheet (wsV RX7 237 RX4 yX4_note wsX4_note) := goodIn_app (goodIn_of _ (by decide +kernel)) ggX7_printSheet_X4_note
set_option maxRecDepth 20000 in
theorem ggX7_printSheet_X4_judge : GoodIn wsX7_printSheet wsX4_judge := goodIn_r _ [61, 62, 46, 63, 64, 65, 83, 84, 85, 86, 87, 88] rfl (by decide +kernel)
set_option maxRecDepth 20000 in
theorem gX7_printSheet_X4_judge : GoodIn wsX7_printSheet (wsV RX7 245 RX4 yX4_judge wsX4_judge) := goodIn_app (goodIn_of _ (by decide +kernel)) ggX7_printSheet_X4_judge
theorem dX7_printSheet_0 : decode cX7_printSheet 0 = .ok (.iconst 0, 1) := by decide +kernel
theorem dX7_printSheet_1 : decode cX7_printSheet 1 = .ok (.istore_n 1, 1) := by decide +kernel
theorem dX7_printSheet_2 : decode cX7_printSheet 2 = .ok (.iload_n 1, 1) := by decide +kernel
theorem dX7_printSheet_3 : decode cX7_printSheet 3 = .ok (.aload_n 0, 1) := by decide +kernel
theorem dX7_printSheet_4 : decode cX7_printSheet 4 = .ok (.getfield 19, 3) := by decide +kernel
theorem dX7_printSheet_7 : decode cX7_printSheet 7 = .ok (.getfield 138, 3) := by decide +kernel
theorem dX7_printSheet_10 : decode cX7_printSheet 10 = .ok (.if_icmp .ge 35, 3) := by decide +kernel
theorem dX7_printSheet_13 : decode cX7_printSheet 13 = .ok (.aload_n 0, 1) := by decide +kernel
theorem dX7_printSheet_14 : decode cX7_printSheet 14 = .ok (.getfield 26, 3) := by decide +kernel
theorem dX7_printSheet_17 : decode cX7_printSheet 17 = .ok (.iload_n 1, 1) := by decide +kernel
theorem dX7_printSheet_18 : decode cX7_printSheet 18 = .ok (.aload_n 0, 1) := by decide +kernel
theorem dX7_printSheet_19 : decode cX7_printSheet 19 = .ok (.getfield 19, 3) := by decide +kernel
theorem dX7_printSheet_22 : decode cX7_printSheet 22 = .ok (.iload_n 1, 1) := by decide +kernel
theorem dX7_printSheet_23 : decode cX7_printSheet 23 = .ok (.iconst 0, 1) := by decide +kernel
theorem dX7_printSheet_24 : decode cX7_printSheet 24 = .ok (.invokevirtual 98, 3) := by decide +kernel
theorem dX7_printSheet_27 : decode cX7_printSheet 27 = .ok (.aload_n 0, 1) := by decide +kernel
theorem dX7_printSheet_28 : decode cX7_printSheet 28 = .ok (.getfield 10, 3) := by decide +kernel
theorem dX7_printSheet_31 : decode cX7_printSheet 31 = .ok (.iconst 0, 1) := by decide +kernel
theorem dX7_printSheet_32 : decode cX7_printSheet 32 = .ok (.invokevirtual 220, 3) := by decide +kernel
theorem dX7_printSheet_35 : decode cX7_printSheet 35 = .ok (.imul, 1) := by decide +kernel
theorem dX7_printSheet_36 : decode cX7_printSheet 36 = .ok (.invokevirtual 222, 3) := by decide +kernel
theorem dX7_printSheet_39 : decode cX7_printSheet 39 = .ok (.iinc 1 1, 3) := by decide +kernel
theorem dX7_printSheet_42 : decode cX7_printSheet 42 = .ok (.goto (-40), 3) := by decide +kernel
theorem dX7_printSheet_45 : decode cX7_printSheet 45 = .ok (.aload_n 0, 1) := by decide +kernel
theorem dX7_printSheet_46 : decode cX7_printSheet 46 = .ok (.getfield 26, 3) := by decide +kernel
theorem dX7_printSheet_49 : decode cX7_printSheet 49 = .ok (.aload_n 0, 1) := by decide +kernel
theorem dX7_printSheet_50 : decode cX7_printSheet 50 = .ok (.getfield 10, 3) := by decide +kernel
theorem dX7_printSheet_53 : decode cX7_printSheet 53 = .ok (.iconst 1, 1) := by decide +kernel
theorem dX7_printSheet_54 : decode cX7_printSheet 54 = .ok (.invokevirtual 220, 3) := by decide +kernel
theorem dX7_printSheet_57 : decode cX7_printSheet 57 = .ok (.invokevirtual 225, 3) := by decide +kernel
theorem dX7_printSheet_60 : decode cX7_printSheet 60 = .ok (.aload_n 0, 1) := by decide +kernel
theorem dX7_printSheet_61 : decode cX7_printSheet 61 = .ok (.getfield 26, 3) := by decide +kernel
theorem dX7_printSheet_64 : decode cX7_printSheet 64 = .ok (.aload_n 0, 1) := by decide +kernel
theorem dX7_printSheet_65 : decode cX7_printSheet 65 = .ok (.getfield 10, 3) := by decide +kernel
theorem dX7_printSheet_68 : decode cX7_printSheet 68 = .ok (.iconst 2, 1) := by decide +kernel
theorem dX7_printSheet_69 : decode cX7_printSheet 69 = .ok (.invokevirtual 220, 3) := by decide +kernel
theorem dX7_printSheet_72 : decode cX7_printSheet 72 = .ok (.invokevirtual 228, 3) := by decide +kernel
theorem dX7_printSheet_75 : decode cX7_printSheet 75 = .ok (.aload_n 0, 1) := by decide +kernel
theorem dX7_printSheet_76 : decode cX7_printSheet 76 = .ok (.getfield 33, 3) := by decide +kernel
theorem dX7_printSheet_79 : decode cX7_printSheet 79 = .ok (.invokevirtual 231, 3) := by decide +kernel
theorem dX7_printSheet_82 : decode cX7_printSheet 82 = .ok (.iconst 1, 1) := by decide +kernel
theorem dX7_printSheet_83 : decode cX7_printSheet 83 = .ok (.istore_n 1, 1) := by decide +kernel
theorem dX7_printSheet_84 : decode cX7_printSheet 84 = .ok (.iconst 0, 1) := by decide +kernel
theorem dX7_printSheet_85 : decode cX7_printSheet 85 = .ok (.istore_n 2, 1) := by decide +kernel
theorem dX7_printSheet_86 : decode cX7_printSheet 86 = .ok (.iload_n 2, 1) := by decide +kernel
theorem dX7_printSheet_87 : decode cX7_printSheet 87 = .ok (.aload_n 0, 1) := by decide +kernel
theorem dX7_printSheet_88 : decode cX7_printSheet 88 = .ok (.getfield 19, 3) := by decide +kernel
theorem dX7_printSheet_91 : decode cX7_printSheet 91 = .ok (.getfield 138, 3) := by decide +kernel
theorem dX7_printSheet_94 : decode cX7_printSheet 94 = .ok (.if_icmp .ge 87, 3) := by decide +kernel
theorem dX7_printSheet_97 : decode cX7_printSheet 97 = .ok (.bipush 10, 2) := by decide +kernel
theorem dX7_printSheet_99 : decode cX7_printSheet 99 = .ok (.aload_n 0, 1) := by decide +kernel
theorem dX7_printSheet_100 : decode cX7_printSheet 100 = .ok (.getfield 26, 3) := by decide +kernel
theorem dX7_printSheet_103 : decode cX7_printSheet 103 = .ok (.iload_n 2, 1) := by decide +kernel
theorem dX7_printSheet_104 : decode cX7_printSheet 104 = .ok (.aload_n 0, 1) := by decide +kernel
theorem dX7_printSheet_105 : decode cX7_printSheet 105 = .ok (.getfield 10, 3) := by decide +kernel
theorem dX7_printSheet_108 : decode cX7_printSheet 108 = .ok (.iconst 3, 1) := by decide +kernel
theorem dX7_printSheet_109 : decode cX7_printSheet 109 = .ok (.invokevirtual 220, 3) := by decide +kernel
theorem dX7_printSheet_112 : decode cX7_printSheet 112 = .ok (.aload_n 0, 1) := by decide +kernel
theorem dX7_printSheet_113 : decode cX7_printSheet 113 = .ok (.getfield 19, 3) := by decide +kernel
theorem dX7_printSheet_116 : decode cX7_printSheet 116 = .ok (.iload_n 2, 1) := by decide +kernel
theorem dX7_printSheet_117 : decode cX7_printSheet 117 = .ok (.iconst 1, 1) := by decide +kernel
theorem dX7_printSheet_118 : decode cX7_printSheet 118 = .ok (.invokevirtual 98, 3) := by decide +kernel
theorem dX7_printSheet_121 : decode cX7_printSheet 121 = .ok (.invokevirtual 234, 3) := by decide +kernel
theorem dX7_printSheet_124 : decode cX7_printSheet 124 = .ok (.imul, 1) := by decide +kernel
theorem dX7_printSheet_125 : decode cX7_printSheet 125 = .ok (.istore_n 3, 1) := by decide +kernel
theorem dX7_printSheet_126 : decode cX7_printSheet 126 = .ok (.aload_n 0, 1) := by decide +kernel
theorem dX7_printSheet_127 : decode cX7_printSheet 127 = .ok (.getfield 33, 3) := by decide +kernel
theorem dX7_printSheet_130 : decode cX7_printSheet 130 = .ok (.iload_n 2, 1) := by decide +kernel
theorem dX7_printSheet_131 : decode cX7_printSheet 131 = .ok (.iload_n 3, 1) := by decide +kernel
theorem dX7_printSheet_132 : decode cX7_printSheet 132 = .ok (.invokevirtual 237, 3) := by decide +kernel
theorem dX7_printSheet_135 : decode cX7_printSheet 135 = .ok (.iload_n 3, 1) := by decide +kernel
theorem dX7_printSheet_136 : decode cX7_printSheet 136 = .ok (.aload_n 0, 1) := by decide +kernel
theorem dX7_printSheet_137 : decode cX7_printSheet 137 = .ok (.getfield 19, 3) := by decide +kernel
theorem dX7_printSheet_140 : decode cX7_printSheet 140 = .ok (.iload_n 2, 1) := by decide +kernel
theorem dX7_printSheet_141 : decode cX7_printSheet 141 = .ok (.iconst 2, 1) := by decide +kernel
theorem dX7_printSheet_142 : decode cX7_printSheet 142 = .ok (.invokevirtual 98, 3) := by decide +kernel
theorem dX7_printSheet_145 : decode cX7_printSheet 145 = .ok (.isub, 1) := by decide +kernel
theorem dX7_printSheet_146 : decode cX7_printSheet 146 = .ok (.invokestatic 240, 3) := by decide +kernel
theorem dX7_printSheet_149 : decode cX7_printSheet 149 = .ok (.istore 4, 2) := by decide +kernel
theorem dX7_printSheet_151 : decode cX7_printSheet 151 = .ok (.iload_n 1, 1) := by decide +kernel
theorem dX7_printSheet_152 : decode cX7_printSheet 152 = .ok (.ifCond .eq 21, 3) := by decide +kernel
theorem dX7_printSheet_155 : decode cX7_printSheet 155 = .ok (.iload 4, 2) := by decide +kernel
theorem dX7_printSheet_157 : decode cX7_printSheet 157 = .ok (.aload_n 0, 1) := by decide +kernel
theorem dX7_printSheet_158 : decode cX7_printSheet 158 = .ok (.getfield 10, 3) := by decide +kernel
theorem dX7_printSheet_161 : decode cX7_printSheet 161 = .ok (.bipush 6, 2) := by decide +kernel
theorem dX7_printSheet_163 : decode cX7_printSheet 163 = .ok (.invokevirtual 220, 3) := by decide +kernel
theorem dX7_printSheet_166 : decode cX7_printSheet 166 = .ok (.if_icmp .gt 7, 3) := by decide +kernel
theorem dX7_printSheet_169 : decode cX7_printSheet 169 = .ok (.iconst 1, 1) := by decide +kernel
theorem dX7_printSheet_170 : decode cX7_printSheet 170 = .ok (.goto 4, 3) := by decide +kernel
theorem dX7_printSheet_173 : decode cX7_printSheet 173 = .ok (.iconst 0, 1) := by decide +kernel
theorem dX7_printSheet_174 : decode cX7_printSheet 174 = .ok (.istore_n 1, 1) := by decide +kernel
theorem dX7_printSheet_175 : decode cX7_printSheet 175 = .ok (.iinc 2 1, 3) := by decide +kernel
theorem dX7_printSheet_178 : decode cX7_printSheet 178 = .ok (.goto (-92), 3) := by decide +kernel
theorem dX7_printSheet_181 : decode cX7_printSheet 181 = .ok (.aload_n 0, 1) := by decide +kernel
theorem dX7_printSheet_182 : decode cX7_printSheet 182 = .ok (.getfield 33, 3) := by decide +kernel
theorem dX7_printSheet_185 : decode cX7_printSheet 185 = .ok (.iload_n 1, 1) := by decide +kernel
theorem dX7_printSheet_186 : decode cX7_printSheet 186 = .ok (.aload_n 0, 1) := by decide +kernel
theorem dX7_printSheet_187 : decode cX7_printSheet 187 = .ok (.getfield 10, 3) := by decide +kernel
theorem dX7_printSheet_190 : decode cX7_printSheet 190 = .ok (.bipush 8, 2) := by decide +kernel
theorem dX7_printSheet_192 : decode cX7_printSheet 192 = .ok (.invokevirtual 220, 3) := by decide +kernel
theorem dX7_printSheet_195 : decode cX7_printSheet 195 = .ok (.invokevirtual 245, 3) := by decide +kernel
theorem dX7_printSheet_198 : decode cX7_printSheet 198 = .ok (.return_, 1) := by decide +kernel
set_option maxRecDepth 20000 in
theorem ggX7_isSteeringDue_X3_valueOf : GoodIn wsX7_isSteeringDue wsX3_valueOf := goodIn_r _ [7, 8, 23] rfl (by decide +kernel)
set_option maxRecDepth 20000 in
theorem gX7_isSteeringDue_X3_valueOf : GoodIn wsX7_isSteeringDue (wsV RX7 220 RX3 yX3_valueOf wsX3_valueOf) := goodIn_app (goodIn_of _ (by decide +kernel)) ggX7_isSteeringDue_X3_valueOf
theorem dX7_isSteeringDue_0 : decode cX7_isSteeringDue 0 = .ok (.aload_n 0, 1) := by decide +kernel
theorem dX7_isSteeringDue_1 : decode cX7_isSteeringDue 1 = .ok (.getfield 10, 3) := by decide +kernel
theorem dX7_isSteeringDue_4 : decode cX7_isSteeringDue 4 = .ok (.bipush 7, 2) := by decide +kernel
theorem dX7_isSteeringDue_6 : decode cX7_isSteeringDue 6 = .ok (.invokevirtual 220, 3) := by decide +kernel
theorem dX7_isSteeringDue_9 : decode cX7_isSteeringDue 9 = .ok (.istore_n 1, 1) := by decide +kernel
theorem dX7_isSteeringDue_10 : decode cX7_isSteeringDue 10 = .ok (.iload_n 1, 1) := by decide +kernel
theorem dX7_isSteeringDue_11 : decode cX7_isSteeringDue 11 = .ok (.ifCond .le 19, 3) := by decide +kernel
theorem dX7_isSteeringDue_14 : decode cX7_isSteeringDue 14 = .ok (.aload_n 0, 1) := by decide +kernel
theorem dX7_isSteeringDue_15 : decode cX7_isSteeringDue 15 = .ok (.getfield 33, 3) := by decide +kernel
theorem dX7_isSteeringDue_18 : decode cX7_isSteeringDue 18 = .ok (.getfield 105, 3) := by decide +kernel
theorem dX7_isSteeringDue_21 : decode cX7_isSteeringDue 21 = .ok (.iload_n 1, 1) := by decide +kernel
theorem dX7_isSteeringDue_22 : decode cX7_isSteeringDue 22 = .ok (.irem, 1) := by decide +kernel
theorem dX7_isSteeringDue_23 : decode cX7_isSteeringDue 23 = .ok (.ifCond .ne 7, 3) := by decide +kernel
theorem dX7_isSteeringDue_26 : decode cX7_isSteeringDue 26 = .ok (.iconst 1, 1) := by decide +kernel
theorem dX7_isSteeringDue_27 : decode cX7_isSteeringDue 27 = .ok (.goto 4, 3) := by decide +kernel
theorem dX7_isSteeringDue_30 : decode cX7_isSteeringDue 30 = .ok (.iconst 0, 1) := by decide +kernel
theorem dX7_isSteeringDue_31 : decode cX7_isSteeringDue 31 = .ok (.ireturn, 1) := by decide +kernel
set_option maxRecDepth 20000 in
theorem ggX7_steerKeys_X3_valueOf : GoodIn wsX7_steerKeys wsX3_valueOf := goodIn_r _ [8, 9, 52] rfl (by decide +kernel)
set_option maxRecDepth 20000 in
theorem gX7_steerKeys_X3_valueOf : GoodIn wsX7_steerKeys (wsV RX7 220 RX3 yX3_valueOf wsX3_valueOf) := goodIn_app (goodIn_of _ (by decide +kernel)) ggX7_steerKeys_X3_valueOf
set_option maxRecDepth 20000 in
theorem ggX7_steerKeys_X6_valueOf : GoodIn wsX7_steerKeys wsX6_valueOf := goodIn_r _ [14, 15, 50, 51] rfl (by decide +kernel)
set_option maxRecDepth 20000 in
theorem gX7_steerKeys_X6_valueOf : GoodIn wsX7_steerKeys (wsV RX7 98 RX6 yX6_valueOf wsX6_valueOf) := goodIn_app (goodIn_of _ (by decide +kernel)) ggX7_steerKeys_X6_valueOf
set_option maxRecDepth 20000 in
theorem ggX7_steerKeys_X4_latestDensity : GoodIn wsX7_steerKeys wsX4_latestDensity := goodIn_r _ [20, 21, 22, 23, 24, 19, 25, 26, 53, 54, 55, 56, 57, 58] rfl (by decide +kernel)
set_option maxRecDepth 20000 in
theorem gX7_steerKeys_X4_latestDensity : GoodIn wsX7_steerKeys (wsV RX7 94 RX4 yX4_latestDensity wsX4_latestDensity) := goodIn_app (goodIn_of _ (by decide +kernel)) ggX7_steerKeys_X4_latestDensity
set_option maxRecDepth 20000 in
theorem ggX7_steerKeys_X7_held : GoodIn wsX7_steerKeys wsX7_held := goodIn_r _ [30, 31, 32, 33, 34, 35, 36, 37] rfl (by decide +kernel)
set_option maxRecDepth 20000 in
theorem gX7_steerKeys_X7_held : GoodIn wsX7_steerKeys (va_wsS RX7 249 yX7_held wsX7_held) := goodIn_app (goodIn_of _ (by decide +kernel)) ggX7_steerKeys_X7_held
set_option maxRecDepth 20000 in
theorem ggX7_steerKeys_X6_change : GoodIn wsX7_steerKeys wsX6_change := goodIn_r _ [41, 15, 50, 51] rfl (by decide +kernel)
set_option maxRecDepth 20000 in
theorem gX7_steerKeys_X6_change : GoodIn wsX7_steerKeys (wsV RX7 91 RX6 yX6_change wsX6_change) := goodIn_app (goodIn_of _ (by decide +kernel)) ggX7_steerKeys_X6_change
theorem dX7_steerKeys_0 : decode cX7_steerKeys 0 = .ok (.aload_n 0, 1) := by decide +kernel
theorem dX7_steerKeys_1 : decode cX7_steerKeys 1 = .ok (.getfield 10, 3) := by decide +kernel
theorem dX7_steerKeys_4 : decode cX7_steerKeys 4 = .ok (.iconst 5, 1) := by decide +kernel
theorem dX7_steerKeys_5 : decode cX7_steerKeys 5 = .ok (.invokevirtual 220, 3) := by decide +kernel
theorem dX7_steerKeys_8 : decode cX7_steerKeys 8 = .ok (.istore_n 1, 1) := by decide +kernel
theorem dX7_steerKeys_9 : decode cX7_steerKeys 9 = .ok (.iconst 0, 1) := by decide +kernel
theorem dX7_steerKeys_10 : decode cX7_steerKeys 10 = .ok (.istore_n 2, 1) := by decide +kernel
theorem dX7_steerKeys_11 : decode cX7_steerKeys 11 = .ok (.iload_n 2, 1) := by decide +kernel
theorem dX7_steerKeys_12 : decode cX7_steerKeys 12 = .ok (.aload_n 0, 1) := by decide +kernel
theorem dX7_steerKeys_13 : decode cX7_steerKeys 13 = .ok (.getfield 19, 3) := by decide +kernel
theorem dX7_steerKeys_16 : decode cX7_steerKeys 16 = .ok (.getfield 138, 3) := by decide +kernel
theorem dX7_steerKeys_19 : decode cX7_steerKeys 19 = .ok (.if_icmp .ge 80, 3) := by decide +kernel
theorem dX7_steerKeys_22 : decode cX7_steerKeys 22 = .ok (.aload_n 0, 1) := by decide +kernel
theorem dX7_steerKeys_23 : decode cX7_steerKeys 23 = .ok (.getfield 19, 3) := by decide +kernel
theorem dX7_steerKeys_26 : decode cX7_steerKeys 26 = .ok (.iload_n 2, 1) := by decide +kernel
theorem dX7_steerKeys_27 : decode cX7_steerKeys 27 = .ok (.iconst 2, 1) := by decide +kernel
theorem dX7_steerKeys_28 : decode cX7_steerKeys 28 = .ok (.invokevirtual 98, 3) := by decide +kernel
theorem dX7_steerKeys_31 : decode cX7_steerKeys 31 = .ok (.aload_n 0, 1) := by decide +kernel
theorem dX7_steerKeys_32 : decode cX7_steerKeys 32 = .ok (.getfield 33, 3) := by decide +kernel
theorem dX7_steerKeys_35 : decode cX7_steerKeys 35 = .ok (.iload_n 2, 1) := by decide +kernel
theorem dX7_steerKeys_36 : decode cX7_steerKeys 36 = .ok (.invokevirtual 94, 3) := by decide +kernel
theorem dX7_steerKeys_39 : decode cX7_steerKeys 39 = .ok (.isub, 1) := by decide +kernel
theorem dX7_steerKeys_40 : decode cX7_steerKeys 40 = .ok (.istore_n 3, 1) := by decide +kernel
theorem dX7_steerKeys_41 : decode cX7_steerKeys 41 = .ok (.iload_n 3, 1) := by decide +kernel
theorem dX7_steerKeys_42 : decode cX7_steerKeys 42 = .ok (.aload_n 0, 1) := by decide +kernel
theorem dX7_steerKeys_43 : decode cX7_steerKeys 43 = .ok (.getfield 10, 3) := by decide +kernel
theorem dX7_steerKeys_46 : decode cX7_steerKeys 46 = .ok (.iconst 4, 1) := by decide +kernel
theorem dX7_steerKeys_47 : decode cX7_steerKeys 47 = .ok (.invokevirtual 220, 3) := by decide +kernel
theorem dX7_steerKeys_50 : decode cX7_steerKeys 50 = .ok (.imul, 1) := by decide +kernel
theorem dX7_steerKeys_51 : decode cX7_steerKeys 51 = .ok (.sipush 1000, 3) := by decide +kernel
theorem dX7_steerKeys_54 : decode cX7_steerKeys 54 = .ok (.idiv, 1) := by decide +kernel
theorem dX7_steerKeys_55 : decode cX7_steerKeys 55 = .ok (.i2l, 1) := by decide +kernel
theorem dX7_steerKeys_56 : decode cX7_steerKeys 56 = .ok (.iload_n 1, 1) := by decide +kernel
theorem dX7_steerKeys_57 : decode cX7_steerKeys 57 = .ok (.ineg, 1) := by decide +kernel
theorem dX7_steerKeys_58 : decode cX7_steerKeys 58 = .ok (.iload_n 1, 1) := by decide +kernel
theorem dX7_steerKeys_59 : decode cX7_steerKeys 59 = .ok (.invokestatic 249, 3) := by decide +kernel
theorem dX7_steerKeys_62 : decode cX7_steerKeys 62 = .ok (.istore 4, 2) := by decide +kernel
theorem dX7_steerKeys_64 : decode cX7_steerKeys 64 = .ok (.aload_n 0, 1) := by decide +kernel
theorem dX7_steerKeys_65 : decode cX7_steerKeys 65 = .ok (.getfield 19, 3) := by decide +kernel
theorem dX7_steerKeys_68 : decode cX7_steerKeys 68 = .ok (.iload_n 2, 1) := by decide +kernel
theorem dX7_steerKeys_69 : decode cX7_steerKeys 69 = .ok (.iconst 0, 1) := by decide +kernel
theorem dX7_steerKeys_70 : decode cX7_steerKeys 70 = .ok (.aload_n 0, 1) := by decide +kernel
theorem dX7_steerKeys_71 : decode cX7_steerKeys 71 = .ok (.getfield 19, 3) := by decide +kernel
theorem dX7_steerKeys_74 : decode cX7_steerKeys 74 = .ok (.iload_n 2, 1) := by decide +kernel
theorem dX7_steerKeys_75 : decode cX7_steerKeys 75 = .ok (.iconst 0, 1) := by decide +kernel
theorem dX7_steerKeys_76 : decode cX7_steerKeys 76 = .ok (.invokevirtual 98, 3) := by decide +kernel
theorem dX7_steerKeys_79 : decode cX7_steerKeys 79 = .ok (.iload 4, 2) := by decide +kernel
theorem dX7_steerKeys_81 : decode cX7_steerKeys 81 = .ok (.iadd, 1) := by decide +kernel
theorem dX7_steerKeys_82 : decode cX7_steerKeys 82 = .ok (.i2l, 1) := by decide +kernel
theorem dX7_steerKeys_83 : decode cX7_steerKeys 83 = .ok (.iconst 0, 1) := by decide +kernel
theorem dX7_steerKeys_84 : decode cX7_steerKeys 84 = .ok (.bipush 100, 2) := by decide +kernel
theorem dX7_steerKeys_86 : decode cX7_steerKeys 86 = .ok (.invokestatic 249, 3) := by decide +kernel
theorem dX7_steerKeys_89 : decode cX7_steerKeys 89 = .ok (.invokevirtual 91, 3) := by decide +kernel
theorem dX7_steerKeys_92 : decode cX7_steerKeys 92 = .ok (.pop, 1) := by decide +kernel
theorem dX7_steerKeys_93 : decode cX7_steerKeys 93 = .ok (.iinc 2 1, 3) := by decide +kernel
theorem dX7_steerKeys_96 : decode cX7_steerKeys 96 = .ok (.goto (-85), 3) := by decide +kernel
theorem dX7_steerKeys_99 : decode cX7_steerKeys 99 = .ok (.return_, 1) := by decide +kernel
theorem dX7_within_0 : decode cX7_within 0 = .ok (.iload_n 0, 1) := by decide +kernel
theorem dX7_within_1 : decode cX7_within 1 = .ok (.iload_n 1, 1) := by decide +kernel
theorem dX7_within_2 : decode cX7_within 2 = .ok (.if_icmp .lt 12, 3) := by decide +kernel
theorem dX7_within_5 : decode cX7_within 5 = .ok (.iload_n 0, 1) := by decide +kernel
theorem dX7_within_6 : decode cX7_within 6 = .ok (.iload_n 2, 1) := by decide +kernel
theorem dX7_within_7 : decode cX7_within 7 = .ok (.if_icmp .gt 7, 3) := by decide +kernel
theorem dX7_within_10 : decode cX7_within 10 = .ok (.iconst 1, 1) := by decide +kernel
theorem dX7_within_11 : decode cX7_within 11 = .ok (.goto 4, 3) := by decide +kernel
theorem dX7_within_14 : decode cX7_within 14 = .ok (.iconst 0, 1) := by decide +kernel
theorem dX7_within_15 : decode cX7_within 15 = .ok (.ireturn, 1) := by decide +kernel
theorem dX7_held_0 : decode cX7_held 0 = .ok (.iload_n 2, 1) := by decide +kernel
theorem dX7_held_1 : decode cX7_held 1 = .ok (.i2l, 1) := by decide +kernel
theorem dX7_held_2 : decode cX7_held 2 = .ok (.iload_n 3, 1) := by decide +kernel
theorem dX7_held_3 : decode cX7_held 3 = .ok (.i2l, 1) := by decide +kernel
theorem dX7_held_4 : decode cX7_held 4 = .ok (.lload_n 0, 1) := by decide +kernel
theorem dX7_held_5 : decode cX7_held 5 = .ok (.invokestatic 253, 3) := by decide +kernel
theorem dX7_held_8 : decode cX7_held 8 = .ok (.invokestatic 256, 3) := by decide +kernel
theorem dX7_held_11 : decode cX7_held 11 = .ok (.l2i, 1) := by decide +kernel
theorem dX7_held_12 : decode cX7_held 12 = .ok (.ireturn, 1) := by decide +kernel
theorem dX7_commonDivisor_0 : decode cX7_commonDivisor 0 = .ok (.lload_n 0, 1) := by decide +kernel
theorem dX7_commonDivisor_1 : decode cX7_commonDivisor 1 = .ok (.invokestatic 259, 3) := by decide +kernel
theorem dX7_commonDivisor_4 : decode cX7_commonDivisor 4 = .ok (.lstore 4, 2) := by decide +kernel
theorem dX7_commonDivisor_6 : decode cX7_commonDivisor 6 = .ok (.lload_n 2, 1) := by decide +kernel
theorem dX7_commonDivisor_7 : decode cX7_commonDivisor 7 = .ok (.invokestatic 259, 3) := by decide +kernel
theorem dX7_commonDivisor_10 : decode cX7_commonDivisor 10 = .ok (.lstore 6, 2) := by decide +kernel
theorem dX7_commonDivisor_12 : decode cX7_commonDivisor 12 = .ok (.iconst 0, 1) := by decide +kernel
theorem dX7_commonDivisor_13 : decode cX7_commonDivisor 13 = .ok (.istore 8, 2) := by decide +kernel
theorem dX7_commonDivisor_15 : decode cX7_commonDivisor 15 = .ok (.iload 8, 2) := by decide +kernel
theorem dX7_commonDivisor_17 : decode cX7_commonDivisor 17 = .ok (.bipush 100, 2) := by decide +kernel
theorem dX7_commonDivisor_19 : decode cX7_commonDivisor 19 = .ok (.if_icmp .ge 31, 3) := by decide +kernel
theorem dX7_commonDivisor_22 : decode cX7_commonDivisor 22 = .ok (.lload 6, 2) := by decide +kernel
theorem dX7_commonDivisor_24 : decode cX7_commonDivisor 24 = .ok (.lconst 0, 1) := by decide +kernel
theorem dX7_commonDivisor_25 : decode cX7_commonDivisor 25 = .ok (.lcmp, 1) := by decide +kernel
theorem dX7_commonDivisor_26 : decode cX7_commonDivisor 26 = .ok (.ifCond .eq 24, 3) := by decide +kernel
theorem dX7_commonDivisor_29 : decode cX7_commonDivisor 29 = .ok (.lload 4, 2) := by decide +kernel
theorem dX7_commonDivisor_31 : decode cX7_commonDivisor 31 = .ok (.lload 6, 2) := by decide +kernel
theorem dX7_commonDivisor_33 : decode cX7_commonDivisor 33 = .ok (.lrem, 1) := by decide +kernel
theorem dX7_commonDivisor_34 : decode cX7_commonDivisor 34 = .ok (.lstore 9, 2) := by decide +kernel
theorem dX7_commonDivisor_36 : decode cX7_commonDivisor 36 = .ok (.lload 6, 2) := by decide +kernel
theorem dX7_commonDivisor_38 : decode cX7_commonDivisor 38 = .ok (.lstore 4, 2) := by decide +kernel
theorem dX7_commonDivisor_40 : decode cX7_commonDivisor 40 = .ok (.lload 9, 2) := by decide +kernel
theorem dX7_commonDivisor_42 : decode cX7_commonDivisor 42 = .ok (.lstore 6, 2) := by decide +kernel
theorem dX7_commonDivisor_44 : decode cX7_commonDivisor 44 = .ok (.iinc 8 1, 3) := by decide +kernel
theorem dX7_commonDivisor_47 : decode cX7_commonDivisor 47 = .ok (.goto (-32), 3) := by decide +kernel
theorem dX7_commonDivisor_50 : decode cX7_commonDivisor 50 = .ok (.lload 4, 2) := by decide +kernel
theorem dX7_commonDivisor_52 : decode cX7_commonDivisor 52 = .ok (.lreturn, 1) := by decide +kernel
set_option maxRecDepth 20000 in
theorem ggX8_init_X8_begin : GoodIn wsX8_init wsX8_begin := goodIn_r _ [32, 8, 9, 10, 11, 33, 34, 35, 15, 36, 37, 38, 39, 40, 41, 42, 43, 44, 45, 46, 47, 48, 49, 50, 51, 52, 53, 54, 55, 56, 57, 58, 59, 60, 61, 62, 63, 64, 65, 66, 67, 68, 69, 70, 71, 72, 73, 74, 75, 76] rfl (by decide +kernel)
set_option maxRecDepth 20000 in
theorem gX8_init_X8_begin : GoodIn wsX8_init (wsV RX8 78 RX8 yX8_begin wsX8_begin) := goodIn_app (goodIn_of _ (by decide +kernel)) ggX8_init_X8_begin
theorem dX8_init_0 : decode cX8_init 0 = .ok (.aload_n 0, 1) := by decide +kernel
theorem dX8_init_1 : decode cX8_init 1 = .ok (.invokespecial 1, 3) := by decide +kernel
theorem dX8_init_4 : decode cX8_init 4 = .ok (.aload_n 0, 1) := by decide +kernel
theorem dX8_init_5 : decode cX8_init 5 = .ok (.iconst 4, 1) := by decide +kernel
theorem dX8_init_6 : decode cX8_init 6 = .ok (.putfield 7, 3) := by decide +kernel
theorem dX8_init_9 : decode cX8_init 9 = .ok (.aload_n 0, 1) := by decide +kernel
theorem dX8_init_10 : decode cX8_init 10 = .ok (.iconst 3, 1) := by decide +kernel
theorem dX8_init_11 : decode cX8_init 11 = .ok (.putfield 13, 3) := by decide +kernel
theorem dX8_init_14 : decode cX8_init 14 = .ok (.aload_n 0, 1) := by decide +kernel
theorem dX8_init_15 : decode cX8_init 15 = .ok (.bipush 9, 2) := by decide +kernel
theorem dX8_init_17 : decode cX8_init 17 = .ok (.newarray .int, 2) := by decide +kernel
theorem dX8_init_19 : decode cX8_init 19 = .ok (.putfield 16, 3) := by decide +kernel
theorem dX8_init_22 : decode cX8_init 22 = .ok (.aload_n 0, 1) := by decide +kernel
theorem dX8_init_23 : decode cX8_init 23 = .ok (.bipush 8, 2) := by decide +kernel
theorem dX8_init_25 : decode cX8_init 25 = .ok (.newarray .int, 2) := by decide +kernel
theorem dX8_init_27 : decode cX8_init 27 = .ok (.putfield 20, 3) := by decide +kernel
theorem dX8_init_30 : decode cX8_init 30 = .ok (.aload_n 0, 1) := by decide +kernel
theorem dX8_init_31 : decode cX8_init 31 = .ok (.bipush 8, 2) := by decide +kernel
theorem dX8_init_33 : decode cX8_init 33 = .ok (.newarray .int, 2) := by decide +kernel
theorem dX8_init_35 : decode cX8_init 35 = .ok (.putfield 23, 3) := by decide +kernel
theorem dX8_init_38 : decode cX8_init 38 = .ok (.aload_n 0, 1) := by decide +kernel
theorem dX8_init_39 : decode cX8_init 39 = .ok (.bipush 8, 2) := by decide +kernel
theorem dX8_init_41 : decode cX8_init 41 = .ok (.newarray .int, 2) := by decide +kernel
theorem dX8_init_43 : decode cX8_init 43 = .ok (.putfield 26, 3) := by decide +kernel
theorem dX8_init_46 : decode cX8_init 46 = .ok (.aload_n 0, 1) := by decide +kernel
theorem dX8_init_47 : decode cX8_init 47 = .ok (.bipush 40, 2) := by decide +kernel
theorem dX8_init_49 : decode cX8_init 49 = .ok (.newarray .int, 2) := by decide +kernel
theorem dX8_init_51 : decode cX8_init 51 = .ok (.putfield 29, 3) := by decide +kernel
theorem dX8_init_54 : decode cX8_init 54 = .ok (.aload_n 0, 1) := by decide +kernel
theorem dX8_init_55 : decode cX8_init 55 = .ok (.sipush 8000, 3) := by decide +kernel
theorem dX8_init_58 : decode cX8_init 58 = .ok (.newarray .int, 2) := by decide +kernel
theorem dX8_init_60 : decode cX8_init 60 = .ok (.putfield 32, 3) := by decide +kernel
theorem dX8_init_63 : decode cX8_init 63 = .ok (.aload_n 0, 1) := by decide +kernel
theorem dX8_init_64 : decode cX8_init 64 = .ok (.sipush 1000, 3) := by decide +kernel
theorem dX8_init_67 : decode cX8_init 67 = .ok (.newarray .boolean, 2) := by decide +kernel
theorem dX8_init_69 : decode cX8_init 69 = .ok (.putfield 35, 3) := by decide +kernel
theorem dX8_init_72 : decode cX8_init 72 = .ok (.aload_n 0, 1) := by decide +kernel
theorem dX8_init_73 : decode cX8_init 73 = .ok (.bipush (-6), 2) := by decide +kernel
theorem dX8_init_75 : decode cX8_init 75 = .ok (.putfield 39, 3) := by decide +kernel
theorem dX8_init_78 : decode cX8_init 78 = .ok (.aload_n 0, 1) := by decide +kernel
theorem dX8_init_79 : decode cX8_init 79 = .ok (.bipush 8, 2) := by decide +kernel
theorem dX8_init_81 : decode cX8_init 81 = .ok (.newarray .int, 2) := by decide +kernel
theorem dX8_init_83 : decode cX8_init 83 = .ok (.putfield 42, 3) := by decide +kernel
theorem dX8_init_86 : decode cX8_init 86 = .ok (.aload_n 0, 1) := by decide +kernel
theorem dX8_init_87 : decode cX8_init 87 = .ok (.bipush 30, 2) := by decide +kernel
theorem dX8_init_89 : decode cX8_init 89 = .ok (.newarray .int, 2) := by decide +kernel
theorem dX8_init_91 : decode cX8_init 91 = .ok (.putfield 45, 3) := by decide +kernel
theorem dX8_init_94 : decode cX8_init 94 = .ok (.aload_n 0, 1) := by decide +kernel
theorem dX8_init_95 : decode cX8_init 95 = .ok (.bipush 30, 2) := by decide +kernel
theorem dX8_init_97 : decode cX8_init 97 = .ok (.newarray .int, 2) := by decide +kernel
theorem dX8_init_99 : decode cX8_init 99 = .ok (.putfield 48, 3) := by decide +kernel
theorem dX8_init_102 : decode cX8_init 102 = .ok (.aload_n 0, 1) := by decide +kernel
theorem dX8_init_103 : decode cX8_init 103 = .ok (.bipush 8, 2) := by decide +kernel
theorem dX8_init_105 : decode cX8_init 105 = .ok (.newarray .int, 2) := by decide +kernel
theorem dX8_init_107 : decode cX8_init 107 = .ok (.putfield 51, 3) := by decide +kernel
theorem dX8_init_110 : decode cX8_init 110 = .ok (.aload_n 0, 1) := by decide +kernel
theorem dX8_init_111 : decode cX8_init 111 = .ok (.bipush 8, 2) := by decide +kernel
theorem dX8_init_113 : decode cX8_init 113 = .ok (.newarray .int, 2) := by decide +kernel
theorem dX8_init_115 : decode cX8_init 115 = .ok (.putfield 54, 3) := by decide +kernel
theorem dX8_init_118 : decode cX8_init 118 = .ok (.aload_n 0, 1) := by decide +kernel
theorem dX8_init_119 : decode cX8_init 119 = .ok (.bipush 8, 2) := by decide +kernel
theorem dX8_init_121 : decode cX8_init 121 = .ok (.newarray .int, 2) := by decide +kernel
theorem dX8_init_123 : decode cX8_init 123 = .ok (.putfield 57, 3) := by decide +kernel
theorem dX8_init_126 : decode cX8_init 126 = .ok (.aload_n 0, 1) := by decide +kernel
theorem dX8_init_127 : decode cX8_init 127 = .ok (.bipush 8, 2) := by decide +kernel
theorem dX8_init_129 : decode cX8_init 129 = .ok (.newarray .int, 2) := by decide +kernel
theorem dX8_init_131 : decode cX8_init 131 = .ok (.putfield 60, 3) := by decide +kernel
theorem dX8_init_134 : decode cX8_init 134 = .ok (.aload_n 0, 1) := by decide +kernel
theorem dX8_init_135 : decode cX8_init 135 = .ok (.bipush 7, 2) := by decide +kernel
theorem dX8_init_137 : decode cX8_init 137 = .ok (.newarray .int, 2) := by decide +kernel
theorem dX8_init_139 : decode cX8_init 139 = .ok (.putfield 63, 3) := by decide +kernel
theorem dX8_init_142 : decode cX8_init 142 = .ok (.aload_n 0, 1) := by decide +kernel
theorem dX8_init_143 : decode cX8_init 143 = .ok (.bipush 7, 2) := by decide +kernel
theorem dX8_init_145 : decode cX8_init 145 = .ok (.newarray .int, 2) := by decide +kernel
theorem dX8_init_147 : decode cX8_init 147 = .ok (.putfield 66, 3) := by decide +kernel
theorem dX8_init_150 : decode cX8_init 150 = .ok (.aload_n 0, 1) := by decide +kernel
theorem dX8_init_151 : decode cX8_init 151 = .ok (.bipush 16, 2) := by decide +kernel
theorem dX8_init_153 : decode cX8_init 153 = .ok (.newarray .int, 2) := by decide +kernel
theorem dX8_init_155 : decode cX8_init 155 = .ok (.putfield 69, 3) := by decide +kernel
theorem dX8_init_158 : decode cX8_init 158 = .ok (.aload_n 0, 1) := by decide +kernel
theorem dX8_init_159 : decode cX8_init 159 = .ok (.bipush 7, 2) := by decide +kernel
theorem dX8_init_161 : decode cX8_init 161 = .ok (.newarray .int, 2) := by decide +kernel
theorem dX8_init_163 : decode cX8_init 163 = .ok (.putfield 72, 3) := by decide +kernel
theorem dX8_init_166 : decode cX8_init 166 = .ok (.aload_n 0, 1) := by decide +kernel
theorem dX8_init_167 : decode cX8_init 167 = .ok (.bipush 7, 2) := by decide +kernel
theorem dX8_init_169 : decode cX8_init 169 = .ok (.newarray .int, 2) := by decide +kernel
theorem dX8_init_171 : decode cX8_init 171 = .ok (.putfield 75, 3) := by decide +kernel
theorem dX8_init_174 : decode cX8_init 174 = .ok (.aload_n 0, 1) := by decide +kernel
theorem dX8_init_175 : decode cX8_init 175 = .ok (.getfield 16, 3) := by decide +kernel
theorem dX8_init_178 : decode cX8_init 178 = .ok (.iconst 0, 1) := by decide +kernel
theorem dX8_init_179 : decode cX8_init 179 = .ok (.bipush 10, 2) := by decide +kernel
theorem dX8_init_181 : decode cX8_init 181 = .ok (.iastore, 1) := by decide +kernel
theorem dX8_init_182 : decode cX8_init 182 = .ok (.aload_n 0, 1) := by decide +kernel
theorem dX8_init_183 : decode cX8_init 183 = .ok (.getfield 16, 3) := by decide +kernel
theorem dX8_init_186 : decode cX8_init 186 = .ok (.iconst 1, 1) := by decide +kernel
theorem dX8_init_187 : decode cX8_init 187 = .ok (.bipush 50, 2) := by decide +kernel
theorem dX8_init_189 : decode cX8_init 189 = .ok (.iastore, 1) := by decide +kernel
theorem dX8_init_190 : decode cX8_init 190 = .ok (.aload_n 0, 1) := by decide +kernel
theorem dX8_init_191 : decode cX8_init 191 = .ok (.getfield 16, 3) := by decide +kernel
theorem dX8_init_194 : decode cX8_init 194 = .ok (.iconst 2, 1) := by decide +kernel
theorem dX8_init_195 : decode cX8_init 195 = .ok (.bipush 10, 2) := by decide +kernel
theorem dX8_init_197 : decode cX8_init 197 = .ok (.iastore, 1) := by decide +kernel
theorem dX8_init_198 : decode cX8_init 198 = .ok (.aload_n 0, 1) := by decide +kernel
theorem dX8_init_199 : decode cX8_init 199 = .ok (.getfield 16, 3) := by decide +kernel
theorem dX8_init_202 : decode cX8_init 202 = .ok (.iconst 3, 1) := by decide +kernel
theorem dX8_init_203 : decode cX8_init 203 = .ok (.bipush 40, 2) := by decide +kernel
theorem dX8_init_205 : decode cX8_init 205 = .ok (.iastore, 1) := by decide +kernel
theorem dX8_init_206 : decode cX8_init 206 = .ok (.aload_n 0, 1) := by decide +kernel
theorem dX8_init_207 : decode cX8_init 207 = .ok (.getfield 16, 3) := by decide +kernel
theorem dX8_init_210 : decode cX8_init 210 = .ok (.iconst 4, 1) := by decide +kernel
theorem dX8_init_211 : decode cX8_init 211 = .ok (.bipush 50, 2) := by decide +kernel
theorem dX8_init_213 : decode cX8_init 213 = .ok (.iastore, 1) := by decide +kernel
theorem dX8_init_214 : decode cX8_init 214 = .ok (.aload_n 0, 1) := by decide +kernel
theorem dX8_init_215 : decode cX8_init 215 = .ok (.getfield 16, 3) := by decide +kernel
theorem dX8_init_218 : decode cX8_init 218 = .ok (.iconst 5, 1) := by decide +kernel
theorem dX8_init_219 : decode cX8_init 219 = .ok (.bipush 10, 2) := by decide +kernel
theorem dX8_init_221 : decode cX8_init 221 = .ok (.iastore, 1) := by decide +kernel
theorem dX8_init_222 : decode cX8_init 222 = .ok (.aload_n 0, 1) := by decide +kernel
theorem dX8_init_223 : decode cX8_init 223 = .ok (.getfield 16, 3) := by decide +kernel
theorem dX8_init_226 : decode cX8_init 226 = .ok (.bipush 6, 2) := by decide +kernel
theorem dX8_init_228 : decode cX8_init 228 = .ok (.bipush 10, 2) := by decide +kernel
theorem dX8_init_230 : decode cX8_init 230 = .ok (.iastore, 1) := by decide +kernel
theorem dX8_init_231 : decode cX8_init 231 = .ok (.aload_n 0, 1) := by decide +kernel
theorem dX8_init_232 : decode cX8_init 232 = .ok (.getfield 16, 3) := by decide +kernel
theorem dX8_init_235 : decode cX8_init 235 = .ok (.bipush 7, 2) := by decide +kernel
theorem dX8_init_237 : decode cX8_init 237 = .ok (.iconst 5, 1) := by decide +kernel
theorem dX8_init_238 : decode cX8_init 238 = .ok (.iastore, 1) := by decide +kernel
theorem dX8_init_239 : decode cX8_init 239 = .ok (.aload_n 0, 1) := by decide +kernel
theorem dX8_init_240 : decode cX8_init 240 = .ok (.getfield 16, 3) := by decide +kernel
theorem dX8_init_243 : decode cX8_init 243 = .ok (.bipush 8, 2) := by decide +kernel
theorem dX8_init_245 : decode cX8_init 245 = .ok (.iconst 2, 1) := by decide +kernel
theorem dX8_init_246 : decode cX8_init 246 = .ok (.iastore, 1) := by decide +kernel
theorem dX8_init_247 : decode cX8_init 247 = .ok (.iconst 0, 1) := by decide +kernel
theorem dX8_init_248 : decode cX8_init 248 = .ok (.istore_n 1, 1) := by decide +kernel
theorem dX8_init_249 : decode cX8_init 249 = .ok (.iload_n 1, 1) := by decide +kernel
theorem dX8_init_250 : decode cX8_init 250 = .ok (.iconst 4, 1) := by decide +kernel
theorem dX8_init_251 : decode cX8_init 251 = .ok (.if_icmp .ge 43, 3) := by decide +kernel
theorem dX8_init_254 : decode cX8_init 254 = .ok (.iconst 0, 1) := by decide +kernel
theorem dX8_init_255 : decode cX8_init 255 = .ok (.istore_n 2, 1) := by decide +kernel
theorem dX8_init_256 : decode cX8_init 256 = .ok (.iload_n 2, 1) := by decide +kernel
theorem dX8_init_257 : decode cX8_init 257 = .ok (.iconst 4, 1) := by decide +kernel
theorem dX8_init_258 : decode cX8_init 258 = .ok (.if_icmp .ge 30, 3) := by decide +kernel
theorem dX8_init_261 : decode cX8_init 261 = .ok (.aload_n 0, 1) := by decide +kernel
theorem dX8_init_262 : decode cX8_init 262 = .ok (.getfield 69, 3) := by decide +kernel
theorem dX8_init_265 : decode cX8_init 265 = .ok (.iconst 4, 1) := by decide +kernel
theorem dX8_init_266 : decode cX8_init 266 = .ok (.iload_n 1, 1) := by decide +kernel
theorem dX8_init_267 : decode cX8_init 267 = .ok (.imul, 1) := by decide +kernel
theorem dX8_init_268 : decode cX8_init 268 = .ok (.iload_n 2, 1) := by decide +kernel
theorem dX8_init_269 : decode cX8_init 269 = .ok (.iadd, 1) := by decide +kernel
theorem dX8_init_270 : decode cX8_init 270 = .ok (.iload_n 1, 1) := by decide +kernel
theorem dX8_init_271 : decode cX8_init 271 = .ok (.iload_n 2, 1) := by decide +kernel
theorem dX8_init_272 : decode cX8_init 272 = .ok (.if_icmp .ne 7, 3) := by decide +kernel
theorem dX8_init_275 : decode cX8_init 275 = .ok (.iconst 0, 1) := by decide +kernel
theorem dX8_init_276 : decode cX8_init 276 = .ok (.goto 5, 3) := by decide +kernel
theorem dX8_init_279 : decode cX8_init 279 = .ok (.bipush 10, 2) := by decide +kernel
theorem dX8_init_281 : decode cX8_init 281 = .ok (.iastore, 1) := by decide +kernel
theorem dX8_init_282 : decode cX8_init 282 = .ok (.iinc 2 1, 3) := by decide +kernel
theorem dX8_init_285 : decode cX8_init 285 = .ok (.goto (-29), 3) := by decide +kernel
theorem dX8_init_288 : decode cX8_init 288 = .ok (.iinc 1 1, 3) := by decide +kernel
theorem dX8_init_291 : decode cX8_init 291 = .ok (.goto (-42), 3) := by decide +kernel
theorem dX8_init_294 : decode cX8_init 294 = .ok (.aload_n 0, 1) := by decide +kernel
theorem dX8_init_295 : decode cX8_init 295 = .ok (.invokevirtual 78, 3) := by decide +kernel
theorem dX8_init_298 : decode cX8_init 298 = .ok (.return_, 1) := by decide +kernel
theorem dX8_in_0 : decode cX8_in 0 = .ok (.lload_n 0, 1) := by decide +kernel
theorem dX8_in_1 : decode cX8_in 1 = .ok (.lload_n 2, 1) := by decide +kernel
theorem dX8_in_2 : decode cX8_in 2 = .ok (.lcmp, 1) := by decide +kernel
theorem dX8_in_3 : decode cX8_in 3 = .ok (.ifCond .lt 14, 3) := by decide +kernel
theorem dX8_in_6 : decode cX8_in 6 = .ok (.lload_n 0, 1) := by decide +kernel
theorem dX8_in_7 : decode cX8_in 7 = .ok (.lload 4, 2) := by decide +kernel
theorem dX8_in_9 : decode cX8_in 9 = .ok (.lcmp, 1) := by decide +kernel
theorem dX8_in_10 : decode cX8_in 10 = .ok (.ifCond .gt 7, 3) := by decide +kernel
theorem dX8_in_13 : decode cX8_in 13 = .ok (.iconst 1, 1) := by decide +kernel
theorem dX8_in_14 : decode cX8_in 14 = .ok (.goto 4, 3) := by decide +kernel
theorem dX8_in_17 : decode cX8_in 17 = .ok (.iconst 0, 1) := by decide +kernel
theorem dX8_in_18 : decode cX8_in 18 = .ok (.ireturn, 1) := by decide +kernel
theorem dX8_begin_0 : decode cX8_begin 0 = .ok (.iconst 0, 1) := by decide +kernel
theorem dX8_begin_1 : decode cX8_begin 1 = .ok (.istore_n 1, 1) := by decide +kernel
theorem dX8_begin_2 : decode cX8_begin 2 = .ok (.iload_n 1, 1) := by decide +kernel
theorem dX8_begin_3 : decode cX8_begin 3 = .ok (.bipush 8, 2) := by decide +kernel
theorem dX8_begin_5 : decode cX8_begin 5 = .ok (.if_icmp .ge 32, 3) := by decide +kernel
theorem dX8_begin_8 : decode cX8_begin 8 = .ok (.aload_n 0, 1) := by decide +kernel
theorem dX8_begin_9 : decode cX8_begin 9 = .ok (.getfield 20, 3) := by decide +kernel
theorem dX8_begin_12 : decode cX8_begin 12 = .ok (.iload_n 1, 1) := by decide +kernel
theorem dX8_begin_13 : decode cX8_begin 13 = .ok (.iconst 0, 1) := by decide +kernel
theorem dX8_begin_14 : decode cX8_begin 14 = .ok (.iastore, 1) := by decide +kernel
theorem dX8_begin_15 : decode cX8_begin 15 = .ok (.aload_n 0, 1) := by decide +kernel
theorem dX8_begin_16 : decode cX8_begin 16 = .ok (.getfield 23, 3) := by decide +kernel
theorem dX8_begin_19 : decode cX8_begin 19 = .ok (.iload_n 1, 1) := by decide +kernel
theorem dX8_begin_20 : decode cX8_begin 20 = .ok (.bipush 20, 2) := by decide +kernel
theorem dX8_begin_22 : decode cX8_begin 22 = .ok (.iastore, 1) := by decide +kernel
theorem dX8_begin_23 : decode cX8_begin 23 = .ok (.aload_n 0, 1) := by decide +kernel
theorem dX8_begin_24 : decode cX8_begin 24 = .ok (.getfield 26, 3) := by decide +kernel
theorem dX8_begin_27 : decode cX8_begin 27 = .ok (.iload_n 1, 1) := by decide +kernel
theorem dX8_begin_28 : decode cX8_begin 28 = .ok (.bipush 100, 2) := by decide +kernel
theorem dX8_begin_30 : decode cX8_begin 30 = .ok (.iastore, 1) := by decide +kernel
theorem dX8_begin_31 : decode cX8_begin 31 = .ok (.iinc 1 1, 3) := by decide +kernel
theorem dX8_begin_34 : decode cX8_begin 34 = .ok (.goto (-32), 3) := by decide +kernel
theorem dX8_begin_37 : decode cX8_begin 37 = .ok (.iconst 0, 1) := by decide +kernel
theorem dX8_begin_38 : decode cX8_begin 38 = .ok (.istore_n 1, 1) := by decide +kernel
theorem dX8_begin_39 : decode cX8_begin 39 = .ok (.iload_n 1, 1) := by decide +kernel
theorem dX8_begin_40 : decode cX8_begin 40 = .ok (.bipush 40, 2) := by decide +kernel
theorem dX8_begin_42 : decode cX8_begin 42 = .ok (.if_icmp .ge 16, 3) := by decide +kernel
theorem dX8_begin_45 : decode cX8_begin 45 = .ok (.aload_n 0, 1) := by decide +kernel
theorem dX8_begin_46 : decode cX8_begin 46 = .ok (.getfield 29, 3) := by decide +kernel
theorem dX8_begin_49 : decode cX8_begin 49 = .ok (.iload_n 1, 1) := by decide +kernel
theorem dX8_begin_50 : decode cX8_begin 50 = .ok (.iconst 0, 1) := by decide +kernel
theorem dX8_begin_51 : decode cX8_begin 51 = .ok (.iastore, 1) := by decide +kernel
theorem dX8_begin_52 : decode cX8_begin 52 = .ok (.iinc 1 1, 3) := by decide +kernel
theorem dX8_begin_55 : decode cX8_begin 55 = .ok (.goto (-16), 3) := by decide +kernel
theorem dX8_begin_58 : decode cX8_begin 58 = .ok (.aload_n 0, 1) := by decide +kernel
theorem dX8_begin_59 : decode cX8_begin 59 = .ok (.iconst 0, 1) := by decide +kernel
theorem dX8_begin_60 : decode cX8_begin 60 = .ok (.putfield 81, 3) := by decide +kernel
theorem dX8_begin_63 : decode cX8_begin 63 = .ok (.aload_n 0, 1) := by decide +kernel
theorem dX8_begin_64 : decode cX8_begin 64 = .ok (.iconst 0, 1) := by decide +kernel
theorem dX8_begin_65 : decode cX8_begin 65 = .ok (.putfield 84, 3) := by decide +kernel
theorem dX8_begin_68 : decode cX8_begin 68 = .ok (.aload_n 0, 1) := by decide +kernel
theorem dX8_begin_69 : decode cX8_begin 69 = .ok (.iconst 0, 1) := by decide +kernel
theorem dX8_begin_70 : decode cX8_begin 70 = .ok (.putfield 87, 3) := by decide +kernel
theorem dX8_begin_73 : decode cX8_begin 73 = .ok (.aload_n 0, 1) := by decide +kernel
theorem dX8_begin_74 : decode cX8_begin 74 = .ok (.bipush (-6), 2) := by decide +kernel
theorem dX8_begin_76 : decode cX8_begin 76 = .ok (.putfield 39, 3) := by decide +kernel
theorem dX8_begin_79 : decode cX8_begin 79 = .ok (.aload_n 0, 1) := by decide +kernel
theorem dX8_begin_80 : decode cX8_begin 80 = .ok (.iconst 0, 1) := by decide +kernel
theorem dX8_begin_81 : decode cX8_begin 81 = .ok (.putfield 90, 3) := by decide +kernel
theorem dX8_begin_84 : decode cX8_begin 84 = .ok (.aload_n 0, 1) := by decide +kernel
theorem dX8_begin_85 : decode cX8_begin 85 = .ok (.iconst 0, 1) := by decide +kernel
theorem dX8_begin_86 : decode cX8_begin 86 = .ok (.putfield 93, 3) := by decide +kernel
theorem dX8_begin_89 : decode cX8_begin 89 = .ok (.aload_n 0, 1) := by decide +kernel
theorem dX8_begin_90 : decode cX8_begin 90 = .ok (.iconst 0, 1) := by decide +kernel
theorem dX8_begin_91 : decode cX8_begin 91 = .ok (.putfield 96, 3) := by decide +kernel
theorem dX8_begin_94 : decode cX8_begin 94 = .ok (.aload_n 0, 1) := by decide +kernel
theorem dX8_begin_95 : decode cX8_begin 95 = .ok (.iconst 0, 1) := by decide +kernel
theorem dX8_begin_96 : decode cX8_begin 96 = .ok (.putfield 99, 3) := by decide +kernel
theorem dX8_begin_99 : decode cX8_begin 99 = .ok (.return_, 1) := by decide +kernel
set_option maxRecDepth 20000 in
theorem ggX8_isZone_X8_in : GoodIn wsX8_isZone wsX8_in := goodIn_r _ [5] rfl (by decide +kernel)
set_option maxRecDepth 20000 in
theorem gX8_isZone_X8_in : GoodIn wsX8_isZone (va_wsS RX8 103 yX8_in wsX8_in) := goodIn_app (goodIn_of _ (by decide +kernel)) ggX8_isZone_X8_in
theorem dX8_isZone_0 : decode cX8_isZone 0 = .ok (.iload_n 1, 1) := by decide +kernel
theorem dX8_isZone_1 : decode cX8_isZone 1 = .ok (.i2l, 1) := by decide +kernel
theorem dX8_isZone_2 : decode cX8_isZone 2 = .ok (.lconst 0, 1) := by decide +kernel
theorem dX8_isZone_3 : decode cX8_isZone 3 = .ok (.aload_n 0, 1) := by decide +kernel
theorem dX8_isZone_4 : decode cX8_isZone 4 = .ok (.getfield 7, 3) := by decide +kernel
theorem dX8_isZone_7 : decode cX8_isZone 7 = .ok (.iconst 1, 1) := by decide +kernel
theorem dX8_isZone_8 : decode cX8_isZone 8 = .ok (.isub, 1) := by decide +kernel
theorem dX8_isZone_9 : decode cX8_isZone 9 = .ok (.i2l, 1) := by decide +kernel
theorem dX8_isZone_10 : decode cX8_isZone 10 = .ok (.invokestatic 103, 3) := by decide +kernel
theorem dX8_isZone_13 : decode cX8_isZone 13 = .ok (.ireturn, 1) := by decide +kernel
set_option maxRecDepth 20000 in
theorem ggX8_press_X8_in : GoodIn wsX8_press wsX8_in := goodIn_r _ [9] rfl (by decide +kernel)
set_option maxRecDepth 20000 in
theorem gX8_press_X8_in : GoodIn wsX8_press (va_wsS RX8 103 yX8_in wsX8_in) := goodIn_app (goodIn_of _ (by decide +kernel)) ggX8_press_X8_in
set_option maxRecDepth 20000 in
theorem ggX8_press_X8_begin : GoodIn wsX8_press wsX8_begin := goodIn_r _ [13, 14, 15, 16, 17, 18, 19, 20, 21, 22, 23, 24, 25, 26, 27, 28, 29, 30, 31, 32, 33, 34, 35, 36, 37, 38, 39, 40, 41, 42, 43, 44, 45, 46, 47, 48, 49, 50, 51, 52, 53, 54, 55, 56, 57, 58, 59, 60, 61, 62] rfl (by decide +kernel)
set_option maxRecDepth 20000 in
theorem gX8_press_X8_begin : GoodIn wsX8_press (wsV RX8 78 RX8 yX8_begin wsX8_begin) := goodIn_app (goodIn_of _ (by decide +kernel)) ggX8_press_X8_begin
theorem dX8_press_0 : decode cX8_press 0 = .ok (.iload_n 1, 1) := by decide +kernel
theorem dX8_press_1 : decode cX8_press 1 = .ok (.i2l, 1) := by decide +kernel
theorem dX8_press_2 : decode cX8_press 2 = .ok (.ldc2_w 107, 3) := by decide +kernel
theorem dX8_press_5 : decode cX8_press 5 = .ok (.ldc2_w 109, 3) := by decide +kernel
theorem dX8_press_8 : decode cX8_press 8 = .ok (.invokestatic 103, 3) := by decide +kernel
theorem dX8_press_11 : decode cX8_press 11 = .ok (.ifCond .eq 17, 3) := by decide +kernel
theorem dX8_press_14 : decode cX8_press 14 = .ok (.iload_n 2, 1) := by decide +kernel
theorem dX8_press_15 : decode cX8_press 15 = .ok (.i2l, 1) := by decide +kernel
end
section
theorem dX8_press_16 : decode cX8_press 16 = .ok (.ldc2_w 107, 3) := by decide +kernel
theorem dX8_press_19 : decode cX8_press 19 = .ok (.ldc2_w 111, 3) := by decide +kernel
theorem dX8_press_22 : decode cX8_press 22 = .ok (.invokestatic 103, 3) := by decide +kernel
theorem dX8_press_25 : decode cX8_press 25 = .ok (.ifCond .ne 6, 3) := by decide +kernel
theorem dX8_press_28 : decode cX8_press 28 = .ok (.bipush (-2), 2) := by decide +kernel
theorem dX8_press_30 : decode cX8_press 30 = .ok (.ireturn, 1) := by decide +kernel
theorem dX8_press_31 : decode cX8_press 31 = .ok (.aload_n 0, 1) := by decide +kernel
theorem dX8_press_32 : decode cX8_press 32 = .ok (.iload_n 1, 1) := by decide +kernel
theorem dX8_press_33 : decode cX8_press 33 = .ok (.putfield 7, 3) := by decide +kernel
theorem dX8_press_36 : decode cX8_press 36 = .ok (.aload_n 0, 1) := by decide +kernel
theorem dX8_press_37 : decode cX8_press 37 = .ok (.iload_n 2, 1) := by decide +kernel
theorem dX8_press_38 : decode cX8_press 38 = .ok (.putfield 13, 3) := by decide +kernel
theorem dX8_press_41 : decode cX8_press 41 = .ok (.aload_n 0, 1) := by decide +kernel
theorem dX8_press_42 : decode cX8_press 42 = .ok (.invokevirtual 78, 3) := by decide +kernel
theorem dX8_press_45 : decode cX8_press 45 = .ok (.iload_n 1, 1) := by decide +kernel
theorem dX8_press_46 : decode cX8_press 46 = .ok (.iload_n 2, 1) := by decide +kernel
theorem dX8_press_47 : decode cX8_press 47 = .ok (.imul, 1) := by decide +kernel
theorem dX8_press_48 : decode cX8_press 48 = .ok (.ireturn, 1) := by decide +kernel
theorem dX8_mostOf_0 : decode cX8_mostOf 0 = .ok (.iload_n 0, 1) := by decide +kernel
theorem dX8_mostOf_1 : decode cX8_mostOf 1 = .ok (.tableswitch 74 0 8 #[51, 74, 54, 74, 57, 61, 64, 68, 71], 51) := by decide +kernel
theorem dX8_mostOf_52 : decode cX8_mostOf 52 = .ok (.bipush 20, 2) := by decide +kernel
theorem dX8_mostOf_54 : decode cX8_mostOf 54 = .ok (.ireturn, 1) := by decide +kernel
theorem dX8_mostOf_55 : decode cX8_mostOf 55 = .ok (.bipush 40, 2) := by decide +kernel
theorem dX8_mostOf_57 : decode cX8_mostOf 57 = .ok (.ireturn, 1) := by decide +kernel
theorem dX8_mostOf_58 : decode cX8_mostOf 58 = .ok (.sipush 200, 3) := by decide +kernel
theorem dX8_mostOf_61 : decode cX8_mostOf 61 = .ok (.ireturn, 1) := by decide +kernel
theorem dX8_mostOf_62 : decode cX8_mostOf 62 = .ok (.bipush 100, 2) := by decide +kernel
theorem dX8_mostOf_64 : decode cX8_mostOf 64 = .ok (.ireturn, 1) := by decide +kernel
theorem dX8_mostOf_65 : decode cX8_mostOf 65 = .ok (.sipush 500, 3) := by decide +kernel
theorem dX8_mostOf_68 : decode cX8_mostOf 68 = .ok (.ireturn, 1) := by decide +kernel
theorem dX8_mostOf_69 : decode cX8_mostOf 69 = .ok (.bipush 50, 2) := by decide +kernel
theorem dX8_mostOf_71 : decode cX8_mostOf 71 = .ok (.ireturn, 1) := by decide +kernel
theorem dX8_mostOf_72 : decode cX8_mostOf 72 = .ok (.bipush 20, 2) := by decide +kernel
theorem dX8_mostOf_74 : decode cX8_mostOf 74 = .ok (.ireturn, 1) := by decide +kernel
theorem dX8_mostOf_75 : decode cX8_mostOf 75 = .ok (.bipush 90, 2) := by decide +kernel
theorem dX8_mostOf_77 : decode cX8_mostOf 77 = .ok (.ireturn, 1) := by decide +kernel
set_option maxRecDepth 20000 in
theorem ggX8_rule_X8_in : GoodIn wsX8_rule wsX8_in := goodIn_r _ [8] rfl (by decide +kernel)
set_option maxRecDepth 20000 in
theorem gX8_rule_X8_in : GoodIn wsX8_rule (va_wsS RX8 103 yX8_in wsX8_in) := goodIn_app (goodIn_of _ (by decide +kernel)) ggX8_rule_X8_in
set_option maxRecDepth 20000 in
theorem ggX8_rule_X8_mostOf : GoodIn wsX8_rule wsX8_mostOf := goodIn_r _ [11] rfl (by decide +kernel)
set_option maxRecDepth 20000 in
theorem gX8_rule_X8_mostOf : GoodIn wsX8_rule (va_wsS RX8 114 yX8_mostOf wsX8_mostOf) := goodIn_app (goodIn_of _ (by decide +kernel)) ggX8_rule_X8_mostOf
theorem dX8_rule_0 : decode cX8_rule 0 = .ok (.iload_n 1, 1) := by decide +kernel
theorem dX8_rule_1 : decode cX8_rule 1 = .ok (.i2l, 1) := by decide +kernel
theorem dX8_rule_2 : decode cX8_rule 2 = .ok (.lconst 0, 1) := by decide +kernel
theorem dX8_rule_3 : decode cX8_rule 3 = .ok (.ldc2_w 109, 3) := by decide +kernel
theorem dX8_rule_6 : decode cX8_rule 6 = .ok (.invokestatic 103, 3) := by decide +kernel
theorem dX8_rule_9 : decode cX8_rule 9 = .ok (.ifCond .ne 6, 3) := by decide +kernel
theorem dX8_rule_12 : decode cX8_rule 12 = .ok (.ldc 113, 2) := by decide +kernel
theorem dX8_rule_14 : decode cX8_rule 14 = .ok (.ireturn, 1) := by decide +kernel
theorem dX8_rule_15 : decode cX8_rule 15 = .ok (.iload_n 2, 1) := by decide +kernel
theorem dX8_rule_16 : decode cX8_rule 16 = .ok (.i2l, 1) := by decide +kernel
theorem dX8_rule_17 : decode cX8_rule 17 = .ok (.iload_n 1, 1) := by decide +kernel
theorem dX8_rule_18 : decode cX8_rule 18 = .ok (.iconst 2, 1) := by decide +kernel
theorem dX8_rule_19 : decode cX8_rule 19 = .ok (.if_icmp .eq 9, 3) := by decide +kernel
theorem dX8_rule_22 : decode cX8_rule 22 = .ok (.iload_n 1, 1) := by decide +kernel
theorem dX8_rule_23 : decode cX8_rule 23 = .ok (.bipush 6, 2) := by decide +kernel
theorem dX8_rule_25 : decode cX8_rule 25 = .ok (.if_icmp .ne 7, 3) := by decide +kernel
theorem dX8_rule_28 : decode cX8_rule 28 = .ok (.lconst 0, 1) := by decide +kernel
theorem dX8_rule_29 : decode cX8_rule 29 = .ok (.goto 4, 3) := by decide +kernel
theorem dX8_rule_32 : decode cX8_rule 32 = .ok (.lconst 1, 1) := by decide +kernel
theorem dX8_rule_33 : decode cX8_rule 33 = .ok (.iload_n 1, 1) := by decide +kernel
theorem dX8_rule_34 : decode cX8_rule 34 = .ok (.invokestatic 114, 3) := by decide +kernel
theorem dX8_rule_37 : decode cX8_rule 37 = .ok (.i2l, 1) := by decide +kernel
theorem dX8_rule_38 : decode cX8_rule 38 = .ok (.invokestatic 103, 3) := by decide +kernel
theorem dX8_rule_41 : decode cX8_rule 41 = .ok (.ifCond .ne 6, 3) := by decide +kernel
theorem dX8_rule_44 : decode cX8_rule 44 = .ok (.ldc 118, 2) := by decide +kernel
theorem dX8_rule_46 : decode cX8_rule 46 = .ok (.ireturn, 1) := by decide +kernel
theorem dX8_rule_47 : decode cX8_rule 47 = .ok (.aload_n 0, 1) := by decide +kernel
theorem dX8_rule_48 : decode cX8_rule 48 = .ok (.getfield 16, 3) := by decide +kernel
theorem dX8_rule_51 : decode cX8_rule 51 = .ok (.iload_n 1, 1) := by decide +kernel
theorem dX8_rule_52 : decode cX8_rule 52 = .ok (.iaload, 1) := by decide +kernel
theorem dX8_rule_53 : decode cX8_rule 53 = .ok (.istore_n 3, 1) := by decide +kernel
theorem dX8_rule_54 : decode cX8_rule 54 = .ok (.aload_n 0, 1) := by decide +kernel
theorem dX8_rule_55 : decode cX8_rule 55 = .ok (.getfield 16, 3) := by decide +kernel
theorem dX8_rule_58 : decode cX8_rule 58 = .ok (.iload_n 1, 1) := by decide +kernel
theorem dX8_rule_59 : decode cX8_rule 59 = .ok (.iload_n 2, 1) := by decide +kernel
theorem dX8_rule_60 : decode cX8_rule 60 = .ok (.iastore, 1) := by decide +kernel
theorem dX8_rule_61 : decode cX8_rule 61 = .ok (.iload_n 3, 1) := by decide +kernel
theorem dX8_rule_62 : decode cX8_rule 62 = .ok (.ireturn, 1) := by decide +kernel
set_option maxRecDepth 20000 in
theorem ggX8_set_X8_isZone : GoodIn wsX8_set wsX8_isZone := goodIn_r _ [11, 12, 13, 14, 10, 15, 16, 17, 18, 19, 20, 21, 22, 23, 24, 25, 26, 27, 28, 29, 30, 31, 32, 33, 34, 35, 36, 37, 38, 39, 40, 41, 42, 43, 44, 45, 46, 47, 48, 49, 50, 51, 52] rfl (by decide +kernel)
set_option maxRecDepth 20000 in
theorem gX8_set_X8_isZone : GoodIn wsX8_set (wsV RX8 119 RX8 yX8_isZone wsX8_isZone) := goodIn_app (goodIn_of _ (by decide +kernel)) ggX8_set_X8_isZone
set_option maxRecDepth 20000 in
theorem ggX8_set_X8_in : GoodIn wsX8_set wsX8_in := goodIn_r _ [15] rfl (by decide +kernel)
set_option maxRecDepth 20000 in
theorem gX8_set_X8_in : GoodIn wsX8_set (va_wsS RX8 103 yX8_in wsX8_in) := goodIn_app (goodIn_of _ (by decide +kernel)) ggX8_set_X8_in
theorem dX8_set_0 : decode cX8_set 0 = .ok (.aload_n 0, 1) := by decide +kernel
theorem dX8_set_1 : decode cX8_set 1 = .ok (.iload_n 1, 1) := by decide +kernel
theorem dX8_set_2 : decode cX8_set 2 = .ok (.invokevirtual 119, 3) := by decide +kernel
theorem dX8_set_5 : decode cX8_set 5 = .ok (.ifCond .ne 5, 3) := by decide +kernel
theorem dX8_set_8 : decode cX8_set 8 = .ok (.iconst (-1), 1) := by decide +kernel
theorem dX8_set_9 : decode cX8_set 9 = .ok (.ireturn, 1) := by decide +kernel
theorem dX8_set_10 : decode cX8_set 10 = .ok (.iload_n 2, 1) := by decide +kernel
theorem dX8_set_11 : decode cX8_set 11 = .ok (.i2l, 1) := by decide +kernel
theorem dX8_set_12 : decode cX8_set 12 = .ok (.lconst 0, 1) := by decide +kernel
theorem dX8_set_13 : decode cX8_set 13 = .ok (.ldc2_w 107, 3) := by decide +kernel
theorem dX8_set_16 : decode cX8_set 16 = .ok (.invokestatic 103, 3) := by decide +kernel
theorem dX8_set_19 : decode cX8_set 19 = .ok (.ifCond .eq 26, 3) := by decide +kernel
theorem dX8_set_22 : decode cX8_set 22 = .ok (.iload_n 3, 1) := by decide +kernel
theorem dX8_set_23 : decode cX8_set 23 = .ok (.i2l, 1) := by decide +kernel
theorem dX8_set_24 : decode cX8_set 24 = .ok (.lconst 0, 1) := by decide +kernel
theorem dX8_set_25 : decode cX8_set 25 = .ok (.iload_n 2, 1) := by decide +kernel
theorem dX8_set_26 : decode cX8_set 26 = .ok (.iconst 2, 1) := by decide +kernel
theorem dX8_set_27 : decode cX8_set 27 = .ok (.if_icmp .ne 9, 3) := by decide +kernel
theorem dX8_set_30 : decode cX8_set 30 = .ok (.ldc2_w 123, 3) := by decide +kernel
theorem dX8_set_33 : decode cX8_set 33 = .ok (.goto 6, 3) := by decide +kernel
theorem dX8_set_36 : decode cX8_set 36 = .ok (.ldc2_w 125, 3) := by decide +kernel
theorem dX8_set_39 : decode cX8_set 39 = .ok (.invokestatic 103, 3) := by decide +kernel
theorem dX8_set_42 : decode cX8_set 42 = .ok (.ifCond .ne 6, 3) := by decide +kernel
theorem dX8_set_45 : decode cX8_set 45 = .ok (.bipush (-2), 2) := by decide +kernel
theorem dX8_set_47 : decode cX8_set 47 = .ok (.ireturn, 1) := by decide +kernel
theorem dX8_set_48 : decode cX8_set 48 = .ok (.iload_n 2, 1) := by decide +kernel
theorem dX8_set_49 : decode cX8_set 49 = .ok (.ifCond .ne 12, 3) := by decide +kernel
theorem dX8_set_52 : decode cX8_set 52 = .ok (.aload_n 0, 1) := by decide +kernel
theorem dX8_set_53 : decode cX8_set 53 = .ok (.getfield 20, 3) := by decide +kernel
theorem dX8_set_56 : decode cX8_set 56 = .ok (.iload_n 1, 1) := by decide +kernel
theorem dX8_set_57 : decode cX8_set 57 = .ok (.iaload, 1) := by decide +kernel
theorem dX8_set_58 : decode cX8_set 58 = .ok (.goto 23, 3) := by decide +kernel
theorem dX8_set_61 : decode cX8_set 61 = .ok (.iload_n 2, 1) := by decide +kernel
theorem dX8_set_62 : decode cX8_set 62 = .ok (.iconst 1, 1) := by decide +kernel
theorem dX8_set_63 : decode cX8_set 63 = .ok (.if_icmp .ne 12, 3) := by decide +kernel
theorem dX8_set_66 : decode cX8_set 66 = .ok (.aload_n 0, 1) := by decide +kernel
theorem dX8_set_67 : decode cX8_set 67 = .ok (.getfield 23, 3) := by decide +kernel
theorem dX8_set_70 : decode cX8_set 70 = .ok (.iload_n 1, 1) := by decide +kernel
theorem dX8_set_71 : decode cX8_set 71 = .ok (.iaload, 1) := by decide +kernel
theorem dX8_set_72 : decode cX8_set 72 = .ok (.goto 9, 3) := by decide +kernel
theorem dX8_set_75 : decode cX8_set 75 = .ok (.aload_n 0, 1) := by decide +kernel
theorem dX8_set_76 : decode cX8_set 76 = .ok (.getfield 26, 3) := by decide +kernel
theorem dX8_set_79 : decode cX8_set 79 = .ok (.iload_n 1, 1) := by decide +kernel
theorem dX8_set_80 : decode cX8_set 80 = .ok (.iaload, 1) := by decide +kernel
theorem dX8_set_81 : decode cX8_set 81 = .ok (.istore 4, 2) := by decide +kernel
theorem dX8_set_83 : decode cX8_set 83 = .ok (.iload_n 2, 1) := by decide +kernel
theorem dX8_set_84 : decode cX8_set 84 = .ok (.ifCond .ne 13, 3) := by decide +kernel
theorem dX8_set_87 : decode cX8_set 87 = .ok (.aload_n 0, 1) := by decide +kernel
theorem dX8_set_88 : decode cX8_set 88 = .ok (.getfield 20, 3) := by decide +kernel
theorem dX8_set_91 : decode cX8_set 91 = .ok (.iload_n 1, 1) := by decide +kernel
theorem dX8_set_92 : decode cX8_set 92 = .ok (.iload_n 3, 1) := by decide +kernel
theorem dX8_set_93 : decode cX8_set 93 = .ok (.iastore, 1) := by decide +kernel
theorem dX8_set_94 : decode cX8_set 94 = .ok (.goto 25, 3) := by decide +kernel
theorem dX8_set_97 : decode cX8_set 97 = .ok (.iload_n 2, 1) := by decide +kernel
theorem dX8_set_98 : decode cX8_set 98 = .ok (.iconst 1, 1) := by decide +kernel
theorem dX8_set_99 : decode cX8_set 99 = .ok (.if_icmp .ne 13, 3) := by decide +kernel
theorem dX8_set_102 : decode cX8_set 102 = .ok (.aload_n 0, 1) := by decide +kernel
theorem dX8_set_103 : decode cX8_set 103 = .ok (.getfield 23, 3) := by decide +kernel
theorem dX8_set_106 : decode cX8_set 106 = .ok (.iload_n 1, 1) := by decide +kernel
theorem dX8_set_107 : decode cX8_set 107 = .ok (.iload_n 3, 1) := by decide +kernel
theorem dX8_set_108 : decode cX8_set 108 = .ok (.iastore, 1) := by decide +kernel
theorem dX8_set_109 : decode cX8_set 109 = .ok (.goto 10, 3) := by decide +kernel
theorem dX8_set_112 : decode cX8_set 112 = .ok (.aload_n 0, 1) := by decide +kernel
theorem dX8_set_113 : decode cX8_set 113 = .ok (.getfield 26, 3) := by decide +kernel
theorem dX8_set_116 : decode cX8_set 116 = .ok (.iload_n 1, 1) := by decide +kernel
theorem dX8_set_117 : decode cX8_set 117 = .ok (.iload_n 3, 1) := by decide +kernel
theorem dX8_set_118 : decode cX8_set 118 = .ok (.iastore, 1) := by decide +kernel
theorem dX8_set_119 : decode cX8_set 119 = .ok (.iload 4, 2) := by decide +kernel
theorem dX8_set_121 : decode cX8_set 121 = .ok (.ireturn, 1) := by decide +kernel
theorem dX8_densityOf_0 : decode cX8_densityOf 0 = .ok (.iload_n 1, 1) := by decide +kernel
theorem dX8_densityOf_1 : decode cX8_densityOf 1 = .ok (.ifCond .ne 7, 3) := by decide +kernel
theorem dX8_densityOf_4 : decode cX8_densityOf 4 = .ok (.iconst 0, 1) := by decide +kernel
theorem dX8_densityOf_5 : decode cX8_densityOf 5 = .ok (.goto 16, 3) := by decide +kernel
theorem dX8_densityOf_8 : decode cX8_densityOf 8 = .ok (.aload_n 0, 1) := by decide +kernel
theorem dX8_densityOf_9 : decode cX8_densityOf 9 = .ok (.getfield 32, 3) := by decide +kernel
theorem dX8_densityOf_12 : decode cX8_densityOf 12 = .ok (.bipush 8, 2) := by decide +kernel
theorem dX8_densityOf_14 : decode cX8_densityOf 14 = .ok (.iload_n 1, 1) := by decide +kernel
theorem dX8_densityOf_15 : decode cX8_densityOf 15 = .ok (.iconst 1, 1) := by decide +kernel
theorem dX8_densityOf_16 : decode cX8_densityOf 16 = .ok (.isub, 1) := by decide +kernel
theorem dX8_densityOf_17 : decode cX8_densityOf 17 = .ok (.imul, 1) := by decide +kernel
theorem dX8_densityOf_18 : decode cX8_densityOf 18 = .ok (.iload_n 2, 1) := by decide +kernel
theorem dX8_densityOf_19 : decode cX8_densityOf 19 = .ok (.iadd, 1) := by decide +kernel
theorem dX8_densityOf_20 : decode cX8_densityOf 20 = .ok (.iaload, 1) := by decide +kernel
theorem dX8_densityOf_21 : decode cX8_densityOf 21 = .ok (.ireturn, 1) := by decide +kernel
set_option maxRecDepth 20000 in
theorem ggX8_zone_X8_isZone : GoodIn wsX8_zone wsX8_isZone := goodIn_r _ [9, 10, 11, 12, 8, 13, 19, 20, 21, 22, 23, 24, 25, 26, 27, 28, 29, 30, 31, 32, 33, 34, 35, 36, 37, 38, 39, 40, 41, 42, 43, 44, 45, 46, 47, 48, 49, 50, 51, 52, 53, 54, 55] rfl (by decide +kernel)
set_option maxRecDepth 20000 in
theorem gX8_zone_X8_isZone : GoodIn wsX8_zone (wsV RX8 119 RX8 yX8_isZone wsX8_isZone) := goodIn_app (goodIn_of _ (by decide +kernel)) ggX8_zone_X8_isZone
set_option maxRecDepth 20000 in
theorem ggX8_zone_X8_densityOf : GoodIn wsX8_zone wsX8_densityOf := goodIn_r _ [17, 18, 19, 20, 21, 22, 23, 24, 25, 26, 27, 28, 29, 30, 31, 32, 33, 34, 35, 36, 37, 38, 39, 40, 41, 42, 43, 44, 45, 46, 47, 48, 49, 50, 51, 52, 53, 54, 55] rfl (by decide +kernel)
set_option maxRecDepth 20000 in
theorem gX8_zone_X8_densityOf : GoodIn wsX8_zone (wsV RX8 127 RX8 yX8_densityOf wsX8_densityOf) := goodIn_app (goodIn_of _ (by decide +kernel)) ggX8_zone_X8_densityOf
theorem dX8_zone_0 : decode cX8_zone 0 = .ok (.aload_n 0, 1) := by decide +kernel
theorem dX8_zone_1 : decode cX8_zone 1 = .ok (.iload_n 1, 1) := by decide +kernel
theorem dX8_zone_2 : decode cX8_zone 2 = .ok (.invokevirtual 119, 3) := by decide +kernel
theorem dX8_zone_5 : decode cX8_zone 5 = .ok (.ifCond .ne 5, 3) := by decide +kernel
theorem dX8_zone_8 : decode cX8_zone 8 = .ok (.iconst (-1), 1) := by decide +kernel
theorem dX8_zone_9 : decode cX8_zone 9 = .ok (.ireturn, 1) := by decide +kernel
theorem dX8_zone_10 : decode cX8_zone 10 = .ok (.iload_n 2, 1) := by decide +kernel
theorem dX8_zone_11 : decode cX8_zone 11 = .ok (.ifCond .ne 12, 3) := by decide +kernel
theorem dX8_zone_14 : decode cX8_zone 14 = .ok (.aload_n 0, 1) := by decide +kernel
theorem dX8_zone_15 : decode cX8_zone 15 = .ok (.getfield 20, 3) := by decide +kernel
theorem dX8_zone_18 : decode cX8_zone 18 = .ok (.iload_n 1, 1) := by decide +kernel
theorem dX8_zone_19 : decode cX8_zone 19 = .ok (.iaload, 1) := by decide +kernel
theorem dX8_zone_20 : decode cX8_zone 20 = .ok (.goto 50, 3) := by decide +kernel
theorem dX8_zone_23 : decode cX8_zone 23 = .ok (.iload_n 2, 1) := by decide +kernel
theorem dX8_zone_24 : decode cX8_zone 24 = .ok (.iconst 1, 1) := by decide +kernel
theorem dX8_zone_25 : decode cX8_zone 25 = .ok (.if_icmp .ne 12, 3) := by decide +kernel
theorem dX8_zone_28 : decode cX8_zone 28 = .ok (.aload_n 0, 1) := by decide +kernel
theorem dX8_zone_29 : decode cX8_zone 29 = .ok (.getfield 23, 3) := by decide +kernel
theorem dX8_zone_32 : decode cX8_zone 32 = .ok (.iload_n 1, 1) := by decide +kernel
theorem dX8_zone_33 : decode cX8_zone 33 = .ok (.iaload, 1) := by decide +kernel
theorem dX8_zone_34 : decode cX8_zone 34 = .ok (.goto 36, 3) := by decide +kernel
theorem dX8_zone_37 : decode cX8_zone 37 = .ok (.iload_n 2, 1) := by decide +kernel
theorem dX8_zone_38 : decode cX8_zone 38 = .ok (.iconst 2, 1) := by decide +kernel
theorem dX8_zone_39 : decode cX8_zone 39 = .ok (.if_icmp .ne 12, 3) := by decide +kernel
theorem dX8_zone_42 : decode cX8_zone 42 = .ok (.aload_n 0, 1) := by decide +kernel
theorem dX8_zone_43 : decode cX8_zone 43 = .ok (.getfield 26, 3) := by decide +kernel
theorem dX8_zone_46 : decode cX8_zone 46 = .ok (.iload_n 1, 1) := by decide +kernel
theorem dX8_zone_47 : decode cX8_zone 47 = .ok (.iaload, 1) := by decide +kernel
theorem dX8_zone_48 : decode cX8_zone 48 = .ok (.goto 22, 3) := by decide +kernel
theorem dX8_zone_51 : decode cX8_zone 51 = .ok (.iload_n 2, 1) := by decide +kernel
theorem dX8_zone_52 : decode cX8_zone 52 = .ok (.iconst 3, 1) := by decide +kernel
theorem dX8_zone_53 : decode cX8_zone 53 = .ok (.if_icmp .ne 15, 3) := by decide +kernel
theorem dX8_zone_56 : decode cX8_zone 56 = .ok (.aload_n 0, 1) := by decide +kernel
theorem dX8_zone_57 : decode cX8_zone 57 = .ok (.aload_n 0, 1) := by decide +kernel
theorem dX8_zone_58 : decode cX8_zone 58 = .ok (.getfield 81, 3) := by decide +kernel
theorem dX8_zone_61 : decode cX8_zone 61 = .ok (.iload_n 1, 1) := by decide +kernel
theorem dX8_zone_62 : decode cX8_zone 62 = .ok (.invokevirtual 127, 3) := by decide +kernel
theorem dX8_zone_65 : decode cX8_zone 65 = .ok (.goto 5, 3) := by decide +kernel
theorem dX8_zone_68 : decode cX8_zone 68 = .ok (.bipush (-2), 2) := by decide +kernel
theorem dX8_zone_70 : decode cX8_zone 70 = .ok (.ireturn, 1) := by decide +kernel
set_option maxRecDepth 20000 in
theorem ggX8_ink_X8_in : GoodIn wsX8_ink wsX8_in := goodIn_r _ [6] rfl (by decide +kernel)
set_option maxRecDepth 20000 in
theorem gX8_ink_X8_in : GoodIn wsX8_ink (va_wsS RX8 103 yX8_in wsX8_in) := goodIn_app (goodIn_of _ (by decide +kernel)) ggX8_ink_X8_in
set_option maxRecDepth 20000 in
theorem ggX8_ink_X8_isZone : GoodIn wsX8_ink wsX8_isZone := goodIn_r _ [10, 11, 3, 4, 5, 6, 12, 13, 14, 15, 16, 17, 18, 19, 20, 21, 22, 23, 24, 25, 26, 27, 28, 29, 30, 31, 32, 33, 34, 35, 36, 37, 38, 39, 40, 41, 42, 43, 44, 45, 46, 47, 48] rfl (by decide +kernel)
set_option maxRecDepth 20000 in
theorem gX8_ink_X8_isZone : GoodIn wsX8_ink (wsV RX8 119 RX8 yX8_isZone wsX8_isZone) := goodIn_app (goodIn_of _ (by decide +kernel)) ggX8_ink_X8_isZone
theorem dX8_ink_0 : decode cX8_ink 0 = .ok (.iload_n 1, 1) := by decide +kernel
theorem dX8_ink_1 : decode cX8_ink 1 = .ok (.i2l, 1) := by decide +kernel
theorem dX8_ink_2 : decode cX8_ink 2 = .ok (.lconst 0, 1) := by decide +kernel
theorem dX8_ink_3 : decode cX8_ink 3 = .ok (.aload_n 0, 1) := by decide +kernel
theorem dX8_ink_4 : decode cX8_ink 4 = .ok (.getfield 13, 3) := by decide +kernel
theorem dX8_ink_7 : decode cX8_ink 7 = .ok (.iconst 1, 1) := by decide +kernel
theorem dX8_ink_8 : decode cX8_ink 8 = .ok (.isub, 1) := by decide +kernel
theorem dX8_ink_9 : decode cX8_ink 9 = .ok (.i2l, 1) := by decide +kernel
theorem dX8_ink_10 : decode cX8_ink 10 = .ok (.invokestatic 103, 3) := by decide +kernel
theorem dX8_ink_13 : decode cX8_ink 13 = .ok (.ifCond .eq 25, 3) := by decide +kernel
theorem dX8_ink_16 : decode cX8_ink 16 = .ok (.aload_n 0, 1) := by decide +kernel
theorem dX8_ink_17 : decode cX8_ink 17 = .ok (.iload_n 2, 1) := by decide +kernel
theorem dX8_ink_18 : decode cX8_ink 18 = .ok (.invokevirtual 119, 3) := by decide +kernel
theorem dX8_ink_21 : decode cX8_ink 21 = .ok (.ifCond .eq 17, 3) := by decide +kernel
theorem dX8_ink_24 : decode cX8_ink 24 = .ok (.aload_n 0, 1) := by decide +kernel
theorem dX8_ink_25 : decode cX8_ink 25 = .ok (.getfield 29, 3) := by decide +kernel
theorem dX8_ink_28 : decode cX8_ink 28 = .ok (.bipush 8, 2) := by decide +kernel
theorem dX8_ink_30 : decode cX8_ink 30 = .ok (.iload_n 1, 1) := by decide +kernel
theorem dX8_ink_31 : decode cX8_ink 31 = .ok (.imul, 1) := by decide +kernel
theorem dX8_ink_32 : decode cX8_ink 32 = .ok (.iload_n 2, 1) := by decide +kernel
theorem dX8_ink_33 : decode cX8_ink 33 = .ok (.iadd, 1) := by decide +kernel
theorem dX8_ink_34 : decode cX8_ink 34 = .ok (.iaload, 1) := by decide +kernel
theorem dX8_ink_35 : decode cX8_ink 35 = .ok (.goto 4, 3) := by decide +kernel
theorem dX8_ink_38 : decode cX8_ink 38 = .ok (.iconst (-1), 1) := by decide +kernel
theorem dX8_ink_39 : decode cX8_ink 39 = .ok (.ireturn, 1) := by decide +kernel
theorem dX8_drift_0 : decode cX8_drift 0 = .ok (.iconst 0, 1) := by decide +kernel
theorem dX8_drift_1 : decode cX8_drift 1 = .ok (.istore_n 2, 1) := by decide +kernel
theorem dX8_drift_2 : decode cX8_drift 2 = .ok (.iload_n 2, 1) := by decide +kernel
theorem dX8_drift_3 : decode cX8_drift 3 = .ok (.aload_n 0, 1) := by decide +kernel
theorem dX8_drift_4 : decode cX8_drift 4 = .ok (.getfield 7, 3) := by decide +kernel
theorem dX8_drift_7 : decode cX8_drift 7 = .ok (.if_icmp .ge 37, 3) := by decide +kernel
theorem dX8_drift_10 : decode cX8_drift 10 = .ok (.aload_n 0, 1) := by decide +kernel
theorem dX8_drift_11 : decode cX8_drift 11 = .ok (.getfield 42, 3) := by decide +kernel
theorem dX8_drift_14 : decode cX8_drift 14 = .ok (.iload_n 2, 1) := by decide +kernel
theorem dX8_drift_15 : decode cX8_drift 15 = .ok (.aload_n 0, 1) := by decide +kernel
theorem dX8_drift_16 : decode cX8_drift 16 = .ok (.getfield 29, 3) := by decide +kernel
theorem dX8_drift_19 : decode cX8_drift 19 = .ok (.bipush 8, 2) := by decide +kernel
theorem dX8_drift_21 : decode cX8_drift 21 = .ok (.iload_n 1, 1) := by decide +kernel
theorem dX8_drift_22 : decode cX8_drift 22 = .ok (.imul, 1) := by decide +kernel
theorem dX8_drift_23 : decode cX8_drift 23 = .ok (.iload_n 2, 1) := by decide +kernel
theorem dX8_drift_24 : decode cX8_drift 24 = .ok (.iadd, 1) := by decide +kernel
theorem dX8_drift_25 : decode cX8_drift 25 = .ok (.iaload, 1) := by decide +kernel
theorem dX8_drift_26 : decode cX8_drift 26 = .ok (.aload_n 0, 1) := by decide +kernel
theorem dX8_drift_27 : decode cX8_drift 27 = .ok (.getfield 16, 3) := by decide +kernel
theorem dX8_drift_30 : decode cX8_drift 30 = .ok (.iconst 2, 1) := by decide +kernel
theorem dX8_drift_31 : decode cX8_drift 31 = .ok (.iaload, 1) := by decide +kernel
theorem dX8_drift_32 : decode cX8_drift 32 = .ok (.imul, 1) := by decide +kernel
theorem dX8_drift_33 : decode cX8_drift 33 = .ok (.sipush 200, 3) := by decide +kernel
theorem dX8_drift_36 : decode cX8_drift 36 = .ok (.idiv, 1) := by decide +kernel
theorem dX8_drift_37 : decode cX8_drift 37 = .ok (.iastore, 1) := by decide +kernel
theorem dX8_drift_38 : decode cX8_drift 38 = .ok (.iinc 2 1, 3) := by decide +kernel
theorem dX8_drift_41 : decode cX8_drift 41 = .ok (.goto (-39), 3) := by decide +kernel
theorem dX8_drift_44 : decode cX8_drift 44 = .ok (.iconst 0, 1) := by decide +kernel
theorem dX8_drift_45 : decode cX8_drift 45 = .ok (.istore_n 2, 1) := by decide +kernel
theorem dX8_drift_46 : decode cX8_drift 46 = .ok (.iload_n 2, 1) := by decide +kernel
theorem dX8_drift_47 : decode cX8_drift 47 = .ok (.iconst 1, 1) := by decide +kernel
theorem dX8_drift_48 : decode cX8_drift 48 = .ok (.iadd, 1) := by decide +kernel
theorem dX8_drift_49 : decode cX8_drift 49 = .ok (.aload_n 0, 1) := by decide +kernel
theorem dX8_drift_50 : decode cX8_drift 50 = .ok (.getfield 7, 3) := by decide +kernel
theorem dX8_drift_53 : decode cX8_drift 53 = .ok (.if_icmp .ge 66, 3) := by decide +kernel
theorem dX8_drift_56 : decode cX8_drift 56 = .ok (.bipush 8, 2) := by decide +kernel
theorem dX8_drift_58 : decode cX8_drift 58 = .ok (.iload_n 1, 1) := by decide +kernel
theorem dX8_drift_59 : decode cX8_drift 59 = .ok (.imul, 1) := by decide +kernel
theorem dX8_drift_60 : decode cX8_drift 60 = .ok (.iload_n 2, 1) := by decide +kernel
theorem dX8_drift_61 : decode cX8_drift 61 = .ok (.iadd, 1) := by decide +kernel
theorem dX8_drift_62 : decode cX8_drift 62 = .ok (.istore_n 3, 1) := by decide +kernel
theorem dX8_drift_63 : decode cX8_drift 63 = .ok (.aload_n 0, 1) := by decide +kernel
theorem dX8_drift_64 : decode cX8_drift 64 = .ok (.getfield 29, 3) := by decide +kernel
theorem dX8_drift_67 : decode cX8_drift 67 = .ok (.iload_n 3, 1) := by decide +kernel
theorem dX8_drift_68 : decode cX8_drift 68 = .ok (.dup2, 1) := by decide +kernel
theorem dX8_drift_69 : decode cX8_drift 69 = .ok (.iaload, 1) := by decide +kernel
theorem dX8_drift_70 : decode cX8_drift 70 = .ok (.aload_n 0, 1) := by decide +kernel
theorem dX8_drift_71 : decode cX8_drift 71 = .ok (.getfield 42, 3) := by decide +kernel
theorem dX8_drift_74 : decode cX8_drift 74 = .ok (.iload_n 2, 1) := by decide +kernel
theorem dX8_drift_75 : decode cX8_drift 75 = .ok (.iconst 1, 1) := by decide +kernel
theorem dX8_drift_76 : decode cX8_drift 76 = .ok (.iadd, 1) := by decide +kernel
theorem dX8_drift_77 : decode cX8_drift 77 = .ok (.iaload, 1) := by decide +kernel
theorem dX8_drift_78 : decode cX8_drift 78 = .ok (.aload_n 0, 1) := by decide +kernel
theorem dX8_drift_79 : decode cX8_drift 79 = .ok (.getfield 42, 3) := by decide +kernel
theorem dX8_drift_82 : decode cX8_drift 82 = .ok (.iload_n 2, 1) := by decide +kernel
theorem dX8_drift_83 : decode cX8_drift 83 = .ok (.iaload, 1) := by decide +kernel
theorem dX8_drift_84 : decode cX8_drift 84 = .ok (.isub, 1) := by decide +kernel
theorem dX8_drift_85 : decode cX8_drift 85 = .ok (.iadd, 1) := by decide +kernel
theorem dX8_drift_86 : decode cX8_drift 86 = .ok (.iastore, 1) := by decide +kernel
theorem dX8_drift_87 : decode cX8_drift 87 = .ok (.aload_n 0, 1) := by decide +kernel
theorem dX8_drift_88 : decode cX8_drift 88 = .ok (.getfield 29, 3) := by decide +kernel
theorem dX8_drift_91 : decode cX8_drift 91 = .ok (.iload_n 3, 1) := by decide +kernel
theorem dX8_drift_92 : decode cX8_drift 92 = .ok (.iconst 1, 1) := by decide +kernel
theorem dX8_drift_93 : decode cX8_drift 93 = .ok (.iadd, 1) := by decide +kernel
theorem dX8_drift_94 : decode cX8_drift 94 = .ok (.dup2, 1) := by decide +kernel
theorem dX8_drift_95 : decode cX8_drift 95 = .ok (.iaload, 1) := by decide +kernel
theorem dX8_drift_96 : decode cX8_drift 96 = .ok (.aload_n 0, 1) := by decide +kernel
theorem dX8_drift_97 : decode cX8_drift 97 = .ok (.getfield 42, 3) := by decide +kernel
theorem dX8_drift_100 : decode cX8_drift 100 = .ok (.iload_n 2, 1) := by decide +kernel
theorem dX8_drift_101 : decode cX8_drift 101 = .ok (.iaload, 1) := by decide +kernel
theorem dX8_drift_102 : decode cX8_drift 102 = .ok (.aload_n 0, 1) := by decide +kernel
theorem dX8_drift_103 : decode cX8_drift 103 = .ok (.getfield 42, 3) := by decide +kernel
theorem dX8_drift_106 : decode cX8_drift 106 = .ok (.iload_n 2, 1) := by decide +kernel
theorem dX8_drift_107 : decode cX8_drift 107 = .ok (.iconst 1, 1) := by decide +kernel
theorem dX8_drift_108 : decode cX8_drift 108 = .ok (.iadd, 1) := by decide +kernel
theorem dX8_drift_109 : decode cX8_drift 109 = .ok (.iaload, 1) := by decide +kernel
theorem dX8_drift_110 : decode cX8_drift 110 = .ok (.isub, 1) := by decide +kernel
theorem dX8_drift_111 : decode cX8_drift 111 = .ok (.iadd, 1) := by decide +kernel
theorem dX8_drift_112 : decode cX8_drift 112 = .ok (.iastore, 1) := by decide +kernel
theorem dX8_drift_113 : decode cX8_drift 113 = .ok (.iinc 2 1, 3) := by decide +kernel
theorem dX8_drift_116 : decode cX8_drift 116 = .ok (.goto (-70), 3) := by decide +kernel
theorem dX8_drift_119 : decode cX8_drift 119 = .ok (.return_, 1) := by decide +kernel
set_option maxRecDepth 20000 in
theorem ggX8_sheet_X8_drift : GoodIn wsX8_sheet wsX8_drift := goodIn_r _ [24, 1, 25, 2, 4, 37, 38, 39, 40, 41, 42, 43, 44, 45, 46, 47, 48, 49, 50, 51, 52, 53, 54, 55, 56, 57, 58, 59, 60, 61, 62, 63, 64, 65, 66, 67, 68, 69, 70, 71, 72, 73] rfl (by decide +kernel)
set_option maxRecDepth 20000 in
theorem gX8_sheet_X8_drift : GoodIn wsX8_sheet (wsV RX8 131 RX8 yX8_drift wsX8_drift) := goodIn_app (goodIn_of _ (by decide +kernel)) ggX8_sheet_X8_drift
set_option maxRecDepth 20000 in
theorem ggX8_sheet_X8_steerKeys : GoodIn wsX8_sheet wsX8_steerKeys := goodIn_r _ [29, 1, 14, 13, 4, 3, 30, 31, 32, 23, 33, 12, 34, 35, 36, 37, 38, 39, 40, 41, 42, 43, 44, 45, 46, 47, 48, 49, 50, 51, 52, 53, 54, 55, 56, 57, 58, 59, 60, 61, 62, 63, 64, 65, 66, 67, 68, 69, 70, 71, 72, 73] rfl (by decide +kernel)
set_option maxRecDepth 20000 in
theorem gX8_sheet_X8_steerKeys : GoodIn wsX8_sheet (wsV RX8 137 RX8 yX8_steerKeys wsX8_steerKeys) := goodIn_app (goodIn_of _ (by decide +kernel)) ggX8_sheet_X8_steerKeys
theorem dX8_sheet_0 : decode cX8_sheet 0 = .ok (.iconst 0, 1) := by decide +kernel
theorem dX8_sheet_1 : decode cX8_sheet 1 = .ok (.istore_n 1, 1) := by decide +kernel
theorem dX8_sheet_2 : decode cX8_sheet 2 = .ok (.iload_n 1, 1) := by decide +kernel
theorem dX8_sheet_3 : decode cX8_sheet 3 = .ok (.aload_n 0, 1) := by decide +kernel
theorem dX8_sheet_4 : decode cX8_sheet 4 = .ok (.getfield 7, 3) := by decide +kernel
theorem dX8_sheet_7 : decode cX8_sheet 7 = .ok (.if_icmp .ge 53, 3) := by decide +kernel
theorem dX8_sheet_10 : decode cX8_sheet 10 = .ok (.aload_n 0, 1) := by decide +kernel
theorem dX8_sheet_11 : decode cX8_sheet 11 = .ok (.getfield 29, 3) := by decide +kernel
theorem dX8_sheet_14 : decode cX8_sheet 14 = .ok (.iload_n 1, 1) := by decide +kernel
theorem dX8_sheet_15 : decode cX8_sheet 15 = .ok (.dup2, 1) := by decide +kernel
theorem dX8_sheet_16 : decode cX8_sheet 16 = .ok (.iaload, 1) := by decide +kernel
theorem dX8_sheet_17 : decode cX8_sheet 17 = .ok (.aload_n 0, 1) := by decide +kernel
theorem dX8_sheet_18 : decode cX8_sheet 18 = .ok (.getfield 20, 3) := by decide +kernel
theorem dX8_sheet_21 : decode cX8_sheet 21 = .ok (.iload_n 1, 1) := by decide +kernel
theorem dX8_sheet_22 : decode cX8_sheet 22 = .ok (.iaload, 1) := by decide +kernel
theorem dX8_sheet_23 : decode cX8_sheet 23 = .ok (.aload_n 0, 1) := by decide +kernel
theorem dX8_sheet_24 : decode cX8_sheet 24 = .ok (.getfield 16, 3) := by decide +kernel
theorem dX8_sheet_27 : decode cX8_sheet 27 = .ok (.iconst 0, 1) := by decide +kernel
theorem dX8_sheet_28 : decode cX8_sheet 28 = .ok (.iaload, 1) := by decide +kernel
theorem dX8_sheet_29 : decode cX8_sheet 29 = .ok (.imul, 1) := by decide +kernel
theorem dX8_sheet_30 : decode cX8_sheet 30 = .ok (.iadd, 1) := by decide +kernel
theorem dX8_sheet_31 : decode cX8_sheet 31 = .ok (.iastore, 1) := by decide +kernel
theorem dX8_sheet_32 : decode cX8_sheet 32 = .ok (.aload_n 0, 1) := by decide +kernel
theorem dX8_sheet_33 : decode cX8_sheet 33 = .ok (.dup, 1) := by decide +kernel
theorem dX8_sheet_34 : decode cX8_sheet 34 = .ok (.getfield 90, 3) := by decide +kernel
theorem dX8_sheet_37 : decode cX8_sheet 37 = .ok (.aload_n 0, 1) := by decide +kernel
theorem dX8_sheet_38 : decode cX8_sheet 38 = .ok (.getfield 20, 3) := by decide +kernel
theorem dX8_sheet_41 : decode cX8_sheet 41 = .ok (.iload_n 1, 1) := by decide +kernel
theorem dX8_sheet_42 : decode cX8_sheet 42 = .ok (.iaload, 1) := by decide +kernel
theorem dX8_sheet_43 : decode cX8_sheet 43 = .ok (.aload_n 0, 1) := by decide +kernel
theorem dX8_sheet_44 : decode cX8_sheet 44 = .ok (.getfield 16, 3) := by decide +kernel
theorem dX8_sheet_47 : decode cX8_sheet 47 = .ok (.iconst 0, 1) := by decide +kernel
theorem dX8_sheet_48 : decode cX8_sheet 48 = .ok (.iaload, 1) := by decide +kernel
theorem dX8_sheet_49 : decode cX8_sheet 49 = .ok (.imul, 1) := by decide +kernel
theorem dX8_sheet_50 : decode cX8_sheet 50 = .ok (.iadd, 1) := by decide +kernel
theorem dX8_sheet_51 : decode cX8_sheet 51 = .ok (.putfield 90, 3) := by decide +kernel
theorem dX8_sheet_54 : decode cX8_sheet 54 = .ok (.iinc 1 1, 3) := by decide +kernel
theorem dX8_sheet_57 : decode cX8_sheet 57 = .ok (.goto (-55), 3) := by decide +kernel
theorem dX8_sheet_60 : decode cX8_sheet 60 = .ok (.iconst 0, 1) := by decide +kernel
theorem dX8_sheet_61 : decode cX8_sheet 61 = .ok (.istore_n 1, 1) := by decide +kernel
theorem dX8_sheet_62 : decode cX8_sheet 62 = .ok (.iload_n 1, 1) := by decide +kernel
theorem dX8_sheet_63 : decode cX8_sheet 63 = .ok (.iconst 1, 1) := by decide +kernel
theorem dX8_sheet_64 : decode cX8_sheet 64 = .ok (.iadd, 1) := by decide +kernel
theorem dX8_sheet_65 : decode cX8_sheet 65 = .ok (.aload_n 0, 1) := by decide +kernel
theorem dX8_sheet_66 : decode cX8_sheet 66 = .ok (.getfield 13, 3) := by decide +kernel
theorem dX8_sheet_69 : decode cX8_sheet 69 = .ok (.if_icmp .ge 79, 3) := by decide +kernel
theorem dX8_sheet_72 : decode cX8_sheet 72 = .ok (.iconst 0, 1) := by decide +kernel
theorem dX8_sheet_73 : decode cX8_sheet 73 = .ok (.istore_n 2, 1) := by decide +kernel
theorem dX8_sheet_74 : decode cX8_sheet 74 = .ok (.iload_n 2, 1) := by decide +kernel
theorem dX8_sheet_75 : decode cX8_sheet 75 = .ok (.aload_n 0, 1) := by decide +kernel
theorem dX8_sheet_76 : decode cX8_sheet 76 = .ok (.getfield 7, 3) := by decide +kernel
theorem dX8_sheet_79 : decode cX8_sheet 79 = .ok (.if_icmp .ge 63, 3) := by decide +kernel
theorem dX8_sheet_82 : decode cX8_sheet 82 = .ok (.bipush 8, 2) := by decide +kernel
theorem dX8_sheet_84 : decode cX8_sheet 84 = .ok (.iload_n 1, 1) := by decide +kernel
theorem dX8_sheet_85 : decode cX8_sheet 85 = .ok (.imul, 1) := by decide +kernel
theorem dX8_sheet_86 : decode cX8_sheet 86 = .ok (.iload_n 2, 1) := by decide +kernel
theorem dX8_sheet_87 : decode cX8_sheet 87 = .ok (.iadd, 1) := by decide +kernel
theorem dX8_sheet_88 : decode cX8_sheet 88 = .ok (.istore_n 3, 1) := by decide +kernel
theorem dX8_sheet_89 : decode cX8_sheet 89 = .ok (.aload_n 0, 1) := by decide +kernel
theorem dX8_sheet_90 : decode cX8_sheet 90 = .ok (.getfield 29, 3) := by decide +kernel
theorem dX8_sheet_93 : decode cX8_sheet 93 = .ok (.iload_n 3, 1) := by decide +kernel
theorem dX8_sheet_94 : decode cX8_sheet 94 = .ok (.iaload, 1) := by decide +kernel
theorem dX8_sheet_95 : decode cX8_sheet 95 = .ok (.i2l, 1) := by decide +kernel
theorem dX8_sheet_96 : decode cX8_sheet 96 = .ok (.aload_n 0, 1) := by decide +kernel
theorem dX8_sheet_97 : decode cX8_sheet 97 = .ok (.getfield 16, 3) := by decide +kernel
theorem dX8_sheet_100 : decode cX8_sheet 100 = .ok (.iconst 1, 1) := by decide +kernel
theorem dX8_sheet_101 : decode cX8_sheet 101 = .ok (.iaload, 1) := by decide +kernel
theorem dX8_sheet_102 : decode cX8_sheet 102 = .ok (.i2l, 1) := by decide +kernel
theorem dX8_sheet_103 : decode cX8_sheet 103 = .ok (.lmul, 1) := by decide +kernel
theorem dX8_sheet_104 : decode cX8_sheet 104 = .ok (.ldc2_w 125, 3) := by decide +kernel
theorem dX8_sheet_107 : decode cX8_sheet 107 = .ok (.ldiv, 1) := by decide +kernel
theorem dX8_sheet_108 : decode cX8_sheet 108 = .ok (.l2i, 1) := by decide +kernel
theorem dX8_sheet_109 : decode cX8_sheet 109 = .ok (.istore 4, 2) := by decide +kernel
theorem dX8_sheet_111 : decode cX8_sheet 111 = .ok (.aload_n 0, 1) := by decide +kernel
theorem dX8_sheet_112 : decode cX8_sheet 112 = .ok (.getfield 29, 3) := by decide +kernel
theorem dX8_sheet_115 : decode cX8_sheet 115 = .ok (.iload_n 3, 1) := by decide +kernel
theorem dX8_sheet_116 : decode cX8_sheet 116 = .ok (.dup2, 1) := by decide +kernel
theorem dX8_sheet_117 : decode cX8_sheet 117 = .ok (.iaload, 1) := by decide +kernel
theorem dX8_sheet_118 : decode cX8_sheet 118 = .ok (.iload 4, 2) := by decide +kernel
theorem dX8_sheet_120 : decode cX8_sheet 120 = .ok (.isub, 1) := by decide +kernel
theorem dX8_sheet_121 : decode cX8_sheet 121 = .ok (.iastore, 1) := by decide +kernel
theorem dX8_sheet_122 : decode cX8_sheet 122 = .ok (.aload_n 0, 1) := by decide +kernel
theorem dX8_sheet_123 : decode cX8_sheet 123 = .ok (.getfield 29, 3) := by decide +kernel
theorem dX8_sheet_126 : decode cX8_sheet 126 = .ok (.iload_n 3, 1) := by decide +kernel
theorem dX8_sheet_127 : decode cX8_sheet 127 = .ok (.bipush 8, 2) := by decide +kernel
theorem dX8_sheet_129 : decode cX8_sheet 129 = .ok (.iadd, 1) := by decide +kernel
theorem dX8_sheet_130 : decode cX8_sheet 130 = .ok (.dup2, 1) := by decide +kernel
theorem dX8_sheet_131 : decode cX8_sheet 131 = .ok (.iaload, 1) := by decide +kernel
theorem dX8_sheet_132 : decode cX8_sheet 132 = .ok (.iload 4, 2) := by decide +kernel
theorem dX8_sheet_134 : decode cX8_sheet 134 = .ok (.iadd, 1) := by decide +kernel
theorem dX8_sheet_135 : decode cX8_sheet 135 = .ok (.iastore, 1) := by decide +kernel
theorem dX8_sheet_136 : decode cX8_sheet 136 = .ok (.iinc 2 1, 3) := by decide +kernel
theorem dX8_sheet_139 : decode cX8_sheet 139 = .ok (.goto (-65), 3) := by decide +kernel
theorem dX8_sheet_142 : decode cX8_sheet 142 = .ok (.iinc 1 1, 3) := by decide +kernel
theorem dX8_sheet_145 : decode cX8_sheet 145 = .ok (.goto (-83), 3) := by decide +kernel
theorem dX8_sheet_148 : decode cX8_sheet 148 = .ok (.iconst 0, 1) := by decide +kernel
theorem dX8_sheet_149 : decode cX8_sheet 149 = .ok (.istore_n 1, 1) := by decide +kernel
theorem dX8_sheet_150 : decode cX8_sheet 150 = .ok (.iload_n 1, 1) := by decide +kernel
theorem dX8_sheet_151 : decode cX8_sheet 151 = .ok (.aload_n 0, 1) := by decide +kernel
theorem dX8_sheet_152 : decode cX8_sheet 152 = .ok (.getfield 13, 3) := by decide +kernel
theorem dX8_sheet_155 : decode cX8_sheet 155 = .ok (.if_icmp .ge 14, 3) := by decide +kernel
theorem dX8_sheet_158 : decode cX8_sheet 158 = .ok (.aload_n 0, 1) := by decide +kernel
theorem dX8_sheet_159 : decode cX8_sheet 159 = .ok (.iload_n 1, 1) := by decide +kernel
theorem dX8_sheet_160 : decode cX8_sheet 160 = .ok (.invokevirtual 131, 3) := by decide +kernel
theorem dX8_sheet_163 : decode cX8_sheet 163 = .ok (.iinc 1 1, 3) := by decide +kernel
theorem dX8_sheet_166 : decode cX8_sheet 166 = .ok (.goto (-16), 3) := by decide +kernel
theorem dX8_sheet_169 : decode cX8_sheet 169 = .ok (.iconst 1, 1) := by decide +kernel
theorem dX8_sheet_170 : decode cX8_sheet 170 = .ok (.istore_n 1, 1) := by decide +kernel
theorem dX8_sheet_171 : decode cX8_sheet 171 = .ok (.iconst 0, 1) := by decide +kernel
theorem dX8_sheet_172 : decode cX8_sheet 172 = .ok (.istore_n 2, 1) := by decide +kernel
theorem dX8_sheet_173 : decode cX8_sheet 173 = .ok (.iload_n 2, 1) := by decide +kernel
theorem dX8_sheet_174 : decode cX8_sheet 174 = .ok (.aload_n 0, 1) := by decide +kernel
theorem dX8_sheet_175 : decode cX8_sheet 175 = .ok (.getfield 7, 3) := by decide +kernel
theorem dX8_sheet_178 : decode cX8_sheet 178 = .ok (.if_icmp .ge 165, 3) := by decide +kernel
theorem dX8_sheet_181 : decode cX8_sheet 181 = .ok (.bipush 8, 2) := by decide +kernel
theorem dX8_sheet_183 : decode cX8_sheet 183 = .ok (.aload_n 0, 1) := by decide +kernel
theorem dX8_sheet_184 : decode cX8_sheet 184 = .ok (.getfield 13, 3) := by decide +kernel
theorem dX8_sheet_187 : decode cX8_sheet 187 = .ok (.iconst 1, 1) := by decide +kernel
theorem dX8_sheet_188 : decode cX8_sheet 188 = .ok (.isub, 1) := by decide +kernel
theorem dX8_sheet_189 : decode cX8_sheet 189 = .ok (.imul, 1) := by decide +kernel
theorem dX8_sheet_190 : decode cX8_sheet 190 = .ok (.iload_n 2, 1) := by decide +kernel
theorem dX8_sheet_191 : decode cX8_sheet 191 = .ok (.iadd, 1) := by decide +kernel
theorem dX8_sheet_192 : decode cX8_sheet 192 = .ok (.istore_n 3, 1) := by decide +kernel
theorem dX8_sheet_193 : decode cX8_sheet 193 = .ok (.aload_n 0, 1) := by decide +kernel
theorem dX8_sheet_194 : decode cX8_sheet 194 = .ok (.getfield 29, 3) := by decide +kernel
theorem dX8_sheet_197 : decode cX8_sheet 197 = .ok (.iload_n 3, 1) := by decide +kernel
theorem dX8_sheet_198 : decode cX8_sheet 198 = .ok (.iaload, 1) := by decide +kernel
theorem dX8_sheet_199 : decode cX8_sheet 199 = .ok (.i2l, 1) := by decide +kernel
theorem dX8_sheet_200 : decode cX8_sheet 200 = .ok (.aload_n 0, 1) := by decide +kernel
theorem dX8_sheet_201 : decode cX8_sheet 201 = .ok (.getfield 16, 3) := by decide +kernel
theorem dX8_sheet_204 : decode cX8_sheet 204 = .ok (.iconst 3, 1) := by decide +kernel
theorem dX8_sheet_205 : decode cX8_sheet 205 = .ok (.iaload, 1) := by decide +kernel
theorem dX8_sheet_206 : decode cX8_sheet 206 = .ok (.i2l, 1) := by decide +kernel
theorem dX8_sheet_207 : decode cX8_sheet 207 = .ok (.lmul, 1) := by decide +kernel
theorem dX8_sheet_208 : decode cX8_sheet 208 = .ok (.aload_n 0, 1) := by decide +kernel
theorem dX8_sheet_209 : decode cX8_sheet 209 = .ok (.getfield 23, 3) := by decide +kernel
theorem dX8_sheet_212 : decode cX8_sheet 212 = .ok (.iload_n 2, 1) := by decide +kernel
theorem dX8_sheet_213 : decode cX8_sheet 213 = .ok (.iaload, 1) := by decide +kernel
theorem dX8_sheet_214 : decode cX8_sheet 214 = .ok (.i2l, 1) := by decide +kernel
theorem dX8_sheet_215 : decode cX8_sheet 215 = .ok (.lmul, 1) := by decide +kernel
theorem dX8_sheet_216 : decode cX8_sheet 216 = .ok (.ldc2_w 135, 3) := by decide +kernel
theorem dX8_sheet_219 : decode cX8_sheet 219 = .ok (.ldiv, 1) := by decide +kernel
theorem dX8_sheet_220 : decode cX8_sheet 220 = .ok (.l2i, 1) := by decide +kernel
theorem dX8_sheet_221 : decode cX8_sheet 221 = .ok (.istore 4, 2) := by decide +kernel
theorem dX8_sheet_223 : decode cX8_sheet 223 = .ok (.aload_n 0, 1) := by decide +kernel
theorem dX8_sheet_224 : decode cX8_sheet 224 = .ok (.getfield 29, 3) := by decide +kernel
theorem dX8_sheet_227 : decode cX8_sheet 227 = .ok (.iload_n 3, 1) := by decide +kernel
theorem dX8_sheet_228 : decode cX8_sheet 228 = .ok (.iaload, 1) := by decide +kernel
theorem dX8_sheet_229 : decode cX8_sheet 229 = .ok (.bipush 100, 2) := by decide +kernel
theorem dX8_sheet_231 : decode cX8_sheet 231 = .ok (.idiv, 1) := by decide +kernel
theorem dX8_sheet_232 : decode cX8_sheet 232 = .ok (.istore 5, 2) := by decide +kernel
theorem dX8_sheet_234 : decode cX8_sheet 234 = .ok (.aload_n 0, 1) := by decide +kernel
theorem dX8_sheet_235 : decode cX8_sheet 235 = .ok (.getfield 29, 3) := by decide +kernel
theorem dX8_sheet_238 : decode cX8_sheet 238 = .ok (.iload_n 3, 1) := by decide +kernel
theorem dX8_sheet_239 : decode cX8_sheet 239 = .ok (.dup2, 1) := by decide +kernel
theorem dX8_sheet_240 : decode cX8_sheet 240 = .ok (.iaload, 1) := by decide +kernel
theorem dX8_sheet_241 : decode cX8_sheet 241 = .ok (.iload 4, 2) := by decide +kernel
theorem dX8_sheet_243 : decode cX8_sheet 243 = .ok (.iload 5, 2) := by decide +kernel
theorem dX8_sheet_245 : decode cX8_sheet 245 = .ok (.iadd, 1) := by decide +kernel
theorem dX8_sheet_246 : decode cX8_sheet 246 = .ok (.isub, 1) := by decide +kernel
theorem dX8_sheet_247 : decode cX8_sheet 247 = .ok (.iastore, 1) := by decide +kernel
theorem dX8_sheet_248 : decode cX8_sheet 248 = .ok (.aload_n 0, 1) := by decide +kernel
theorem dX8_sheet_249 : decode cX8_sheet 249 = .ok (.dup, 1) := by decide +kernel
theorem dX8_sheet_250 : decode cX8_sheet 250 = .ok (.getfield 93, 3) := by decide +kernel
theorem dX8_sheet_253 : decode cX8_sheet 253 = .ok (.iload 4, 2) := by decide +kernel
theorem dX8_sheet_255 : decode cX8_sheet 255 = .ok (.iadd, 1) := by decide +kernel
theorem dX8_sheet_256 : decode cX8_sheet 256 = .ok (.putfield 93, 3) := by decide +kernel
theorem dX8_sheet_259 : decode cX8_sheet 259 = .ok (.aload_n 0, 1) := by decide +kernel
theorem dX8_sheet_260 : decode cX8_sheet 260 = .ok (.dup, 1) := by decide +kernel
theorem dX8_sheet_261 : decode cX8_sheet 261 = .ok (.getfield 96, 3) := by decide +kernel
theorem dX8_sheet_264 : decode cX8_sheet 264 = .ok (.iload 5, 2) := by decide +kernel
theorem dX8_sheet_266 : decode cX8_sheet 266 = .ok (.iadd, 1) := by decide +kernel
theorem dX8_sheet_267 : decode cX8_sheet 267 = .ok (.putfield 96, 3) := by decide +kernel
theorem dX8_sheet_270 : decode cX8_sheet 270 = .ok (.bipush 10, 2) := by decide +kernel
theorem dX8_sheet_272 : decode cX8_sheet 272 = .ok (.iload 5, 2) := by decide +kernel
theorem dX8_sheet_274 : decode cX8_sheet 274 = .ok (.imul, 1) := by decide +kernel
theorem dX8_sheet_275 : decode cX8_sheet 275 = .ok (.istore 6, 2) := by decide +kernel
theorem dX8_sheet_277 : decode cX8_sheet 277 = .ok (.aload_n 0, 1) := by decide +kernel
theorem dX8_sheet_278 : decode cX8_sheet 278 = .ok (.getfield 32, 3) := by decide +kernel
theorem dX8_sheet_281 : decode cX8_sheet 281 = .ok (.bipush 8, 2) := by decide +kernel
theorem dX8_sheet_283 : decode cX8_sheet 283 = .ok (.aload_n 0, 1) := by decide +kernel
theorem dX8_sheet_284 : decode cX8_sheet 284 = .ok (.getfield 81, 3) := by decide +kernel
theorem dX8_sheet_287 : decode cX8_sheet 287 = .ok (.imul, 1) := by decide +kernel
theorem dX8_sheet_288 : decode cX8_sheet 288 = .ok (.iload_n 2, 1) := by decide +kernel
theorem dX8_sheet_289 : decode cX8_sheet 289 = .ok (.iadd, 1) := by decide +kernel
theorem dX8_sheet_290 : decode cX8_sheet 290 = .ok (.iload 6, 2) := by decide +kernel
theorem dX8_sheet_292 : decode cX8_sheet 292 = .ok (.iastore, 1) := by decide +kernel
theorem dX8_sheet_293 : decode cX8_sheet 293 = .ok (.iload 6, 2) := by decide +kernel
theorem dX8_sheet_295 : decode cX8_sheet 295 = .ok (.aload_n 0, 1) := by decide +kernel
theorem dX8_sheet_296 : decode cX8_sheet 296 = .ok (.getfield 26, 3) := by decide +kernel
theorem dX8_sheet_299 : decode cX8_sheet 299 = .ok (.iload_n 2, 1) := by decide +kernel
theorem dX8_sheet_300 : decode cX8_sheet 300 = .ok (.iaload, 1) := by decide +kernel
theorem dX8_sheet_301 : decode cX8_sheet 301 = .ok (.isub, 1) := by decide +kernel
theorem dX8_sheet_302 : decode cX8_sheet 302 = .ok (.istore 7, 2) := by decide +kernel
theorem dX8_sheet_304 : decode cX8_sheet 304 = .ok (.iload_n 1, 1) := by decide +kernel
theorem dX8_sheet_305 : decode cX8_sheet 305 = .ok (.ifCond .eq 30, 3) := by decide +kernel
theorem dX8_sheet_308 : decode cX8_sheet 308 = .ok (.iload 7, 2) := by decide +kernel
theorem dX8_sheet_310 : decode cX8_sheet 310 = .ok (.ifCond .ge 9, 3) := by decide +kernel
theorem dX8_sheet_313 : decode cX8_sheet 313 = .ok (.iload 7, 2) := by decide +kernel
theorem dX8_sheet_315 : decode cX8_sheet 315 = .ok (.ineg, 1) := by decide +kernel
theorem dX8_sheet_316 : decode cX8_sheet 316 = .ok (.goto 5, 3) := by decide +kernel
theorem dX8_sheet_319 : decode cX8_sheet 319 = .ok (.iload 7, 2) := by decide +kernel
theorem dX8_sheet_321 : decode cX8_sheet 321 = .ok (.aload_n 0, 1) := by decide +kernel
theorem dX8_sheet_322 : decode cX8_sheet 322 = .ok (.getfield 16, 3) := by decide +kernel
theorem dX8_sheet_325 : decode cX8_sheet 325 = .ok (.bipush 6, 2) := by decide +kernel
theorem dX8_sheet_327 : decode cX8_sheet 327 = .ok (.iaload, 1) := by decide +kernel
theorem dX8_sheet_328 : decode cX8_sheet 328 = .ok (.if_icmp .gt 7, 3) := by decide +kernel
theorem dX8_sheet_331 : decode cX8_sheet 331 = .ok (.iconst 1, 1) := by decide +kernel
theorem dX8_sheet_332 : decode cX8_sheet 332 = .ok (.goto 4, 3) := by decide +kernel
theorem dX8_sheet_335 : decode cX8_sheet 335 = .ok (.iconst 0, 1) := by decide +kernel
theorem dX8_sheet_336 : decode cX8_sheet 336 = .ok (.istore_n 1, 1) := by decide +kernel
theorem dX8_sheet_337 : decode cX8_sheet 337 = .ok (.iinc 2 1, 3) := by decide +kernel
theorem dX8_sheet_340 : decode cX8_sheet 340 = .ok (.goto (-167), 3) := by decide +kernel
theorem dX8_sheet_343 : decode cX8_sheet 343 = .ok (.aload_n 0, 1) := by decide +kernel
theorem dX8_sheet_344 : decode cX8_sheet 344 = .ok (.getfield 35, 3) := by decide +kernel
theorem dX8_sheet_347 : decode cX8_sheet 347 = .ok (.aload_n 0, 1) := by decide +kernel
theorem dX8_sheet_348 : decode cX8_sheet 348 = .ok (.getfield 81, 3) := by decide +kernel
theorem dX8_sheet_351 : decode cX8_sheet 351 = .ok (.iload_n 1, 1) := by decide +kernel
theorem dX8_sheet_352 : decode cX8_sheet 352 = .ok (.bastore, 1) := by decide +kernel
theorem dX8_sheet_353 : decode cX8_sheet 353 = .ok (.aload_n 0, 1) := by decide +kernel
theorem dX8_sheet_354 : decode cX8_sheet 354 = .ok (.dup, 1) := by decide +kernel
theorem dX8_sheet_355 : decode cX8_sheet 355 = .ok (.getfield 81, 3) := by decide +kernel
theorem dX8_sheet_358 : decode cX8_sheet 358 = .ok (.iconst 1, 1) := by decide +kernel
theorem dX8_sheet_359 : decode cX8_sheet 359 = .ok (.iadd, 1) := by decide +kernel
theorem dX8_sheet_360 : decode cX8_sheet 360 = .ok (.putfield 81, 3) := by decide +kernel
theorem dX8_sheet_363 : decode cX8_sheet 363 = .ok (.aload_n 0, 1) := by decide +kernel
theorem dX8_sheet_364 : decode cX8_sheet 364 = .ok (.dup, 1) := by decide +kernel
theorem dX8_sheet_365 : decode cX8_sheet 365 = .ok (.getfield 84, 3) := by decide +kernel
theorem dX8_sheet_368 : decode cX8_sheet 368 = .ok (.iload_n 1, 1) := by decide +kernel
theorem dX8_sheet_369 : decode cX8_sheet 369 = .ok (.ifCond .eq 7, 3) := by decide +kernel
theorem dX8_sheet_372 : decode cX8_sheet 372 = .ok (.iconst 1, 1) := by decide +kernel
theorem dX8_sheet_373 : decode cX8_sheet 373 = .ok (.goto 4, 3) := by decide +kernel
theorem dX8_sheet_376 : decode cX8_sheet 376 = .ok (.iconst 0, 1) := by decide +kernel
theorem dX8_sheet_377 : decode cX8_sheet 377 = .ok (.iadd, 1) := by decide +kernel
theorem dX8_sheet_378 : decode cX8_sheet 378 = .ok (.putfield 84, 3) := by decide +kernel
theorem dX8_sheet_381 : decode cX8_sheet 381 = .ok (.aload_n 0, 1) := by decide +kernel
theorem dX8_sheet_382 : decode cX8_sheet 382 = .ok (.iload_n 1, 1) := by decide +kernel
theorem dX8_sheet_383 : decode cX8_sheet 383 = .ok (.ifCond .eq 12, 3) := by decide +kernel
theorem dX8_sheet_386 : decode cX8_sheet 386 = .ok (.aload_n 0, 1) := by decide +kernel
theorem dX8_sheet_387 : decode cX8_sheet 387 = .ok (.getfield 87, 3) := by decide +kernel
theorem dX8_sheet_390 : decode cX8_sheet 390 = .ok (.iconst 1, 1) := by decide +kernel
theorem dX8_sheet_391 : decode cX8_sheet 391 = .ok (.iadd, 1) := by decide +kernel
theorem dX8_sheet_392 : decode cX8_sheet 392 = .ok (.goto 4, 3) := by decide +kernel
theorem dX8_sheet_395 : decode cX8_sheet 395 = .ok (.iconst 0, 1) := by decide +kernel
theorem dX8_sheet_396 : decode cX8_sheet 396 = .ok (.putfield 87, 3) := by decide +kernel
theorem dX8_sheet_399 : decode cX8_sheet 399 = .ok (.aload_n 0, 1) := by decide +kernel
theorem dX8_sheet_400 : decode cX8_sheet 400 = .ok (.aload_n 0, 1) := by decide +kernel
theorem dX8_sheet_401 : decode cX8_sheet 401 = .ok (.getfield 39, 3) := by decide +kernel
theorem dX8_sheet_404 : decode cX8_sheet 404 = .ok (.ifCond .ge 24, 3) := by decide +kernel
theorem dX8_sheet_407 : decode cX8_sheet 407 = .ok (.aload_n 0, 1) := by decide +kernel
theorem dX8_sheet_408 : decode cX8_sheet 408 = .ok (.getfield 87, 3) := by decide +kernel
theorem dX8_sheet_411 : decode cX8_sheet 411 = .ok (.aload_n 0, 1) := by decide +kernel
theorem dX8_sheet_412 : decode cX8_sheet 412 = .ok (.getfield 16, 3) := by decide +kernel
theorem dX8_sheet_415 : decode cX8_sheet 415 = .ok (.bipush 8, 2) := by decide +kernel
theorem dX8_sheet_417 : decode cX8_sheet 417 = .ok (.iaload, 1) := by decide +kernel
theorem dX8_sheet_418 : decode cX8_sheet 418 = .ok (.if_icmp .lt 10, 3) := by decide +kernel
theorem dX8_sheet_421 : decode cX8_sheet 421 = .ok (.aload_n 0, 1) := by decide +kernel
theorem dX8_sheet_422 : decode cX8_sheet 422 = .ok (.getfield 81, 3) := by decide +kernel
theorem dX8_sheet_425 : decode cX8_sheet 425 = .ok (.goto 7, 3) := by decide +kernel
theorem dX8_sheet_428 : decode cX8_sheet 428 = .ok (.aload_n 0, 1) := by decide +kernel
theorem dX8_sheet_429 : decode cX8_sheet 429 = .ok (.getfield 39, 3) := by decide +kernel
theorem dX8_sheet_432 : decode cX8_sheet 432 = .ok (.putfield 39, 3) := by decide +kernel
theorem dX8_sheet_435 : decode cX8_sheet 435 = .ok (.aload_n 0, 1) := by decide +kernel
theorem dX8_sheet_436 : decode cX8_sheet 436 = .ok (.getfield 99, 3) := by decide +kernel
theorem dX8_sheet_439 : decode cX8_sheet 439 = .ok (.ifCond .eq 22, 3) := by decide +kernel
theorem dX8_sheet_442 : decode cX8_sheet 442 = .ok (.aload_n 0, 1) := by decide +kernel
theorem dX8_sheet_443 : decode cX8_sheet 443 = .ok (.getfield 81, 3) := by decide +kernel
theorem dX8_sheet_446 : decode cX8_sheet 446 = .ok (.aload_n 0, 1) := by decide +kernel
theorem dX8_sheet_447 : decode cX8_sheet 447 = .ok (.getfield 16, 3) := by decide +kernel
theorem dX8_sheet_450 : decode cX8_sheet 450 = .ok (.bipush 7, 2) := by decide +kernel
theorem dX8_sheet_452 : decode cX8_sheet 452 = .ok (.iaload, 1) := by decide +kernel
theorem dX8_sheet_453 : decode cX8_sheet 453 = .ok (.irem, 1) := by decide +kernel
theorem dX8_sheet_454 : decode cX8_sheet 454 = .ok (.ifCond .ne 7, 3) := by decide +kernel
theorem dX8_sheet_457 : decode cX8_sheet 457 = .ok (.aload_n 0, 1) := by decide +kernel
theorem dX8_sheet_458 : decode cX8_sheet 458 = .ok (.invokevirtual 137, 3) := by decide +kernel
theorem dX8_sheet_461 : decode cX8_sheet 461 = .ok (.return_, 1) := by decide +kernel
theorem dX8_held_0 : decode cX8_held 0 = .ok (.iload_n 0, 1) := by decide +kernel
theorem dX8_held_1 : decode cX8_held 1 = .ok (.iload_n 1, 1) := by decide +kernel
theorem dX8_held_2 : decode cX8_held 2 = .ok (.if_icmp .ge 7, 3) := by decide +kernel
theorem dX8_held_5 : decode cX8_held 5 = .ok (.iload_n 1, 1) := by decide +kernel
theorem dX8_held_6 : decode cX8_held 6 = .ok (.goto 13, 3) := by decide +kernel
theorem dX8_held_9 : decode cX8_held 9 = .ok (.iload_n 0, 1) := by decide +kernel
theorem dX8_held_10 : decode cX8_held 10 = .ok (.iload_n 2, 1) := by decide +kernel
theorem dX8_held_11 : decode cX8_held 11 = .ok (.if_icmp .le 7, 3) := by decide +kernel
theorem dX8_held_14 : decode cX8_held 14 = .ok (.iload_n 2, 1) := by decide +kernel
theorem dX8_held_15 : decode cX8_held 15 = .ok (.goto 4, 3) := by decide +kernel
theorem dX8_held_18 : decode cX8_held 18 = .ok (.iload_n 0, 1) := by decide +kernel
theorem dX8_held_19 : decode cX8_held 19 = .ok (.ireturn, 1) := by decide +kernel
set_option maxRecDepth 20000 in
theorem ggX8_steerKeys_X8_densityOf : GoodIn wsX8_steerKeys wsX8_densityOf := goodIn_r _ [10, 11, 15, 16, 17, 18, 19, 20, 21, 22, 23, 24, 25, 26, 27, 28, 29, 30, 31, 32, 33, 34, 35, 36, 37, 38, 39, 40, 41, 42, 43, 44, 45, 46, 47, 48, 49, 50, 51] rfl (by decide +kernel)
set_option maxRecDepth 20000 in
theorem gX8_steerKeys_X8_densityOf : GoodIn wsX8_steerKeys (wsV RX8 127 RX8 yX8_densityOf wsX8_densityOf) := goodIn_app (goodIn_of _ (by decide +kernel)) ggX8_steerKeys_X8_densityOf
set_option maxRecDepth 20000 in
theorem ggX8_steerKeys_X8_held : GoodIn wsX8_steerKeys wsX8_held := goodIn_r _ [14] rfl (by decide +kernel)
set_option maxRecDepth 20000 in
theorem gX8_steerKeys_X8_held : GoodIn wsX8_steerKeys (va_wsS RX8 140 yX8_held wsX8_held) := goodIn_app (goodIn_of _ (by decide +kernel)) ggX8_steerKeys_X8_held
theorem dX8_steerKeys_0 : decode cX8_steerKeys 0 = .ok (.iconst 0, 1) := by decide +kernel
theorem dX8_steerKeys_1 : decode cX8_steerKeys 1 = .ok (.istore_n 1, 1) := by decide +kernel
theorem dX8_steerKeys_2 : decode cX8_steerKeys 2 = .ok (.iload_n 1, 1) := by decide +kernel
theorem dX8_steerKeys_3 : decode cX8_steerKeys 3 = .ok (.aload_n 0, 1) := by decide +kernel
theorem dX8_steerKeys_4 : decode cX8_steerKeys 4 = .ok (.getfield 7, 3) := by decide +kernel
theorem dX8_steerKeys_7 : decode cX8_steerKeys 7 = .ok (.if_icmp .ge 73, 3) := by decide +kernel
theorem dX8_steerKeys_10 : decode cX8_steerKeys 10 = .ok (.aload_n 0, 1) := by decide +kernel
theorem dX8_steerKeys_11 : decode cX8_steerKeys 11 = .ok (.getfield 26, 3) := by decide +kernel
theorem dX8_steerKeys_14 : decode cX8_steerKeys 14 = .ok (.iload_n 1, 1) := by decide +kernel
theorem dX8_steerKeys_15 : decode cX8_steerKeys 15 = .ok (.iaload, 1) := by decide +kernel
theorem dX8_steerKeys_16 : decode cX8_steerKeys 16 = .ok (.aload_n 0, 1) := by decide +kernel
theorem dX8_steerKeys_17 : decode cX8_steerKeys 17 = .ok (.aload_n 0, 1) := by decide +kernel
theorem dX8_steerKeys_18 : decode cX8_steerKeys 18 = .ok (.getfield 81, 3) := by decide +kernel
theorem dX8_steerKeys_21 : decode cX8_steerKeys 21 = .ok (.iload_n 1, 1) := by decide +kernel
theorem dX8_steerKeys_22 : decode cX8_steerKeys 22 = .ok (.invokevirtual 127, 3) := by decide +kernel
theorem dX8_steerKeys_25 : decode cX8_steerKeys 25 = .ok (.isub, 1) := by decide +kernel
theorem dX8_steerKeys_26 : decode cX8_steerKeys 26 = .ok (.aload_n 0, 1) := by decide +kernel
theorem dX8_steerKeys_27 : decode cX8_steerKeys 27 = .ok (.getfield 16, 3) := by decide +kernel
theorem dX8_steerKeys_30 : decode cX8_steerKeys 30 = .ok (.iconst 4, 1) := by decide +kernel
theorem dX8_steerKeys_31 : decode cX8_steerKeys 31 = .ok (.iaload, 1) := by decide +kernel
theorem dX8_steerKeys_32 : decode cX8_steerKeys 32 = .ok (.imul, 1) := by decide +kernel
theorem dX8_steerKeys_33 : decode cX8_steerKeys 33 = .ok (.sipush 1000, 3) := by decide +kernel
theorem dX8_steerKeys_36 : decode cX8_steerKeys 36 = .ok (.idiv, 1) := by decide +kernel
theorem dX8_steerKeys_37 : decode cX8_steerKeys 37 = .ok (.aload_n 0, 1) := by decide +kernel
theorem dX8_steerKeys_38 : decode cX8_steerKeys 38 = .ok (.getfield 16, 3) := by decide +kernel
theorem dX8_steerKeys_41 : decode cX8_steerKeys 41 = .ok (.iconst 5, 1) := by decide +kernel
theorem dX8_steerKeys_42 : decode cX8_steerKeys 42 = .ok (.iaload, 1) := by decide +kernel
theorem dX8_steerKeys_43 : decode cX8_steerKeys 43 = .ok (.ineg, 1) := by decide +kernel
theorem dX8_steerKeys_44 : decode cX8_steerKeys 44 = .ok (.aload_n 0, 1) := by decide +kernel
theorem dX8_steerKeys_45 : decode cX8_steerKeys 45 = .ok (.getfield 16, 3) := by decide +kernel
theorem dX8_steerKeys_48 : decode cX8_steerKeys 48 = .ok (.iconst 5, 1) := by decide +kernel
theorem dX8_steerKeys_49 : decode cX8_steerKeys 49 = .ok (.iaload, 1) := by decide +kernel
theorem dX8_steerKeys_50 : decode cX8_steerKeys 50 = .ok (.invokestatic 140, 3) := by decide +kernel
theorem dX8_steerKeys_53 : decode cX8_steerKeys 53 = .ok (.istore_n 2, 1) := by decide +kernel
theorem dX8_steerKeys_54 : decode cX8_steerKeys 54 = .ok (.aload_n 0, 1) := by decide +kernel
theorem dX8_steerKeys_55 : decode cX8_steerKeys 55 = .ok (.getfield 20, 3) := by decide +kernel
theorem dX8_steerKeys_58 : decode cX8_steerKeys 58 = .ok (.iload_n 1, 1) := by decide +kernel
theorem dX8_steerKeys_59 : decode cX8_steerKeys 59 = .ok (.aload_n 0, 1) := by decide +kernel
theorem dX8_steerKeys_60 : decode cX8_steerKeys 60 = .ok (.getfield 20, 3) := by decide +kernel
theorem dX8_steerKeys_63 : decode cX8_steerKeys 63 = .ok (.iload_n 1, 1) := by decide +kernel
theorem dX8_steerKeys_64 : decode cX8_steerKeys 64 = .ok (.iaload, 1) := by decide +kernel
theorem dX8_steerKeys_65 : decode cX8_steerKeys 65 = .ok (.iload_n 2, 1) := by decide +kernel
theorem dX8_steerKeys_66 : decode cX8_steerKeys 66 = .ok (.iadd, 1) := by decide +kernel
theorem dX8_steerKeys_67 : decode cX8_steerKeys 67 = .ok (.iconst 0, 1) := by decide +kernel
theorem dX8_steerKeys_68 : decode cX8_steerKeys 68 = .ok (.bipush 100, 2) := by decide +kernel
theorem dX8_steerKeys_70 : decode cX8_steerKeys 70 = .ok (.invokestatic 140, 3) := by decide +kernel
theorem dX8_steerKeys_73 : decode cX8_steerKeys 73 = .ok (.iastore, 1) := by decide +kernel
theorem dX8_steerKeys_74 : decode cX8_steerKeys 74 = .ok (.iinc 1 1, 3) := by decide +kernel
theorem dX8_steerKeys_77 : decode cX8_steerKeys 77 = .ok (.goto (-75), 3) := by decide +kernel
theorem dX8_steerKeys_80 : decode cX8_steerKeys 80 = .ok (.return_, 1) := by decide +kernel
set_option maxRecDepth 20000 in
theorem ggX8_print_X8_in : GoodIn wsX8_print wsX8_in := goodIn_r _ [6] rfl (by decide +kernel)
set_option maxRecDepth 20000 in
theorem gX8_print_X8_in : GoodIn wsX8_print (va_wsS RX8 103 yX8_in wsX8_in) := goodIn_app (goodIn_of _ (by decide +kernel)) ggX8_print_X8_in
set_option maxRecDepth 20000 in
theorem ggX8_print_X8_sheet : GoodIn wsX8_print wsX8_sheet := goodIn_r _ [10, 11, 12, 13, 14, 15, 16, 17, 18, 19, 20, 21, 22, 2, 23, 24, 25, 26, 27, 28, 29, 30, 31, 5, 32, 33, 34, 35, 36, 37, 38, 39, 40, 41, 42, 43, 44, 45, 46, 47, 48, 49, 50, 51, 52, 53, 54, 55, 56, 57, 58, 59, 60, 61, 62, 63, 64, 65, 66, 67, 68, 69, 70, 71, 72, 73, 74, 75, 76, 77, 78, 79, 80, 81] rfl (by decide +kernel)
set_option maxRecDepth 20000 in
theorem gX8_print_X8_sheet : GoodIn wsX8_print (wsV RX8 146 RX8 yX8_sheet wsX8_sheet) := goodIn_app (goodIn_of _ (by decide +kernel)) ggX8_print_X8_sheet
theorem dX8_print_0 : decode cX8_print 0 = .ok (.iload_n 1, 1) := by decide +kernel
theorem dX8_print_1 : decode cX8_print 1 = .ok (.i2l, 1) := by decide +kernel
theorem dX8_print_2 : decode cX8_print 2 = .ok (.lconst 1, 1) := by decide +kernel
theorem dX8_print_3 : decode cX8_print 3 = .ok (.ldc2_w 144, 3) := by decide +kernel
theorem dX8_print_6 : decode cX8_print 6 = .ok (.invokestatic 103, 3) := by decide +kernel
theorem dX8_print_9 : decode cX8_print 9 = .ok (.ifCond .ne 6, 3) := by decide +kernel
theorem dX8_print_12 : decode cX8_print 12 = .ok (.bipush (-2), 2) := by decide +kernel
theorem dX8_print_14 : decode cX8_print 14 = .ok (.ireturn, 1) := by decide +kernel
theorem dX8_print_15 : decode cX8_print 15 = .ok (.aload_n 0, 1) := by decide +kernel
theorem dX8_print_16 : decode cX8_print 16 = .ok (.getfield 81, 3) := by decide +kernel
theorem dX8_print_19 : decode cX8_print 19 = .ok (.iload_n 1, 1) := by decide +kernel
theorem dX8_print_20 : decode cX8_print 20 = .ok (.iadd, 1) := by decide +kernel
theorem dX8_print_21 : decode cX8_print 21 = .ok (.sipush 1000, 3) := by decide +kernel
theorem dX8_print_24 : decode cX8_print 24 = .ok (.if_icmp .le 6, 3) := by decide +kernel
theorem dX8_print_27 : decode cX8_print 27 = .ok (.bipush (-3), 2) := by decide +kernel
theorem dX8_print_29 : decode cX8_print 29 = .ok (.ireturn, 1) := by decide +kernel
theorem dX8_print_30 : decode cX8_print 30 = .ok (.iconst 0, 1) := by decide +kernel
theorem dX8_print_31 : decode cX8_print 31 = .ok (.istore_n 2, 1) := by decide +kernel
theorem dX8_print_32 : decode cX8_print 32 = .ok (.iload_n 2, 1) := by decide +kernel
theorem dX8_print_33 : decode cX8_print 33 = .ok (.iload_n 1, 1) := by decide +kernel
theorem dX8_print_34 : decode cX8_print 34 = .ok (.if_icmp .ge 13, 3) := by decide +kernel
theorem dX8_print_37 : decode cX8_print 37 = .ok (.aload_n 0, 1) := by decide +kernel
theorem dX8_print_38 : decode cX8_print 38 = .ok (.invokevirtual 146, 3) := by decide +kernel
theorem dX8_print_41 : decode cX8_print 41 = .ok (.iinc 2 1, 3) := by decide +kernel
theorem dX8_print_44 : decode cX8_print 44 = .ok (.goto (-12), 3) := by decide +kernel
theorem dX8_print_47 : decode cX8_print 47 = .ok (.aload_n 0, 1) := by decide +kernel
theorem dX8_print_48 : decode cX8_print 48 = .ok (.getfield 81, 3) := by decide +kernel
theorem dX8_print_51 : decode cX8_print 51 = .ok (.ireturn, 1) := by decide +kernel
theorem dX8_steer_0 : decode cX8_steer 0 = .ok (.aload_n 0, 1) := by decide +kernel
theorem dX8_steer_1 : decode cX8_steer 1 = .ok (.getfield 99, 3) := by decide +kernel
theorem dX8_steer_4 : decode cX8_steer 4 = .ok (.ifCond .eq 7, 3) := by decide +kernel
theorem dX8_steer_7 : decode cX8_steer 7 = .ok (.iconst 1, 1) := by decide +kernel
theorem dX8_steer_8 : decode cX8_steer 8 = .ok (.goto 4, 3) := by decide +kernel
theorem dX8_steer_11 : decode cX8_steer 11 = .ok (.iconst 0, 1) := by decide +kernel
theorem dX8_steer_12 : decode cX8_steer 12 = .ok (.istore_n 2, 1) := by decide +kernel
theorem dX8_steer_13 : decode cX8_steer 13 = .ok (.aload_n 0, 1) := by decide +kernel
theorem dX8_steer_14 : decode cX8_steer 14 = .ok (.iload_n 1, 1) := by decide +kernel
theorem dX8_steer_15 : decode cX8_steer 15 = .ok (.putfield 99, 3) := by decide +kernel
theorem dX8_steer_18 : decode cX8_steer 18 = .ok (.iload_n 2, 1) := by decide +kernel
theorem dX8_steer_19 : decode cX8_steer 19 = .ok (.ireturn, 1) := by decide +kernel
set_option maxRecDepth 20000 in
theorem ggX8_good_X8_in : GoodIn wsX8_good wsX8_in := goodIn_r _ [6] rfl (by decide +kernel)
set_option maxRecDepth 20000 in
theorem gX8_good_X8_in : GoodIn wsX8_good (va_wsS RX8 103 yX8_in wsX8_in) := goodIn_app (goodIn_of _ (by decide +kernel)) ggX8_good_X8_in
theorem dX8_good_0 : decode cX8_good 0 = .ok (.iload_n 1, 1) := by decide +kernel
theorem dX8_good_1 : decode cX8_good 1 = .ok (.i2l, 1) := by decide +kernel
theorem dX8_good_2 : decode cX8_good 2 = .ok (.lconst 1, 1) := by decide +kernel
theorem dX8_good_3 : decode cX8_good 3 = .ok (.aload_n 0, 1) := by decide +kernel
theorem dX8_good_4 : decode cX8_good 4 = .ok (.getfield 81, 3) := by decide +kernel
theorem dX8_good_7 : decode cX8_good 7 = .ok (.i2l, 1) := by decide +kernel
theorem dX8_good_8 : decode cX8_good 8 = .ok (.invokestatic 103, 3) := by decide +kernel
theorem dX8_good_11 : decode cX8_good 11 = .ok (.ifCond .ne 7, 3) := by decide +kernel
theorem dX8_good_14 : decode cX8_good 14 = .ok (.iconst (-1), 1) := by decide +kernel
theorem dX8_good_15 : decode cX8_good 15 = .ok (.goto 19, 3) := by decide +kernel
theorem dX8_good_18 : decode cX8_good 18 = .ok (.aload_n 0, 1) := by decide +kernel
theorem dX8_good_19 : decode cX8_good 19 = .ok (.getfield 35, 3) := by decide +kernel
theorem dX8_good_22 : decode cX8_good 22 = .ok (.iload_n 1, 1) := by decide +kernel
theorem dX8_good_23 : decode cX8_good 23 = .ok (.iconst 1, 1) := by decide +kernel
theorem dX8_good_24 : decode cX8_good 24 = .ok (.isub, 1) := by decide +kernel
theorem dX8_good_25 : decode cX8_good 25 = .ok (.baload, 1) := by decide +kernel
theorem dX8_good_26 : decode cX8_good 26 = .ok (.ifCond .eq 7, 3) := by decide +kernel
theorem dX8_good_29 : decode cX8_good 29 = .ok (.iconst 1, 1) := by decide +kernel
theorem dX8_good_30 : decode cX8_good 30 = .ok (.goto 4, 3) := by decide +kernel
theorem dX8_good_33 : decode cX8_good 33 = .ok (.iconst 0, 1) := by decide +kernel
theorem dX8_good_34 : decode cX8_good 34 = .ok (.ireturn, 1) := by decide +kernel
set_option maxRecDepth 20000 in
theorem ggX8_density_X8_in : GoodIn wsX8_density wsX8_in := goodIn_r _ [5] rfl (by decide +kernel)
set_option maxRecDepth 20000 in
theorem gX8_density_X8_in : GoodIn wsX8_density (va_wsS RX8 103 yX8_in wsX8_in) := goodIn_app (goodIn_of _ (by decide +kernel)) ggX8_density_X8_in
set_option maxRecDepth 20000 in
theorem ggX8_density_X8_isZone : GoodIn wsX8_density wsX8_isZone := goodIn_r _ [9, 10, 2, 3, 4, 5, 16, 17, 18, 19, 20, 21, 22, 23, 24, 25, 26, 27, 28, 29, 30, 31, 32, 33, 34, 35, 36, 37, 38, 39, 40, 41, 42, 43, 44, 45, 46, 47, 48, 49, 50, 51, 52] rfl (by decide +kernel)
set_option maxRecDepth 20000 in
theorem gX8_density_X8_isZone : GoodIn wsX8_density (wsV RX8 119 RX8 yX8_isZone wsX8_isZone) := goodIn_app (goodIn_of _ (by decide +kernel)) ggX8_density_X8_isZone
set_option maxRecDepth 20000 in
theorem ggX8_density_X8_densityOf : GoodIn wsX8_density wsX8_densityOf := goodIn_r _ [14, 15, 16, 17, 18, 19, 20, 21, 22, 23, 24, 25, 26, 27, 28, 29, 30, 31, 32, 33, 34, 35, 36, 37, 38, 39, 40, 41, 42, 43, 44, 45, 46, 47, 48, 49, 50, 51, 52] rfl (by decide +kernel)
set_option maxRecDepth 20000 in
theorem gX8_density_X8_densityOf : GoodIn wsX8_density (wsV RX8 127 RX8 yX8_densityOf wsX8_densityOf) := goodIn_app (goodIn_of _ (by decide +kernel)) ggX8_density_X8_densityOf
theorem dX8_density_0 : decode cX8_density 0 = .ok (.iload_n 1, 1) := by decide +kernel
theorem dX8_density_1 : decode cX8_density 1 = .ok (.i2l, 1) := by decide +kernel
theorem dX8_density_2 : decode cX8_density 2 = .ok (.lconst 1, 1) := by decide +kernel
theorem dX8_density_3 : decode cX8_density 3 = .ok (.aload_n 0, 1) := by decide +kernel
theorem dX8_density_4 : decode cX8_density 4 = .ok (.getfield 81, 3) := by decide +kernel
theorem dX8_density_7 : decode cX8_density 7 = .ok (.i2l, 1) := by decide +kernel
theorem dX8_density_8 : decode cX8_density 8 = .ok (.invokestatic 103, 3) := by decide +kernel
theorem dX8_density_11 : decode cX8_density 11 = .ok (.ifCond .eq 20, 3) := by decide +kernel
theorem dX8_density_14 : decode cX8_density 14 = .ok (.aload_n 0, 1) := by decide +kernel
theorem dX8_density_15 : decode cX8_density 15 = .ok (.iload_n 2, 1) := by decide +kernel
theorem dX8_density_16 : decode cX8_density 16 = .ok (.invokevirtual 119, 3) := by decide +kernel
theorem dX8_density_19 : decode cX8_density 19 = .ok (.ifCond .eq 12, 3) := by decide +kernel
theorem dX8_density_22 : decode cX8_density 22 = .ok (.aload_n 0, 1) := by decide +kernel
theorem dX8_density_23 : decode cX8_density 23 = .ok (.iload_n 1, 1) := by decide +kernel
theorem dX8_density_24 : decode cX8_density 24 = .ok (.iload_n 2, 1) := by decide +kernel
theorem dX8_density_25 : decode cX8_density 25 = .ok (.invokevirtual 127, 3) := by decide +kernel
theorem dX8_density_28 : decode cX8_density 28 = .ok (.goto 4, 3) := by decide +kernel
theorem dX8_density_31 : decode cX8_density 31 = .ok (.iconst (-1), 1) := by decide +kernel
theorem dX8_density_32 : decode cX8_density 32 = .ok (.ireturn, 1) := by decide +kernel
set_option maxRecDepth 20000 in
theorem ggX8_past_X8_in : GoodIn wsX8_past wsX8_in := goodIn_r _ [8] rfl (by decide +kernel)
set_option maxRecDepth 20000 in
theorem gX8_past_X8_in : GoodIn wsX8_past (va_wsS RX8 103 yX8_in wsX8_in) := goodIn_app (goodIn_of _ (by decide +kernel)) ggX8_past_X8_in
theorem dX8_past_0 : decode cX8_past 0 = .ok (.iload_n 1, 1) := by decide +kernel
theorem dX8_past_1 : decode cX8_past 1 = .ok (.i2l, 1) := by decide +kernel
theorem dX8_past_2 : decode cX8_past 2 = .ok (.lconst 0, 1) := by decide +kernel
theorem dX8_past_3 : decode cX8_past 3 = .ok (.ldc2_w 125, 3) := by decide +kernel
theorem dX8_past_6 : decode cX8_past 6 = .ok (.invokestatic 103, 3) := by decide +kernel
theorem dX8_past_9 : decode cX8_past 9 = .ok (.ifCond .eq 15, 3) := by decide +kernel
theorem dX8_past_12 : decode cX8_past 12 = .ok (.iload_n 2, 1) := by decide +kernel
theorem dX8_past_13 : decode cX8_past 13 = .ok (.i2l, 1) := by decide +kernel
theorem dX8_past_14 : decode cX8_past 14 = .ok (.lconst 0, 1) := by decide +kernel
theorem dX8_past_15 : decode cX8_past 15 = .ok (.ldc2_w 125, 3) := by decide +kernel
theorem dX8_past_18 : decode cX8_past 18 = .ok (.invokestatic 103, 3) := by decide +kernel
theorem dX8_past_21 : decode cX8_past 21 = .ok (.ifCond .ne 6, 3) := by decide +kernel
theorem dX8_past_24 : decode cX8_past 24 = .ok (.bipush (-2), 2) := by decide +kernel
theorem dX8_past_26 : decode cX8_past 26 = .ok (.ireturn, 1) := by decide +kernel
theorem dX8_past_27 : decode cX8_past 27 = .ok (.aload_n 0, 1) := by decide +kernel
theorem dX8_past_28 : decode cX8_past 28 = .ok (.getfield 149, 3) := by decide +kernel
theorem dX8_past_31 : decode cX8_past 31 = .ok (.bipush 30, 2) := by decide +kernel
theorem dX8_past_33 : decode cX8_past 33 = .ok (.if_icmp .ne 6, 3) := by decide +kernel
theorem dX8_past_36 : decode cX8_past 36 = .ok (.bipush (-4), 2) := by decide +kernel
theorem dX8_past_38 : decode cX8_past 38 = .ok (.ireturn, 1) := by decide +kernel
theorem dX8_past_39 : decode cX8_past 39 = .ok (.aload_n 0, 1) := by decide +kernel
theorem dX8_past_40 : decode cX8_past 40 = .ok (.getfield 45, 3) := by decide +kernel
theorem dX8_past_43 : decode cX8_past 43 = .ok (.aload_n 0, 1) := by decide +kernel
theorem dX8_past_44 : decode cX8_past 44 = .ok (.getfield 149, 3) := by decide +kernel
theorem dX8_past_47 : decode cX8_past 47 = .ok (.iload_n 1, 1) := by decide +kernel
theorem dX8_past_48 : decode cX8_past 48 = .ok (.iastore, 1) := by decide +kernel
theorem dX8_past_49 : decode cX8_past 49 = .ok (.aload_n 0, 1) := by decide +kernel
theorem dX8_past_50 : decode cX8_past 50 = .ok (.getfield 48, 3) := by decide +kernel
theorem dX8_past_53 : decode cX8_past 53 = .ok (.aload_n 0, 1) := by decide +kernel
theorem dX8_past_54 : decode cX8_past 54 = .ok (.getfield 149, 3) := by decide +kernel
theorem dX8_past_57 : decode cX8_past 57 = .ok (.iload_n 2, 1) := by decide +kernel
theorem dX8_past_58 : decode cX8_past 58 = .ok (.iastore, 1) := by decide +kernel
theorem dX8_past_59 : decode cX8_past 59 = .ok (.aload_n 0, 1) := by decide +kernel
theorem dX8_past_60 : decode cX8_past 60 = .ok (.dup, 1) := by decide +kernel
theorem dX8_past_61 : decode cX8_past 61 = .ok (.getfield 149, 3) := by decide +kernel
theorem dX8_past_64 : decode cX8_past 64 = .ok (.iconst 1, 1) := by decide +kernel
theorem dX8_past_65 : decode cX8_past 65 = .ok (.iadd, 1) := by decide +kernel
theorem dX8_past_66 : decode cX8_past 66 = .ok (.putfield 149, 3) := by decide +kernel
theorem dX8_past_69 : decode cX8_past 69 = .ok (.aload_n 0, 1) := by decide +kernel
theorem dX8_past_70 : decode cX8_past 70 = .ok (.getfield 149, 3) := by decide +kernel
theorem dX8_past_73 : decode cX8_past 73 = .ok (.ireturn, 1) := by decide +kernel
theorem dX8_presetOf_0 : decode cX8_presetOf 0 = .ok (.lconst 0, 1) := by decide +kernel
theorem dX8_presetOf_1 : decode cX8_presetOf 1 = .ok (.lstore_n 2, 1) := by decide +kernel
theorem dX8_presetOf_2 : decode cX8_presetOf 2 = .ok (.lconst 0, 1) := by decide +kernel
theorem dX8_presetOf_3 : decode cX8_presetOf 3 = .ok (.lstore 4, 2) := by decide +kernel
theorem dX8_presetOf_5 : decode cX8_presetOf 5 = .ok (.lconst 0, 1) := by decide +kernel
theorem dX8_presetOf_6 : decode cX8_presetOf 6 = .ok (.lstore 6, 2) := by decide +kernel
theorem dX8_presetOf_8 : decode cX8_presetOf 8 = .ok (.lconst 0, 1) := by decide +kernel
theorem dX8_presetOf_9 : decode cX8_presetOf 9 = .ok (.lstore 8, 2) := by decide +kernel
theorem dX8_presetOf_11 : decode cX8_presetOf 11 = .ok (.iconst 0, 1) := by decide +kernel
theorem dX8_presetOf_12 : decode cX8_presetOf 12 = .ok (.istore 10, 2) := by decide +kernel
theorem dX8_presetOf_14 : decode cX8_presetOf 14 = .ok (.iload 10, 2) := by decide +kernel
theorem dX8_presetOf_16 : decode cX8_presetOf 16 = .ok (.aload_n 0, 1) := by decide +kernel
theorem dX8_presetOf_17 : decode cX8_presetOf 17 = .ok (.getfield 149, 3) := by decide +kernel
theorem dX8_presetOf_20 : decode cX8_presetOf 20 = .ok (.if_icmp .ge 75, 3) := by decide +kernel
theorem dX8_presetOf_23 : decode cX8_presetOf 23 = .ok (.lload_n 2, 1) := by decide +kernel
theorem dX8_presetOf_24 : decode cX8_presetOf 24 = .ok (.aload_n 0, 1) := by decide +kernel
theorem dX8_presetOf_25 : decode cX8_presetOf 25 = .ok (.getfield 45, 3) := by decide +kernel
theorem dX8_presetOf_28 : decode cX8_presetOf 28 = .ok (.iload 10, 2) := by decide +kernel
theorem dX8_presetOf_30 : decode cX8_presetOf 30 = .ok (.iaload, 1) := by decide +kernel
theorem dX8_presetOf_31 : decode cX8_presetOf 31 = .ok (.i2l, 1) := by decide +kernel
theorem dX8_presetOf_32 : decode cX8_presetOf 32 = .ok (.ladd, 1) := by decide +kernel
theorem dX8_presetOf_33 : decode cX8_presetOf 33 = .ok (.lstore_n 2, 1) := by decide +kernel
theorem dX8_presetOf_34 : decode cX8_presetOf 34 = .ok (.lload 4, 2) := by decide +kernel
theorem dX8_presetOf_36 : decode cX8_presetOf 36 = .ok (.aload_n 0, 1) := by decide +kernel
theorem dX8_presetOf_37 : decode cX8_presetOf 37 = .ok (.getfield 48, 3) := by decide +kernel
theorem dX8_presetOf_40 : decode cX8_presetOf 40 = .ok (.iload 10, 2) := by decide +kernel
theorem dX8_presetOf_42 : decode cX8_presetOf 42 = .ok (.iaload, 1) := by decide +kernel
theorem dX8_presetOf_43 : decode cX8_presetOf 43 = .ok (.i2l, 1) := by decide +kernel
theorem dX8_presetOf_44 : decode cX8_presetOf 44 = .ok (.ladd, 1) := by decide +kernel
theorem dX8_presetOf_45 : decode cX8_presetOf 45 = .ok (.lstore 4, 2) := by decide +kernel
theorem dX8_presetOf_47 : decode cX8_presetOf 47 = .ok (.lload 6, 2) := by decide +kernel
theorem dX8_presetOf_49 : decode cX8_presetOf 49 = .ok (.aload_n 0, 1) := by decide +kernel
theorem dX8_presetOf_50 : decode cX8_presetOf 50 = .ok (.getfield 45, 3) := by decide +kernel
theorem dX8_presetOf_53 : decode cX8_presetOf 53 = .ok (.iload 10, 2) := by decide +kernel
theorem dX8_presetOf_55 : decode cX8_presetOf 55 = .ok (.iaload, 1) := by decide +kernel
theorem dX8_presetOf_56 : decode cX8_presetOf 56 = .ok (.aload_n 0, 1) := by decide +kernel
theorem dX8_presetOf_57 : decode cX8_presetOf 57 = .ok (.getfield 45, 3) := by decide +kernel
theorem dX8_presetOf_60 : decode cX8_presetOf 60 = .ok (.iload 10, 2) := by decide +kernel
theorem dX8_presetOf_62 : decode cX8_presetOf 62 = .ok (.iaload, 1) := by decide +kernel
theorem dX8_presetOf_63 : decode cX8_presetOf 63 = .ok (.imul, 1) := by decide +kernel
theorem dX8_presetOf_64 : decode cX8_presetOf 64 = .ok (.i2l, 1) := by decide +kernel
theorem dX8_presetOf_65 : decode cX8_presetOf 65 = .ok (.ladd, 1) := by decide +kernel
theorem dX8_presetOf_66 : decode cX8_presetOf 66 = .ok (.lstore 6, 2) := by decide +kernel
theorem dX8_presetOf_68 : decode cX8_presetOf 68 = .ok (.lload 8, 2) := by decide +kernel
theorem dX8_presetOf_70 : decode cX8_presetOf 70 = .ok (.aload_n 0, 1) := by decide +kernel
theorem dX8_presetOf_71 : decode cX8_presetOf 71 = .ok (.getfield 45, 3) := by decide +kernel
theorem dX8_presetOf_74 : decode cX8_presetOf 74 = .ok (.iload 10, 2) := by decide +kernel
theorem dX8_presetOf_76 : decode cX8_presetOf 76 = .ok (.iaload, 1) := by decide +kernel
theorem dX8_presetOf_77 : decode cX8_presetOf 77 = .ok (.aload_n 0, 1) := by decide +kernel
theorem dX8_presetOf_78 : decode cX8_presetOf 78 = .ok (.getfield 48, 3) := by decide +kernel
theorem dX8_presetOf_81 : decode cX8_presetOf 81 = .ok (.iload 10, 2) := by decide +kernel
theorem dX8_presetOf_83 : decode cX8_presetOf 83 = .ok (.iaload, 1) := by decide +kernel
theorem dX8_presetOf_84 : decode cX8_presetOf 84 = .ok (.imul, 1) := by decide +kernel
theorem dX8_presetOf_85 : decode cX8_presetOf 85 = .ok (.i2l, 1) := by decide +kernel
theorem dX8_presetOf_86 : decode cX8_presetOf 86 = .ok (.ladd, 1) := by decide +kernel
theorem dX8_presetOf_87 : decode cX8_presetOf 87 = .ok (.lstore 8, 2) := by decide +kernel
theorem dX8_presetOf_89 : decode cX8_presetOf 89 = .ok (.iinc 10 1, 3) := by decide +kernel
theorem dX8_presetOf_92 : decode cX8_presetOf 92 = .ok (.goto (-78), 3) := by decide +kernel
theorem dX8_presetOf_95 : decode cX8_presetOf 95 = .ok (.aload_n 0, 1) := by decide +kernel
theorem dX8_presetOf_96 : decode cX8_presetOf 96 = .ok (.getfield 149, 3) := by decide +kernel
theorem dX8_presetOf_99 : decode cX8_presetOf 99 = .ok (.i2l, 1) := by decide +kernel
theorem dX8_presetOf_100 : decode cX8_presetOf 100 = .ok (.lload 6, 2) := by decide +kernel
theorem dX8_presetOf_102 : decode cX8_presetOf 102 = .ok (.lmul, 1) := by decide +kernel
theorem dX8_presetOf_103 : decode cX8_presetOf 103 = .ok (.lload_n 2, 1) := by decide +kernel
theorem dX8_presetOf_104 : decode cX8_presetOf 104 = .ok (.lload_n 2, 1) := by decide +kernel
theorem dX8_presetOf_105 : decode cX8_presetOf 105 = .ok (.lmul, 1) := by decide +kernel
theorem dX8_presetOf_106 : decode cX8_presetOf 106 = .ok (.lsub, 1) := by decide +kernel
theorem dX8_presetOf_107 : decode cX8_presetOf 107 = .ok (.lstore 10, 2) := by decide +kernel
theorem dX8_presetOf_109 : decode cX8_presetOf 109 = .ok (.lload 10, 2) := by decide +kernel
theorem dX8_presetOf_111 : decode cX8_presetOf 111 = .ok (.lconst 0, 1) := by decide +kernel
theorem dX8_presetOf_112 : decode cX8_presetOf 112 = .ok (.lcmp, 1) := by decide +kernel
theorem dX8_presetOf_113 : decode cX8_presetOf 113 = .ok (.ifCond .ne 14, 3) := by decide +kernel
theorem dX8_presetOf_116 : decode cX8_presetOf 116 = .ok (.lload 4, 2) := by decide +kernel
theorem dX8_presetOf_118 : decode cX8_presetOf 118 = .ok (.aload_n 0, 1) := by decide +kernel
theorem dX8_presetOf_119 : decode cX8_presetOf 119 = .ok (.getfield 149, 3) := by decide +kernel
theorem dX8_presetOf_122 : decode cX8_presetOf 122 = .ok (.i2l, 1) := by decide +kernel
theorem dX8_presetOf_123 : decode cX8_presetOf 123 = .ok (.ldiv, 1) := by decide +kernel
theorem dX8_presetOf_124 : decode cX8_presetOf 124 = .ok (.goto 33, 3) := by decide +kernel
theorem dX8_presetOf_127 : decode cX8_presetOf 127 = .ok (.lload 4, 2) := by decide +kernel
theorem dX8_presetOf_129 : decode cX8_presetOf 129 = .ok (.lload 6, 2) := by decide +kernel
theorem dX8_presetOf_131 : decode cX8_presetOf 131 = .ok (.lmul, 1) := by decide +kernel
theorem dX8_presetOf_132 : decode cX8_presetOf 132 = .ok (.lload_n 2, 1) := by decide +kernel
theorem dX8_presetOf_133 : decode cX8_presetOf 133 = .ok (.lload 8, 2) := by decide +kernel
theorem dX8_presetOf_135 : decode cX8_presetOf 135 = .ok (.lmul, 1) := by decide +kernel
theorem dX8_presetOf_136 : decode cX8_presetOf 136 = .ok (.lsub, 1) := by decide +kernel
theorem dX8_presetOf_137 : decode cX8_presetOf 137 = .ok (.iload_n 1, 1) := by decide +kernel
theorem dX8_presetOf_138 : decode cX8_presetOf 138 = .ok (.i2l, 1) := by decide +kernel
theorem dX8_presetOf_139 : decode cX8_presetOf 139 = .ok (.aload_n 0, 1) := by decide +kernel
theorem dX8_presetOf_140 : decode cX8_presetOf 140 = .ok (.getfield 149, 3) := by decide +kernel
theorem dX8_presetOf_143 : decode cX8_presetOf 143 = .ok (.i2l, 1) := by decide +kernel
theorem dX8_presetOf_144 : decode cX8_presetOf 144 = .ok (.lload 8, 2) := by decide +kernel
theorem dX8_presetOf_146 : decode cX8_presetOf 146 = .ok (.lmul, 1) := by decide +kernel
theorem dX8_presetOf_147 : decode cX8_presetOf 147 = .ok (.lload_n 2, 1) := by decide +kernel
theorem dX8_presetOf_148 : decode cX8_presetOf 148 = .ok (.lload 4, 2) := by decide +kernel
theorem dX8_presetOf_150 : decode cX8_presetOf 150 = .ok (.lmul, 1) := by decide +kernel
theorem dX8_presetOf_151 : decode cX8_presetOf 151 = .ok (.lsub, 1) := by decide +kernel
theorem dX8_presetOf_152 : decode cX8_presetOf 152 = .ok (.lmul, 1) := by decide +kernel
theorem dX8_presetOf_153 : decode cX8_presetOf 153 = .ok (.ladd, 1) := by decide +kernel
end
section
theorem dX8_presetOf_154 : decode cX8_presetOf 154 = .ok (.lload 10, 2) := by decide +kernel
theorem dX8_presetOf_156 : decode cX8_presetOf 156 = .ok (.ldiv, 1) := by decide +kernel
theorem dX8_presetOf_157 : decode cX8_presetOf 157 = .ok (.lstore 12, 2) := by decide +kernel
theorem dX8_presetOf_159 : decode cX8_presetOf 159 = .ok (.lload 12, 2) := by decide +kernel
theorem dX8_presetOf_161 : decode cX8_presetOf 161 = .ok (.lconst 0, 1) := by decide +kernel
theorem dX8_presetOf_162 : decode cX8_presetOf 162 = .ok (.lcmp, 1) := by decide +kernel
theorem dX8_presetOf_163 : decode cX8_presetOf 163 = .ok (.ifCond .ge 7, 3) := by decide +kernel
theorem dX8_presetOf_166 : decode cX8_presetOf 166 = .ok (.iconst 0, 1) := by decide +kernel
theorem dX8_presetOf_167 : decode cX8_presetOf 167 = .ok (.goto 20, 3) := by decide +kernel
theorem dX8_presetOf_170 : decode cX8_presetOf 170 = .ok (.lload 12, 2) := by decide +kernel
theorem dX8_presetOf_172 : decode cX8_presetOf 172 = .ok (.ldc2_w 125, 3) := by decide +kernel
theorem dX8_presetOf_175 : decode cX8_presetOf 175 = .ok (.lcmp, 1) := by decide +kernel
theorem dX8_presetOf_176 : decode cX8_presetOf 176 = .ok (.ifCond .le 8, 3) := by decide +kernel
theorem dX8_presetOf_179 : decode cX8_presetOf 179 = .ok (.bipush 100, 2) := by decide +kernel
theorem dX8_presetOf_181 : decode cX8_presetOf 181 = .ok (.goto 6, 3) := by decide +kernel
theorem dX8_presetOf_184 : decode cX8_presetOf 184 = .ok (.lload 12, 2) := by decide +kernel
theorem dX8_presetOf_186 : decode cX8_presetOf 186 = .ok (.l2i, 1) := by decide +kernel
theorem dX8_presetOf_187 : decode cX8_presetOf 187 = .ok (.ireturn, 1) := by decide +kernel
set_option maxRecDepth 20000 in
theorem ggX8_preset_X8_in : GoodIn wsX8_preset wsX8_in := goodIn_r _ [6] rfl (by decide +kernel)
set_option maxRecDepth 20000 in
theorem gX8_preset_X8_in : GoodIn wsX8_preset (va_wsS RX8 103 yX8_in wsX8_in) := goodIn_app (goodIn_of _ (by decide +kernel)) ggX8_preset_X8_in
set_option maxRecDepth 20000 in
theorem ggX8_preset_X8_presetOf : GoodIn wsX8_preset wsX8_presetOf := goodIn_r _ [10, 2, 11, 12, 1, 13, 14, 15, 16, 17, 18, 19, 20, 21, 22, 23, 24, 25, 26, 27, 28, 29, 30, 31, 32, 33, 34, 35, 36, 37, 38, 39, 40, 41, 42, 43, 44, 45, 46, 47, 48, 49] rfl (by decide +kernel)
set_option maxRecDepth 20000 in
theorem gX8_preset_X8_presetOf : GoodIn wsX8_preset (wsV RX8 152 RX8 yX8_presetOf wsX8_presetOf) := goodIn_app (goodIn_of _ (by decide +kernel)) ggX8_preset_X8_presetOf
theorem dX8_preset_0 : decode cX8_preset 0 = .ok (.iload_n 1, 1) := by decide +kernel
theorem dX8_preset_1 : decode cX8_preset 1 = .ok (.i2l, 1) := by decide +kernel
theorem dX8_preset_2 : decode cX8_preset 2 = .ok (.lconst 0, 1) := by decide +kernel
theorem dX8_preset_3 : decode cX8_preset 3 = .ok (.ldc2_w 125, 3) := by decide +kernel
theorem dX8_preset_6 : decode cX8_preset 6 = .ok (.invokestatic 103, 3) := by decide +kernel
theorem dX8_preset_9 : decode cX8_preset 9 = .ok (.ifCond .ne 6, 3) := by decide +kernel
theorem dX8_preset_12 : decode cX8_preset 12 = .ok (.bipush (-2), 2) := by decide +kernel
theorem dX8_preset_14 : decode cX8_preset 14 = .ok (.ireturn, 1) := by decide +kernel
theorem dX8_preset_15 : decode cX8_preset 15 = .ok (.aload_n 0, 1) := by decide +kernel
theorem dX8_preset_16 : decode cX8_preset 16 = .ok (.getfield 149, 3) := by decide +kernel
theorem dX8_preset_19 : decode cX8_preset 19 = .ok (.ifCond .ne 8, 3) := by decide +kernel
theorem dX8_preset_22 : decode cX8_preset 22 = .ok (.bipush (-3), 2) := by decide +kernel
theorem dX8_preset_24 : decode cX8_preset 24 = .ok (.goto 8, 3) := by decide +kernel
theorem dX8_preset_27 : decode cX8_preset 27 = .ok (.aload_n 0, 1) := by decide +kernel
theorem dX8_preset_28 : decode cX8_preset 28 = .ok (.iload_n 1, 1) := by decide +kernel
theorem dX8_preset_29 : decode cX8_preset 29 = .ok (.invokevirtual 152, 3) := by decide +kernel
theorem dX8_preset_32 : decode cX8_preset 32 = .ok (.ireturn, 1) := by decide +kernel
set_option maxRecDepth 20000 in
theorem ggX8_presets_X8_presetOf : GoodIn wsX8_presets wsX8_presetOf := goodIn_r _ [9, 1, 10, 11, 12, 13, 14, 15, 16, 17, 18, 19, 20, 21, 22, 23, 24, 25, 26, 27, 28, 29, 30, 31, 32, 33, 34, 35, 36, 37, 38, 39, 40, 41, 42, 43, 44, 45, 46, 47, 48, 49] rfl (by decide +kernel)
set_option maxRecDepth 20000 in
theorem gX8_presets_X8_presetOf : GoodIn wsX8_presets (wsV RX8 152 RX8 yX8_presetOf wsX8_presetOf) := goodIn_app (goodIn_of _ (by decide +kernel)) ggX8_presets_X8_presetOf
theorem dX8_presets_0 : decode cX8_presets 0 = .ok (.aload_n 0, 1) := by decide +kernel
theorem dX8_presets_1 : decode cX8_presets 1 = .ok (.getfield 149, 3) := by decide +kernel
theorem dX8_presets_4 : decode cX8_presets 4 = .ok (.ifCond .ne 6, 3) := by decide +kernel
theorem dX8_presets_7 : decode cX8_presets 7 = .ok (.bipush (-3), 2) := by decide +kernel
theorem dX8_presets_9 : decode cX8_presets 9 = .ok (.ireturn, 1) := by decide +kernel
theorem dX8_presets_10 : decode cX8_presets 10 = .ok (.iconst 0, 1) := by decide +kernel
theorem dX8_presets_11 : decode cX8_presets 11 = .ok (.istore_n 1, 1) := by decide +kernel
theorem dX8_presets_12 : decode cX8_presets 12 = .ok (.iconst 0, 1) := by decide +kernel
theorem dX8_presets_13 : decode cX8_presets 13 = .ok (.istore_n 2, 1) := by decide +kernel
theorem dX8_presets_14 : decode cX8_presets 14 = .ok (.iload_n 2, 1) := by decide +kernel
theorem dX8_presets_15 : decode cX8_presets 15 = .ok (.aload_n 0, 1) := by decide +kernel
theorem dX8_presets_16 : decode cX8_presets 16 = .ok (.getfield 7, 3) := by decide +kernel
theorem dX8_presets_19 : decode cX8_presets 19 = .ok (.if_icmp .ge 45, 3) := by decide +kernel
theorem dX8_presets_22 : decode cX8_presets 22 = .ok (.aload_n 0, 1) := by decide +kernel
theorem dX8_presets_23 : decode cX8_presets 23 = .ok (.aload_n 0, 1) := by decide +kernel
theorem dX8_presets_24 : decode cX8_presets 24 = .ok (.getfield 23, 3) := by decide +kernel
theorem dX8_presets_27 : decode cX8_presets 27 = .ok (.iload_n 2, 1) := by decide +kernel
theorem dX8_presets_28 : decode cX8_presets 28 = .ok (.iaload, 1) := by decide +kernel
theorem dX8_presets_29 : decode cX8_presets 29 = .ok (.invokevirtual 152, 3) := by decide +kernel
theorem dX8_presets_32 : decode cX8_presets 32 = .ok (.istore_n 3, 1) := by decide +kernel
theorem dX8_presets_33 : decode cX8_presets 33 = .ok (.iload_n 1, 1) := by decide +kernel
theorem dX8_presets_34 : decode cX8_presets 34 = .ok (.iload_n 3, 1) := by decide +kernel
theorem dX8_presets_35 : decode cX8_presets 35 = .ok (.aload_n 0, 1) := by decide +kernel
theorem dX8_presets_36 : decode cX8_presets 36 = .ok (.getfield 20, 3) := by decide +kernel
theorem dX8_presets_39 : decode cX8_presets 39 = .ok (.iload_n 2, 1) := by decide +kernel
theorem dX8_presets_40 : decode cX8_presets 40 = .ok (.iaload, 1) := by decide +kernel
theorem dX8_presets_41 : decode cX8_presets 41 = .ok (.if_icmp .ne 7, 3) := by decide +kernel
theorem dX8_presets_44 : decode cX8_presets 44 = .ok (.iconst 0, 1) := by decide +kernel
theorem dX8_presets_45 : decode cX8_presets 45 = .ok (.goto 4, 3) := by decide +kernel
theorem dX8_presets_48 : decode cX8_presets 48 = .ok (.iconst 1, 1) := by decide +kernel
theorem dX8_presets_49 : decode cX8_presets 49 = .ok (.iadd, 1) := by decide +kernel
theorem dX8_presets_50 : decode cX8_presets 50 = .ok (.istore_n 1, 1) := by decide +kernel
theorem dX8_presets_51 : decode cX8_presets 51 = .ok (.aload_n 0, 1) := by decide +kernel
theorem dX8_presets_52 : decode cX8_presets 52 = .ok (.getfield 20, 3) := by decide +kernel
theorem dX8_presets_55 : decode cX8_presets 55 = .ok (.iload_n 2, 1) := by decide +kernel
theorem dX8_presets_56 : decode cX8_presets 56 = .ok (.iload_n 3, 1) := by decide +kernel
theorem dX8_presets_57 : decode cX8_presets 57 = .ok (.iastore, 1) := by decide +kernel
theorem dX8_presets_58 : decode cX8_presets 58 = .ok (.iinc 2 1, 3) := by decide +kernel
theorem dX8_presets_61 : decode cX8_presets 61 = .ok (.goto (-47), 3) := by decide +kernel
theorem dX8_presets_64 : decode cX8_presets 64 = .ok (.iload_n 1, 1) := by decide +kernel
theorem dX8_presets_65 : decode cX8_presets 65 = .ok (.ireturn, 1) := by decide +kernel
theorem dX8_told_0 : decode cX8_told 0 = .ok (.iconst 0, 1) := by decide +kernel
theorem dX8_told_1 : decode cX8_told 1 = .ok (.istore_n 2, 1) := by decide +kernel
theorem dX8_told_2 : decode cX8_told 2 = .ok (.iconst 0, 1) := by decide +kernel
theorem dX8_told_3 : decode cX8_told 3 = .ok (.istore_n 3, 1) := by decide +kernel
theorem dX8_told_4 : decode cX8_told 4 = .ok (.iload_n 3, 1) := by decide +kernel
theorem dX8_told_5 : decode cX8_told 5 = .ok (.bipush 40, 2) := by decide +kernel
theorem dX8_told_7 : decode cX8_told 7 = .ok (.if_icmp .ge 18, 3) := by decide +kernel
theorem dX8_told_10 : decode cX8_told 10 = .ok (.iload_n 2, 1) := by decide +kernel
theorem dX8_told_11 : decode cX8_told 11 = .ok (.aload_n 0, 1) := by decide +kernel
theorem dX8_told_12 : decode cX8_told 12 = .ok (.getfield 29, 3) := by decide +kernel
theorem dX8_told_15 : decode cX8_told 15 = .ok (.iload_n 3, 1) := by decide +kernel
theorem dX8_told_16 : decode cX8_told 16 = .ok (.iaload, 1) := by decide +kernel
theorem dX8_told_17 : decode cX8_told 17 = .ok (.iadd, 1) := by decide +kernel
theorem dX8_told_18 : decode cX8_told 18 = .ok (.istore_n 2, 1) := by decide +kernel
theorem dX8_told_19 : decode cX8_told 19 = .ok (.iinc 3 1, 3) := by decide +kernel
theorem dX8_told_22 : decode cX8_told 22 = .ok (.goto (-18), 3) := by decide +kernel
theorem dX8_told_25 : decode cX8_told 25 = .ok (.iload_n 1, 1) := by decide +kernel
theorem dX8_told_26 : decode cX8_told 26 = .ok (.tableswitch 114 0 9 #[54, 59, 64, 74, 79, 84, 86, 91, 96, 109], 54) := by decide +kernel
theorem dX8_told_80 : decode cX8_told 80 = .ok (.aload_n 0, 1) := by decide +kernel
theorem dX8_told_81 : decode cX8_told 81 = .ok (.getfield 81, 3) := by decide +kernel
theorem dX8_told_84 : decode cX8_told 84 = .ok (.ireturn, 1) := by decide +kernel
theorem dX8_told_85 : decode cX8_told 85 = .ok (.aload_n 0, 1) := by decide +kernel
theorem dX8_told_86 : decode cX8_told 86 = .ok (.getfield 84, 3) := by decide +kernel
theorem dX8_told_89 : decode cX8_told 89 = .ok (.ireturn, 1) := by decide +kernel
theorem dX8_told_90 : decode cX8_told 90 = .ok (.aload_n 0, 1) := by decide +kernel
theorem dX8_told_91 : decode cX8_told 91 = .ok (.getfield 81, 3) := by decide +kernel
theorem dX8_told_94 : decode cX8_told 94 = .ok (.aload_n 0, 1) := by decide +kernel
theorem dX8_told_95 : decode cX8_told 95 = .ok (.getfield 84, 3) := by decide +kernel
theorem dX8_told_98 : decode cX8_told 98 = .ok (.isub, 1) := by decide +kernel
theorem dX8_told_99 : decode cX8_told 99 = .ok (.ireturn, 1) := by decide +kernel
theorem dX8_told_100 : decode cX8_told 100 = .ok (.aload_n 0, 1) := by decide +kernel
theorem dX8_told_101 : decode cX8_told 101 = .ok (.getfield 39, 3) := by decide +kernel
theorem dX8_told_104 : decode cX8_told 104 = .ok (.ireturn, 1) := by decide +kernel
theorem dX8_told_105 : decode cX8_told 105 = .ok (.aload_n 0, 1) := by decide +kernel
theorem dX8_told_106 : decode cX8_told 106 = .ok (.getfield 90, 3) := by decide +kernel
theorem dX8_told_109 : decode cX8_told 109 = .ok (.ireturn, 1) := by decide +kernel
theorem dX8_told_110 : decode cX8_told 110 = .ok (.iload_n 2, 1) := by decide +kernel
theorem dX8_told_111 : decode cX8_told 111 = .ok (.ireturn, 1) := by decide +kernel
theorem dX8_told_112 : decode cX8_told 112 = .ok (.aload_n 0, 1) := by decide +kernel
theorem dX8_told_113 : decode cX8_told 113 = .ok (.getfield 93, 3) := by decide +kernel
theorem dX8_told_116 : decode cX8_told 116 = .ok (.ireturn, 1) := by decide +kernel
theorem dX8_told_117 : decode cX8_told 117 = .ok (.aload_n 0, 1) := by decide +kernel
theorem dX8_told_118 : decode cX8_told 118 = .ok (.getfield 96, 3) := by decide +kernel
theorem dX8_told_121 : decode cX8_told 121 = .ok (.ireturn, 1) := by decide +kernel
theorem dX8_told_122 : decode cX8_told 122 = .ok (.aload_n 0, 1) := by decide +kernel
theorem dX8_told_123 : decode cX8_told 123 = .ok (.getfield 99, 3) := by decide +kernel
theorem dX8_told_126 : decode cX8_told 126 = .ok (.ifCond .eq 7, 3) := by decide +kernel
theorem dX8_told_129 : decode cX8_told 129 = .ok (.iconst 1, 1) := by decide +kernel
theorem dX8_told_130 : decode cX8_told 130 = .ok (.goto 4, 3) := by decide +kernel
theorem dX8_told_133 : decode cX8_told 133 = .ok (.iconst 0, 1) := by decide +kernel
theorem dX8_told_134 : decode cX8_told 134 = .ok (.ireturn, 1) := by decide +kernel
theorem dX8_told_135 : decode cX8_told 135 = .ok (.aload_n 0, 1) := by decide +kernel
theorem dX8_told_136 : decode cX8_told 136 = .ok (.getfield 149, 3) := by decide +kernel
theorem dX8_told_139 : decode cX8_told 139 = .ok (.ireturn, 1) := by decide +kernel
theorem dX8_told_140 : decode cX8_told 140 = .ok (.ldc 118, 2) := by decide +kernel
theorem dX8_told_142 : decode cX8_told 142 = .ok (.ireturn, 1) := by decide +kernel
set_option maxRecDepth 20000 in
theorem ggX8_isPlace_X8_in : GoodIn wsX8_isPlace wsX8_in := goodIn_r _ [4] rfl (by decide +kernel)
set_option maxRecDepth 20000 in
theorem gX8_isPlace_X8_in : GoodIn wsX8_isPlace (va_wsS RX8 103 yX8_in wsX8_in) := goodIn_app (goodIn_of _ (by decide +kernel)) ggX8_isPlace_X8_in
theorem dX8_isPlace_0 : decode cX8_isPlace 0 = .ok (.iload_n 0, 1) := by decide +kernel
theorem dX8_isPlace_1 : decode cX8_isPlace 1 = .ok (.i2l, 1) := by decide +kernel
theorem dX8_isPlace_2 : decode cX8_isPlace 2 = .ok (.iload_n 2, 1) := by decide +kernel
theorem dX8_isPlace_3 : decode cX8_isPlace 3 = .ok (.ineg, 1) := by decide +kernel
theorem dX8_isPlace_4 : decode cX8_isPlace 4 = .ok (.i2l, 1) := by decide +kernel
theorem dX8_isPlace_5 : decode cX8_isPlace 5 = .ok (.iload_n 2, 1) := by decide +kernel
theorem dX8_isPlace_6 : decode cX8_isPlace 6 = .ok (.i2l, 1) := by decide +kernel
theorem dX8_isPlace_7 : decode cX8_isPlace 7 = .ok (.invokestatic 103, 3) := by decide +kernel
theorem dX8_isPlace_10 : decode cX8_isPlace 10 = .ok (.ifCond .eq 20, 3) := by decide +kernel
theorem dX8_isPlace_13 : decode cX8_isPlace 13 = .ok (.iload_n 1, 1) := by decide +kernel
theorem dX8_isPlace_14 : decode cX8_isPlace 14 = .ok (.i2l, 1) := by decide +kernel
theorem dX8_isPlace_15 : decode cX8_isPlace 15 = .ok (.iload_n 2, 1) := by decide +kernel
theorem dX8_isPlace_16 : decode cX8_isPlace 16 = .ok (.ineg, 1) := by decide +kernel
theorem dX8_isPlace_17 : decode cX8_isPlace 17 = .ok (.i2l, 1) := by decide +kernel
theorem dX8_isPlace_18 : decode cX8_isPlace 18 = .ok (.iload_n 2, 1) := by decide +kernel
theorem dX8_isPlace_19 : decode cX8_isPlace 19 = .ok (.i2l, 1) := by decide +kernel
theorem dX8_isPlace_20 : decode cX8_isPlace 20 = .ok (.invokestatic 103, 3) := by decide +kernel
theorem dX8_isPlace_23 : decode cX8_isPlace 23 = .ok (.ifCond .eq 7, 3) := by decide +kernel
theorem dX8_isPlace_26 : decode cX8_isPlace 26 = .ok (.iconst 1, 1) := by decide +kernel
theorem dX8_isPlace_27 : decode cX8_isPlace 27 = .ok (.goto 4, 3) := by decide +kernel
theorem dX8_isPlace_30 : decode cX8_isPlace 30 = .ok (.iconst 0, 1) := by decide +kernel
theorem dX8_isPlace_31 : decode cX8_isPlace 31 = .ok (.ireturn, 1) := by decide +kernel
set_option maxRecDepth 20000 in
theorem ggX8_mark_X8_isPlace : GoodIn wsX8_mark wsX8_isPlace := goodIn_r _ [9, 10, 11, 8, 12] rfl (by decide +kernel)
set_option maxRecDepth 20000 in
theorem gX8_mark_X8_isPlace : GoodIn wsX8_mark (va_wsS RX8 155 yX8_isPlace wsX8_isPlace) := goodIn_app (goodIn_of _ (by decide +kernel)) ggX8_mark_X8_isPlace
theorem dX8_mark_0 : decode cX8_mark 0 = .ok (.iload_n 1, 1) := by decide +kernel
theorem dX8_mark_1 : decode cX8_mark 1 = .ok (.iload_n 2, 1) := by decide +kernel
theorem dX8_mark_2 : decode cX8_mark 2 = .ok (.sipush 1000, 3) := by decide +kernel
theorem dX8_mark_5 : decode cX8_mark 5 = .ok (.invokestatic 155, 3) := by decide +kernel
theorem dX8_mark_8 : decode cX8_mark 8 = .ok (.ifCond .eq 14, 3) := by decide +kernel
theorem dX8_mark_11 : decode cX8_mark 11 = .ok (.iload_n 3, 1) := by decide +kernel
theorem dX8_mark_12 : decode cX8_mark 12 = .ok (.iload 4, 2) := by decide +kernel
theorem dX8_mark_14 : decode cX8_mark 14 = .ok (.bipush 100, 2) := by decide +kernel
theorem dX8_mark_16 : decode cX8_mark 16 = .ok (.invokestatic 155, 3) := by decide +kernel
theorem dX8_mark_19 : decode cX8_mark 19 = .ok (.ifCond .ne 6, 3) := by decide +kernel
theorem dX8_mark_22 : decode cX8_mark 22 = .ok (.bipush (-2), 2) := by decide +kernel
theorem dX8_mark_24 : decode cX8_mark 24 = .ok (.ireturn, 1) := by decide +kernel
theorem dX8_mark_25 : decode cX8_mark 25 = .ok (.aload_n 0, 1) := by decide +kernel
theorem dX8_mark_26 : decode cX8_mark 26 = .ok (.getfield 159, 3) := by decide +kernel
theorem dX8_mark_29 : decode cX8_mark 29 = .ok (.bipush 8, 2) := by decide +kernel
theorem dX8_mark_31 : decode cX8_mark 31 = .ok (.if_icmp .ne 6, 3) := by decide +kernel
theorem dX8_mark_34 : decode cX8_mark 34 = .ok (.bipush (-4), 2) := by decide +kernel
theorem dX8_mark_36 : decode cX8_mark 36 = .ok (.ireturn, 1) := by decide +kernel
theorem dX8_mark_37 : decode cX8_mark 37 = .ok (.aload_n 0, 1) := by decide +kernel
theorem dX8_mark_38 : decode cX8_mark 38 = .ok (.getfield 51, 3) := by decide +kernel
theorem dX8_mark_41 : decode cX8_mark 41 = .ok (.aload_n 0, 1) := by decide +kernel
theorem dX8_mark_42 : decode cX8_mark 42 = .ok (.getfield 159, 3) := by decide +kernel
theorem dX8_mark_45 : decode cX8_mark 45 = .ok (.iload_n 1, 1) := by decide +kernel
theorem dX8_mark_46 : decode cX8_mark 46 = .ok (.iastore, 1) := by decide +kernel
theorem dX8_mark_47 : decode cX8_mark 47 = .ok (.aload_n 0, 1) := by decide +kernel
theorem dX8_mark_48 : decode cX8_mark 48 = .ok (.getfield 54, 3) := by decide +kernel
theorem dX8_mark_51 : decode cX8_mark 51 = .ok (.aload_n 0, 1) := by decide +kernel
theorem dX8_mark_52 : decode cX8_mark 52 = .ok (.getfield 159, 3) := by decide +kernel
theorem dX8_mark_55 : decode cX8_mark 55 = .ok (.iload_n 2, 1) := by decide +kernel
theorem dX8_mark_56 : decode cX8_mark 56 = .ok (.iastore, 1) := by decide +kernel
theorem dX8_mark_57 : decode cX8_mark 57 = .ok (.aload_n 0, 1) := by decide +kernel
theorem dX8_mark_58 : decode cX8_mark 58 = .ok (.getfield 57, 3) := by decide +kernel
theorem dX8_mark_61 : decode cX8_mark 61 = .ok (.aload_n 0, 1) := by decide +kernel
theorem dX8_mark_62 : decode cX8_mark 62 = .ok (.getfield 159, 3) := by decide +kernel
theorem dX8_mark_65 : decode cX8_mark 65 = .ok (.iload_n 3, 1) := by decide +kernel
theorem dX8_mark_66 : decode cX8_mark 66 = .ok (.iastore, 1) := by decide +kernel
theorem dX8_mark_67 : decode cX8_mark 67 = .ok (.aload_n 0, 1) := by decide +kernel
theorem dX8_mark_68 : decode cX8_mark 68 = .ok (.getfield 60, 3) := by decide +kernel
theorem dX8_mark_71 : decode cX8_mark 71 = .ok (.aload_n 0, 1) := by decide +kernel
theorem dX8_mark_72 : decode cX8_mark 72 = .ok (.getfield 159, 3) := by decide +kernel
theorem dX8_mark_75 : decode cX8_mark 75 = .ok (.iload 4, 2) := by decide +kernel
theorem dX8_mark_77 : decode cX8_mark 77 = .ok (.iastore, 1) := by decide +kernel
theorem dX8_mark_78 : decode cX8_mark 78 = .ok (.aload_n 0, 1) := by decide +kernel
theorem dX8_mark_79 : decode cX8_mark 79 = .ok (.dup, 1) := by decide +kernel
theorem dX8_mark_80 : decode cX8_mark 80 = .ok (.getfield 159, 3) := by decide +kernel
theorem dX8_mark_83 : decode cX8_mark 83 = .ok (.iconst 1, 1) := by decide +kernel
theorem dX8_mark_84 : decode cX8_mark 84 = .ok (.iadd, 1) := by decide +kernel
theorem dX8_mark_85 : decode cX8_mark 85 = .ok (.putfield 159, 3) := by decide +kernel
theorem dX8_mark_88 : decode cX8_mark 88 = .ok (.aload_n 0, 1) := by decide +kernel
theorem dX8_mark_89 : decode cX8_mark 89 = .ok (.getfield 159, 3) := by decide +kernel
theorem dX8_mark_92 : decode cX8_mark 92 = .ok (.ireturn, 1) := by decide +kernel
theorem dX8_clear_0 : decode cX8_clear 0 = .ok (.aload_n 0, 1) := by decide +kernel
theorem dX8_clear_1 : decode cX8_clear 1 = .ok (.getfield 159, 3) := by decide +kernel
theorem dX8_clear_4 : decode cX8_clear 4 = .ok (.istore_n 1, 1) := by decide +kernel
theorem dX8_clear_5 : decode cX8_clear 5 = .ok (.aload_n 0, 1) := by decide +kernel
theorem dX8_clear_6 : decode cX8_clear 6 = .ok (.iconst 0, 1) := by decide +kernel
theorem dX8_clear_7 : decode cX8_clear 7 = .ok (.putfield 159, 3) := by decide +kernel
theorem dX8_clear_10 : decode cX8_clear 10 = .ok (.iload_n 1, 1) := by decide +kernel
theorem dX8_clear_11 : decode cX8_clear 11 = .ok (.ireturn, 1) := by decide +kernel
theorem dX8_findFit_0 : decode cX8_findFit 0 = .ok (.lconst 0, 1) := by decide +kernel
theorem dX8_findFit_1 : decode cX8_findFit 1 = .ok (.lstore_n 1, 1) := by decide +kernel
theorem dX8_findFit_2 : decode cX8_findFit 2 = .ok (.lconst 0, 1) := by decide +kernel
theorem dX8_findFit_3 : decode cX8_findFit 3 = .ok (.lstore_n 3, 1) := by decide +kernel
theorem dX8_findFit_4 : decode cX8_findFit 4 = .ok (.lconst 0, 1) := by decide +kernel
theorem dX8_findFit_5 : decode cX8_findFit 5 = .ok (.lstore 5, 2) := by decide +kernel
theorem dX8_findFit_7 : decode cX8_findFit 7 = .ok (.lconst 0, 1) := by decide +kernel
theorem dX8_findFit_8 : decode cX8_findFit 8 = .ok (.lstore 7, 2) := by decide +kernel
theorem dX8_findFit_10 : decode cX8_findFit 10 = .ok (.lconst 0, 1) := by decide +kernel
theorem dX8_findFit_11 : decode cX8_findFit 11 = .ok (.lstore 9, 2) := by decide +kernel
theorem dX8_findFit_13 : decode cX8_findFit 13 = .ok (.lconst 0, 1) := by decide +kernel
theorem dX8_findFit_14 : decode cX8_findFit 14 = .ok (.lstore 11, 2) := by decide +kernel
theorem dX8_findFit_16 : decode cX8_findFit 16 = .ok (.lconst 0, 1) := by decide +kernel
theorem dX8_findFit_17 : decode cX8_findFit 17 = .ok (.lstore 13, 2) := by decide +kernel
theorem dX8_findFit_19 : decode cX8_findFit 19 = .ok (.iconst 0, 1) := by decide +kernel
theorem dX8_findFit_20 : decode cX8_findFit 20 = .ok (.istore 15, 2) := by decide +kernel
theorem dX8_findFit_22 : decode cX8_findFit 22 = .ok (.iload 15, 2) := by decide +kernel
theorem dX8_findFit_24 : decode cX8_findFit 24 = .ok (.aload_n 0, 1) := by decide +kernel
theorem dX8_findFit_25 : decode cX8_findFit 25 = .ok (.getfield 159, 3) := by decide +kernel
theorem dX8_findFit_28 : decode cX8_findFit 28 = .ok (.if_icmp .ge 168, 3) := by decide +kernel
theorem dX8_findFit_31 : decode cX8_findFit 31 = .ok (.lload_n 1, 1) := by decide +kernel
theorem dX8_findFit_32 : decode cX8_findFit 32 = .ok (.aload_n 0, 1) := by decide +kernel
theorem dX8_findFit_33 : decode cX8_findFit 33 = .ok (.getfield 51, 3) := by decide +kernel
theorem dX8_findFit_36 : decode cX8_findFit 36 = .ok (.iload 15, 2) := by decide +kernel
theorem dX8_findFit_38 : decode cX8_findFit 38 = .ok (.iaload, 1) := by decide +kernel
theorem dX8_findFit_39 : decode cX8_findFit 39 = .ok (.i2l, 1) := by decide +kernel
theorem dX8_findFit_40 : decode cX8_findFit 40 = .ok (.ladd, 1) := by decide +kernel
theorem dX8_findFit_41 : decode cX8_findFit 41 = .ok (.lstore_n 1, 1) := by decide +kernel
theorem dX8_findFit_42 : decode cX8_findFit 42 = .ok (.lload_n 3, 1) := by decide +kernel
theorem dX8_findFit_43 : decode cX8_findFit 43 = .ok (.aload_n 0, 1) := by decide +kernel
theorem dX8_findFit_44 : decode cX8_findFit 44 = .ok (.getfield 54, 3) := by decide +kernel
theorem dX8_findFit_47 : decode cX8_findFit 47 = .ok (.iload 15, 2) := by decide +kernel
theorem dX8_findFit_49 : decode cX8_findFit 49 = .ok (.iaload, 1) := by decide +kernel
theorem dX8_findFit_50 : decode cX8_findFit 50 = .ok (.i2l, 1) := by decide +kernel
theorem dX8_findFit_51 : decode cX8_findFit 51 = .ok (.ladd, 1) := by decide +kernel
theorem dX8_findFit_52 : decode cX8_findFit 52 = .ok (.lstore_n 3, 1) := by decide +kernel
theorem dX8_findFit_53 : decode cX8_findFit 53 = .ok (.lload 5, 2) := by decide +kernel
theorem dX8_findFit_55 : decode cX8_findFit 55 = .ok (.aload_n 0, 1) := by decide +kernel
theorem dX8_findFit_56 : decode cX8_findFit 56 = .ok (.getfield 57, 3) := by decide +kernel
theorem dX8_findFit_59 : decode cX8_findFit 59 = .ok (.iload 15, 2) := by decide +kernel
theorem dX8_findFit_61 : decode cX8_findFit 61 = .ok (.iaload, 1) := by decide +kernel
theorem dX8_findFit_62 : decode cX8_findFit 62 = .ok (.i2l, 1) := by decide +kernel
theorem dX8_findFit_63 : decode cX8_findFit 63 = .ok (.ladd, 1) := by decide +kernel
theorem dX8_findFit_64 : decode cX8_findFit 64 = .ok (.lstore 5, 2) := by decide +kernel
theorem dX8_findFit_66 : decode cX8_findFit 66 = .ok (.lload 7, 2) := by decide +kernel
theorem dX8_findFit_68 : decode cX8_findFit 68 = .ok (.aload_n 0, 1) := by decide +kernel
theorem dX8_findFit_69 : decode cX8_findFit 69 = .ok (.getfield 60, 3) := by decide +kernel
theorem dX8_findFit_72 : decode cX8_findFit 72 = .ok (.iload 15, 2) := by decide +kernel
theorem dX8_findFit_74 : decode cX8_findFit 74 = .ok (.iaload, 1) := by decide +kernel
theorem dX8_findFit_75 : decode cX8_findFit 75 = .ok (.i2l, 1) := by decide +kernel
theorem dX8_findFit_76 : decode cX8_findFit 76 = .ok (.ladd, 1) := by decide +kernel
theorem dX8_findFit_77 : decode cX8_findFit 77 = .ok (.lstore 7, 2) := by decide +kernel
theorem dX8_findFit_79 : decode cX8_findFit 79 = .ok (.lload 9, 2) := by decide +kernel
theorem dX8_findFit_81 : decode cX8_findFit 81 = .ok (.aload_n 0, 1) := by decide +kernel
theorem dX8_findFit_82 : decode cX8_findFit 82 = .ok (.getfield 51, 3) := by decide +kernel
theorem dX8_findFit_85 : decode cX8_findFit 85 = .ok (.iload 15, 2) := by decide +kernel
theorem dX8_findFit_87 : decode cX8_findFit 87 = .ok (.iaload, 1) := by decide +kernel
theorem dX8_findFit_88 : decode cX8_findFit 88 = .ok (.aload_n 0, 1) := by decide +kernel
theorem dX8_findFit_89 : decode cX8_findFit 89 = .ok (.getfield 51, 3) := by decide +kernel
theorem dX8_findFit_92 : decode cX8_findFit 92 = .ok (.iload 15, 2) := by decide +kernel
theorem dX8_findFit_94 : decode cX8_findFit 94 = .ok (.iaload, 1) := by decide +kernel
theorem dX8_findFit_95 : decode cX8_findFit 95 = .ok (.imul, 1) := by decide +kernel
theorem dX8_findFit_96 : decode cX8_findFit 96 = .ok (.aload_n 0, 1) := by decide +kernel
theorem dX8_findFit_97 : decode cX8_findFit 97 = .ok (.getfield 54, 3) := by decide +kernel
theorem dX8_findFit_100 : decode cX8_findFit 100 = .ok (.iload 15, 2) := by decide +kernel
theorem dX8_findFit_102 : decode cX8_findFit 102 = .ok (.iaload, 1) := by decide +kernel
theorem dX8_findFit_103 : decode cX8_findFit 103 = .ok (.aload_n 0, 1) := by decide +kernel
theorem dX8_findFit_104 : decode cX8_findFit 104 = .ok (.getfield 54, 3) := by decide +kernel
theorem dX8_findFit_107 : decode cX8_findFit 107 = .ok (.iload 15, 2) := by decide +kernel
theorem dX8_findFit_109 : decode cX8_findFit 109 = .ok (.iaload, 1) := by decide +kernel
theorem dX8_findFit_110 : decode cX8_findFit 110 = .ok (.imul, 1) := by decide +kernel
theorem dX8_findFit_111 : decode cX8_findFit 111 = .ok (.iadd, 1) := by decide +kernel
theorem dX8_findFit_112 : decode cX8_findFit 112 = .ok (.i2l, 1) := by decide +kernel
theorem dX8_findFit_113 : decode cX8_findFit 113 = .ok (.ladd, 1) := by decide +kernel
theorem dX8_findFit_114 : decode cX8_findFit 114 = .ok (.lstore 9, 2) := by decide +kernel
theorem dX8_findFit_116 : decode cX8_findFit 116 = .ok (.lload 11, 2) := by decide +kernel
theorem dX8_findFit_118 : decode cX8_findFit 118 = .ok (.aload_n 0, 1) := by decide +kernel
theorem dX8_findFit_119 : decode cX8_findFit 119 = .ok (.getfield 51, 3) := by decide +kernel
theorem dX8_findFit_122 : decode cX8_findFit 122 = .ok (.iload 15, 2) := by decide +kernel
theorem dX8_findFit_124 : decode cX8_findFit 124 = .ok (.iaload, 1) := by decide +kernel
theorem dX8_findFit_125 : decode cX8_findFit 125 = .ok (.aload_n 0, 1) := by decide +kernel
theorem dX8_findFit_126 : decode cX8_findFit 126 = .ok (.getfield 57, 3) := by decide +kernel
theorem dX8_findFit_129 : decode cX8_findFit 129 = .ok (.iload 15, 2) := by decide +kernel
theorem dX8_findFit_131 : decode cX8_findFit 131 = .ok (.iaload, 1) := by decide +kernel
theorem dX8_findFit_132 : decode cX8_findFit 132 = .ok (.imul, 1) := by decide +kernel
theorem dX8_findFit_133 : decode cX8_findFit 133 = .ok (.aload_n 0, 1) := by decide +kernel
theorem dX8_findFit_134 : decode cX8_findFit 134 = .ok (.getfield 54, 3) := by decide +kernel
theorem dX8_findFit_137 : decode cX8_findFit 137 = .ok (.iload 15, 2) := by decide +kernel
theorem dX8_findFit_139 : decode cX8_findFit 139 = .ok (.iaload, 1) := by decide +kernel
theorem dX8_findFit_140 : decode cX8_findFit 140 = .ok (.aload_n 0, 1) := by decide +kernel
theorem dX8_findFit_141 : decode cX8_findFit 141 = .ok (.getfield 60, 3) := by decide +kernel
theorem dX8_findFit_144 : decode cX8_findFit 144 = .ok (.iload 15, 2) := by decide +kernel
theorem dX8_findFit_146 : decode cX8_findFit 146 = .ok (.iaload, 1) := by decide +kernel
theorem dX8_findFit_147 : decode cX8_findFit 147 = .ok (.imul, 1) := by decide +kernel
theorem dX8_findFit_148 : decode cX8_findFit 148 = .ok (.iadd, 1) := by decide +kernel
theorem dX8_findFit_149 : decode cX8_findFit 149 = .ok (.i2l, 1) := by decide +kernel
theorem dX8_findFit_150 : decode cX8_findFit 150 = .ok (.ladd, 1) := by decide +kernel
theorem dX8_findFit_151 : decode cX8_findFit 151 = .ok (.lstore 11, 2) := by decide +kernel
theorem dX8_findFit_153 : decode cX8_findFit 153 = .ok (.lload 13, 2) := by decide +kernel
theorem dX8_findFit_155 : decode cX8_findFit 155 = .ok (.aload_n 0, 1) := by decide +kernel
theorem dX8_findFit_156 : decode cX8_findFit 156 = .ok (.getfield 51, 3) := by decide +kernel
theorem dX8_findFit_159 : decode cX8_findFit 159 = .ok (.iload 15, 2) := by decide +kernel
theorem dX8_findFit_161 : decode cX8_findFit 161 = .ok (.iaload, 1) := by decide +kernel
theorem dX8_findFit_162 : decode cX8_findFit 162 = .ok (.aload_n 0, 1) := by decide +kernel
theorem dX8_findFit_163 : decode cX8_findFit 163 = .ok (.getfield 60, 3) := by decide +kernel
theorem dX8_findFit_166 : decode cX8_findFit 166 = .ok (.iload 15, 2) := by decide +kernel
theorem dX8_findFit_168 : decode cX8_findFit 168 = .ok (.iaload, 1) := by decide +kernel
theorem dX8_findFit_169 : decode cX8_findFit 169 = .ok (.imul, 1) := by decide +kernel
theorem dX8_findFit_170 : decode cX8_findFit 170 = .ok (.aload_n 0, 1) := by decide +kernel
theorem dX8_findFit_171 : decode cX8_findFit 171 = .ok (.getfield 54, 3) := by decide +kernel
theorem dX8_findFit_174 : decode cX8_findFit 174 = .ok (.iload 15, 2) := by decide +kernel
theorem dX8_findFit_176 : decode cX8_findFit 176 = .ok (.iaload, 1) := by decide +kernel
theorem dX8_findFit_177 : decode cX8_findFit 177 = .ok (.aload_n 0, 1) := by decide +kernel
theorem dX8_findFit_178 : decode cX8_findFit 178 = .ok (.getfield 57, 3) := by decide +kernel
theorem dX8_findFit_181 : decode cX8_findFit 181 = .ok (.iload 15, 2) := by decide +kernel
theorem dX8_findFit_183 : decode cX8_findFit 183 = .ok (.iaload, 1) := by decide +kernel
theorem dX8_findFit_184 : decode cX8_findFit 184 = .ok (.imul, 1) := by decide +kernel
theorem dX8_findFit_185 : decode cX8_findFit 185 = .ok (.isub, 1) := by decide +kernel
theorem dX8_findFit_186 : decode cX8_findFit 186 = .ok (.i2l, 1) := by decide +kernel
theorem dX8_findFit_187 : decode cX8_findFit 187 = .ok (.ladd, 1) := by decide +kernel
theorem dX8_findFit_188 : decode cX8_findFit 188 = .ok (.lstore 13, 2) := by decide +kernel
theorem dX8_findFit_190 : decode cX8_findFit 190 = .ok (.iinc 15 1, 3) := by decide +kernel
theorem dX8_findFit_193 : decode cX8_findFit 193 = .ok (.goto (-171), 3) := by decide +kernel
theorem dX8_findFit_196 : decode cX8_findFit 196 = .ok (.aload_n 0, 1) := by decide +kernel
theorem dX8_findFit_197 : decode cX8_findFit 197 = .ok (.aload_n 0, 1) := by decide +kernel
theorem dX8_findFit_198 : decode cX8_findFit 198 = .ok (.getfield 159, 3) := by decide +kernel
theorem dX8_findFit_201 : decode cX8_findFit 201 = .ok (.i2l, 1) := by decide +kernel
theorem dX8_findFit_202 : decode cX8_findFit 202 = .ok (.lload 9, 2) := by decide +kernel
theorem dX8_findFit_204 : decode cX8_findFit 204 = .ok (.lmul, 1) := by decide +kernel
theorem dX8_findFit_205 : decode cX8_findFit 205 = .ok (.lload_n 1, 1) := by decide +kernel
theorem dX8_findFit_206 : decode cX8_findFit 206 = .ok (.lload_n 1, 1) := by decide +kernel
theorem dX8_findFit_207 : decode cX8_findFit 207 = .ok (.lmul, 1) := by decide +kernel
theorem dX8_findFit_208 : decode cX8_findFit 208 = .ok (.lsub, 1) := by decide +kernel
theorem dX8_findFit_209 : decode cX8_findFit 209 = .ok (.lload_n 3, 1) := by decide +kernel
theorem dX8_findFit_210 : decode cX8_findFit 210 = .ok (.lload_n 3, 1) := by decide +kernel
theorem dX8_findFit_211 : decode cX8_findFit 211 = .ok (.lmul, 1) := by decide +kernel
theorem dX8_findFit_212 : decode cX8_findFit 212 = .ok (.lsub, 1) := by decide +kernel
theorem dX8_findFit_213 : decode cX8_findFit 213 = .ok (.putfield 162, 3) := by decide +kernel
theorem dX8_findFit_216 : decode cX8_findFit 216 = .ok (.aload_n 0, 1) := by decide +kernel
theorem dX8_findFit_217 : decode cX8_findFit 217 = .ok (.aload_n 0, 1) := by decide +kernel
theorem dX8_findFit_218 : decode cX8_findFit 218 = .ok (.getfield 159, 3) := by decide +kernel
theorem dX8_findFit_221 : decode cX8_findFit 221 = .ok (.i2l, 1) := by decide +kernel
theorem dX8_findFit_222 : decode cX8_findFit 222 = .ok (.lload 11, 2) := by decide +kernel
theorem dX8_findFit_224 : decode cX8_findFit 224 = .ok (.lmul, 1) := by decide +kernel
theorem dX8_findFit_225 : decode cX8_findFit 225 = .ok (.lload_n 1, 1) := by decide +kernel
theorem dX8_findFit_226 : decode cX8_findFit 226 = .ok (.lload 5, 2) := by decide +kernel
theorem dX8_findFit_228 : decode cX8_findFit 228 = .ok (.lmul, 1) := by decide +kernel
theorem dX8_findFit_229 : decode cX8_findFit 229 = .ok (.lsub, 1) := by decide +kernel
theorem dX8_findFit_230 : decode cX8_findFit 230 = .ok (.lload_n 3, 1) := by decide +kernel
theorem dX8_findFit_231 : decode cX8_findFit 231 = .ok (.lload 7, 2) := by decide +kernel
theorem dX8_findFit_233 : decode cX8_findFit 233 = .ok (.lmul, 1) := by decide +kernel
theorem dX8_findFit_234 : decode cX8_findFit 234 = .ok (.lsub, 1) := by decide +kernel
theorem dX8_findFit_235 : decode cX8_findFit 235 = .ok (.putfield 166, 3) := by decide +kernel
theorem dX8_findFit_238 : decode cX8_findFit 238 = .ok (.aload_n 0, 1) := by decide +kernel
theorem dX8_findFit_239 : decode cX8_findFit 239 = .ok (.aload_n 0, 1) := by decide +kernel
theorem dX8_findFit_240 : decode cX8_findFit 240 = .ok (.getfield 159, 3) := by decide +kernel
theorem dX8_findFit_243 : decode cX8_findFit 243 = .ok (.i2l, 1) := by decide +kernel
theorem dX8_findFit_244 : decode cX8_findFit 244 = .ok (.lload 13, 2) := by decide +kernel
theorem dX8_findFit_246 : decode cX8_findFit 246 = .ok (.lmul, 1) := by decide +kernel
theorem dX8_findFit_247 : decode cX8_findFit 247 = .ok (.lload_n 1, 1) := by decide +kernel
theorem dX8_findFit_248 : decode cX8_findFit 248 = .ok (.lload 7, 2) := by decide +kernel
theorem dX8_findFit_250 : decode cX8_findFit 250 = .ok (.lmul, 1) := by decide +kernel
theorem dX8_findFit_251 : decode cX8_findFit 251 = .ok (.lsub, 1) := by decide +kernel
theorem dX8_findFit_252 : decode cX8_findFit 252 = .ok (.lload_n 3, 1) := by decide +kernel
theorem dX8_findFit_253 : decode cX8_findFit 253 = .ok (.lload 5, 2) := by decide +kernel
theorem dX8_findFit_255 : decode cX8_findFit 255 = .ok (.lmul, 1) := by decide +kernel
theorem dX8_findFit_256 : decode cX8_findFit 256 = .ok (.ladd, 1) := by decide +kernel
theorem dX8_findFit_257 : decode cX8_findFit 257 = .ok (.putfield 169, 3) := by decide +kernel
theorem dX8_findFit_260 : decode cX8_findFit 260 = .ok (.aload_n 0, 1) := by decide +kernel
theorem dX8_findFit_261 : decode cX8_findFit 261 = .ok (.lload 5, 2) := by decide +kernel
theorem dX8_findFit_263 : decode cX8_findFit 263 = .ok (.aload_n 0, 1) := by decide +kernel
theorem dX8_findFit_264 : decode cX8_findFit 264 = .ok (.getfield 162, 3) := by decide +kernel
theorem dX8_findFit_267 : decode cX8_findFit 267 = .ok (.lmul, 1) := by decide +kernel
theorem dX8_findFit_268 : decode cX8_findFit 268 = .ok (.aload_n 0, 1) := by decide +kernel
theorem dX8_findFit_269 : decode cX8_findFit 269 = .ok (.getfield 166, 3) := by decide +kernel
theorem dX8_findFit_272 : decode cX8_findFit 272 = .ok (.lload_n 1, 1) := by decide +kernel
theorem dX8_findFit_273 : decode cX8_findFit 273 = .ok (.lmul, 1) := by decide +kernel
theorem dX8_findFit_274 : decode cX8_findFit 274 = .ok (.lsub, 1) := by decide +kernel
theorem dX8_findFit_275 : decode cX8_findFit 275 = .ok (.aload_n 0, 1) := by decide +kernel
theorem dX8_findFit_276 : decode cX8_findFit 276 = .ok (.getfield 169, 3) := by decide +kernel
theorem dX8_findFit_279 : decode cX8_findFit 279 = .ok (.lload_n 3, 1) := by decide +kernel
theorem dX8_findFit_280 : decode cX8_findFit 280 = .ok (.lmul, 1) := by decide +kernel
theorem dX8_findFit_281 : decode cX8_findFit 281 = .ok (.ladd, 1) := by decide +kernel
theorem dX8_findFit_282 : decode cX8_findFit 282 = .ok (.putfield 172, 3) := by decide +kernel
theorem dX8_findFit_285 : decode cX8_findFit 285 = .ok (.aload_n 0, 1) := by decide +kernel
theorem dX8_findFit_286 : decode cX8_findFit 286 = .ok (.lload 7, 2) := by decide +kernel
theorem dX8_findFit_288 : decode cX8_findFit 288 = .ok (.aload_n 0, 1) := by decide +kernel
theorem dX8_findFit_289 : decode cX8_findFit 289 = .ok (.getfield 162, 3) := by decide +kernel
theorem dX8_findFit_292 : decode cX8_findFit 292 = .ok (.lmul, 1) := by decide +kernel
theorem dX8_findFit_293 : decode cX8_findFit 293 = .ok (.aload_n 0, 1) := by decide +kernel
theorem dX8_findFit_294 : decode cX8_findFit 294 = .ok (.getfield 166, 3) := by decide +kernel
theorem dX8_findFit_297 : decode cX8_findFit 297 = .ok (.lload_n 3, 1) := by decide +kernel
theorem dX8_findFit_298 : decode cX8_findFit 298 = .ok (.lmul, 1) := by decide +kernel
theorem dX8_findFit_299 : decode cX8_findFit 299 = .ok (.lsub, 1) := by decide +kernel
theorem dX8_findFit_300 : decode cX8_findFit 300 = .ok (.aload_n 0, 1) := by decide +kernel
theorem dX8_findFit_301 : decode cX8_findFit 301 = .ok (.getfield 169, 3) := by decide +kernel
theorem dX8_findFit_304 : decode cX8_findFit 304 = .ok (.lload_n 1, 1) := by decide +kernel
theorem dX8_findFit_305 : decode cX8_findFit 305 = .ok (.lmul, 1) := by decide +kernel
theorem dX8_findFit_306 : decode cX8_findFit 306 = .ok (.lsub, 1) := by decide +kernel
theorem dX8_findFit_307 : decode cX8_findFit 307 = .ok (.putfield 175, 3) := by decide +kernel
theorem dX8_findFit_310 : decode cX8_findFit 310 = .ok (.aload_n 0, 1) := by decide +kernel
theorem dX8_findFit_311 : decode cX8_findFit 311 = .ok (.getfield 162, 3) := by decide +kernel
theorem dX8_findFit_314 : decode cX8_findFit 314 = .ok (.lconst 0, 1) := by decide +kernel
theorem dX8_findFit_315 : decode cX8_findFit 315 = .ok (.lcmp, 1) := by decide +kernel
theorem dX8_findFit_316 : decode cX8_findFit 316 = .ok (.ifCond .le 7, 3) := by decide +kernel
theorem dX8_findFit_319 : decode cX8_findFit 319 = .ok (.iconst 1, 1) := by decide +kernel
theorem dX8_findFit_320 : decode cX8_findFit 320 = .ok (.goto 4, 3) := by decide +kernel
theorem dX8_findFit_323 : decode cX8_findFit 323 = .ok (.iconst 0, 1) := by decide +kernel
theorem dX8_findFit_324 : decode cX8_findFit 324 = .ok (.ireturn, 1) := by decide +kernel
theorem dX8_lowest_0 : decode cX8_lowest 0 = .ok (.lload_n 0, 1) := by decide +kernel
theorem dX8_lowest_1 : decode cX8_lowest 1 = .ok (.lconst 0, 1) := by decide +kernel
theorem dX8_lowest_2 : decode cX8_lowest 2 = .ok (.lcmp, 1) := by decide +kernel
theorem dX8_lowest_3 : decode cX8_lowest 3 = .ok (.ifCond .ge 8, 3) := by decide +kernel
theorem dX8_lowest_6 : decode cX8_lowest 6 = .ok (.lload_n 0, 1) := by decide +kernel
theorem dX8_lowest_7 : decode cX8_lowest 7 = .ok (.lneg, 1) := by decide +kernel
theorem dX8_lowest_8 : decode cX8_lowest 8 = .ok (.goto 4, 3) := by decide +kernel
theorem dX8_lowest_11 : decode cX8_lowest 11 = .ok (.lload_n 0, 1) := by decide +kernel
theorem dX8_lowest_12 : decode cX8_lowest 12 = .ok (.lstore 5, 2) := by decide +kernel
theorem dX8_lowest_14 : decode cX8_lowest 14 = .ok (.lload_n 2, 1) := by decide +kernel
theorem dX8_lowest_15 : decode cX8_lowest 15 = .ok (.lstore 7, 2) := by decide +kernel
theorem dX8_lowest_17 : decode cX8_lowest 17 = .ok (.lload 7, 2) := by decide +kernel
theorem dX8_lowest_19 : decode cX8_lowest 19 = .ok (.lconst 0, 1) := by decide +kernel
theorem dX8_lowest_20 : decode cX8_lowest 20 = .ok (.lcmp, 1) := by decide +kernel
theorem dX8_lowest_21 : decode cX8_lowest 21 = .ok (.ifCond .eq 21, 3) := by decide +kernel
theorem dX8_lowest_24 : decode cX8_lowest 24 = .ok (.lload 5, 2) := by decide +kernel
theorem dX8_lowest_26 : decode cX8_lowest 26 = .ok (.lload 7, 2) := by decide +kernel
theorem dX8_lowest_28 : decode cX8_lowest 28 = .ok (.lrem, 1) := by decide +kernel
theorem dX8_lowest_29 : decode cX8_lowest 29 = .ok (.lstore 9, 2) := by decide +kernel
theorem dX8_lowest_31 : decode cX8_lowest 31 = .ok (.lload 7, 2) := by decide +kernel
theorem dX8_lowest_33 : decode cX8_lowest 33 = .ok (.lstore 5, 2) := by decide +kernel
theorem dX8_lowest_35 : decode cX8_lowest 35 = .ok (.lload 9, 2) := by decide +kernel
theorem dX8_lowest_37 : decode cX8_lowest 37 = .ok (.lstore 7, 2) := by decide +kernel
theorem dX8_lowest_39 : decode cX8_lowest 39 = .ok (.goto (-22), 3) := by decide +kernel
theorem dX8_lowest_42 : decode cX8_lowest 42 = .ok (.iload 4, 2) := by decide +kernel
theorem dX8_lowest_44 : decode cX8_lowest 44 = .ok (.ifCond .ne 10, 3) := by decide +kernel
theorem dX8_lowest_47 : decode cX8_lowest 47 = .ok (.lload_n 0, 1) := by decide +kernel
theorem dX8_lowest_48 : decode cX8_lowest 48 = .ok (.lload 5, 2) := by decide +kernel
theorem dX8_lowest_50 : decode cX8_lowest 50 = .ok (.ldiv, 1) := by decide +kernel
theorem dX8_lowest_51 : decode cX8_lowest 51 = .ok (.goto 7, 3) := by decide +kernel
theorem dX8_lowest_54 : decode cX8_lowest 54 = .ok (.lload_n 2, 1) := by decide +kernel
theorem dX8_lowest_55 : decode cX8_lowest 55 = .ok (.lload 5, 2) := by decide +kernel
theorem dX8_lowest_57 : decode cX8_lowest 57 = .ok (.ldiv, 1) := by decide +kernel
theorem dX8_lowest_58 : decode cX8_lowest 58 = .ok (.lreturn, 1) := by decide +kernel
set_option maxRecDepth 20000 in
theorem ggX8_fit_X8_in : GoodIn wsX8_fit wsX8_in := goodIn_r _ [13] rfl (by decide +kernel)
set_option maxRecDepth 20000 in
theorem gX8_fit_X8_in : GoodIn wsX8_fit (va_wsS RX8 103 yX8_in wsX8_in) := goodIn_app (goodIn_of _ (by decide +kernel)) ggX8_fit_X8_in
set_option maxRecDepth 20000 in
theorem ggX8_fit_X8_findFit : GoodIn wsX8_fit wsX8_findFit := goodIn_r _ [17, 8, 18, 19, 20, 21, 5, 4, 6, 7, 9, 25, 26, 27, 28, 29, 30, 31, 32, 33, 34, 35, 36, 37, 38, 39, 40, 41, 42, 43, 44, 45, 46, 47, 48, 49, 50, 51, 52, 53, 54, 55, 56, 57, 58, 59, 60, 61] rfl (by decide +kernel)
set_option maxRecDepth 20000 in
theorem gX8_fit_X8_findFit : GoodIn wsX8_fit (wsV RX8 182 RX8 yX8_findFit wsX8_findFit) := goodIn_app (goodIn_of _ (by decide +kernel)) ggX8_fit_X8_findFit
set_option maxRecDepth 20000 in
theorem ggX8_fit_X8_lowest : GoodIn wsX8_fit wsX8_lowest := goodIn_r _ [24] rfl (by decide +kernel)
set_option maxRecDepth 20000 in
theorem gX8_fit_X8_lowest : GoodIn wsX8_fit (va_wsS RX8 188 yX8_lowest wsX8_lowest) := goodIn_app (goodIn_of _ (by decide +kernel)) ggX8_fit_X8_lowest
theorem dX8_fit_0 : decode cX8_fit 0 = .ok (.iload_n 1, 1) := by decide +kernel
theorem dX8_fit_1 : decode cX8_fit 1 = .ok (.i2l, 1) := by decide +kernel
theorem dX8_fit_2 : decode cX8_fit 2 = .ok (.lconst 0, 1) := by decide +kernel
theorem dX8_fit_3 : decode cX8_fit 3 = .ok (.ldc2_w 178, 3) := by decide +kernel
theorem dX8_fit_6 : decode cX8_fit 6 = .ok (.invokestatic 103, 3) := by decide +kernel
theorem dX8_fit_9 : decode cX8_fit 9 = .ok (.ifCond .eq 13, 3) := by decide +kernel
theorem dX8_fit_12 : decode cX8_fit 12 = .ok (.iload_n 2, 1) := by decide +kernel
theorem dX8_fit_13 : decode cX8_fit 13 = .ok (.i2l, 1) := by decide +kernel
theorem dX8_fit_14 : decode cX8_fit 14 = .ok (.lconst 0, 1) := by decide +kernel
theorem dX8_fit_15 : decode cX8_fit 15 = .ok (.lconst 1, 1) := by decide +kernel
theorem dX8_fit_16 : decode cX8_fit 16 = .ok (.invokestatic 103, 3) := by decide +kernel
theorem dX8_fit_19 : decode cX8_fit 19 = .ok (.ifCond .ne 7, 3) := by decide +kernel
theorem dX8_fit_22 : decode cX8_fit 22 = .ok (.ldc2_w 180, 3) := by decide +kernel
theorem dX8_fit_25 : decode cX8_fit 25 = .ok (.lreturn, 1) := by decide +kernel
theorem dX8_fit_26 : decode cX8_fit 26 = .ok (.aload_n 0, 1) := by decide +kernel
theorem dX8_fit_27 : decode cX8_fit 27 = .ok (.invokevirtual 182, 3) := by decide +kernel
theorem dX8_fit_30 : decode cX8_fit 30 = .ok (.ifCond .ne 7, 3) := by decide +kernel
theorem dX8_fit_33 : decode cX8_fit 33 = .ok (.ldc2_w 186, 3) := by decide +kernel
theorem dX8_fit_36 : decode cX8_fit 36 = .ok (.lreturn, 1) := by decide +kernel
theorem dX8_fit_37 : decode cX8_fit 37 = .ok (.iload_n 1, 1) := by decide +kernel
theorem dX8_fit_38 : decode cX8_fit 38 = .ok (.tableswitch 71 0 2 #[26, 39, 52], 26) := by decide +kernel
theorem dX8_fit_64 : decode cX8_fit 64 = .ok (.aload_n 0, 1) := by decide +kernel
theorem dX8_fit_65 : decode cX8_fit 65 = .ok (.getfield 166, 3) := by decide +kernel
theorem dX8_fit_68 : decode cX8_fit 68 = .ok (.aload_n 0, 1) := by decide +kernel
theorem dX8_fit_69 : decode cX8_fit 69 = .ok (.getfield 162, 3) := by decide +kernel
theorem dX8_fit_72 : decode cX8_fit 72 = .ok (.iload_n 2, 1) := by decide +kernel
theorem dX8_fit_73 : decode cX8_fit 73 = .ok (.invokestatic 188, 3) := by decide +kernel
theorem dX8_fit_76 : decode cX8_fit 76 = .ok (.lreturn, 1) := by decide +kernel
theorem dX8_fit_77 : decode cX8_fit 77 = .ok (.aload_n 0, 1) := by decide +kernel
theorem dX8_fit_78 : decode cX8_fit 78 = .ok (.getfield 169, 3) := by decide +kernel
theorem dX8_fit_81 : decode cX8_fit 81 = .ok (.aload_n 0, 1) := by decide +kernel
theorem dX8_fit_82 : decode cX8_fit 82 = .ok (.getfield 162, 3) := by decide +kernel
theorem dX8_fit_85 : decode cX8_fit 85 = .ok (.iload_n 2, 1) := by decide +kernel
theorem dX8_fit_86 : decode cX8_fit 86 = .ok (.invokestatic 188, 3) := by decide +kernel
theorem dX8_fit_89 : decode cX8_fit 89 = .ok (.lreturn, 1) := by decide +kernel
theorem dX8_fit_90 : decode cX8_fit 90 = .ok (.aload_n 0, 1) := by decide +kernel
theorem dX8_fit_91 : decode cX8_fit 91 = .ok (.getfield 172, 3) := by decide +kernel
theorem dX8_fit_94 : decode cX8_fit 94 = .ok (.aload_n 0, 1) := by decide +kernel
theorem dX8_fit_95 : decode cX8_fit 95 = .ok (.getfield 162, 3) := by decide +kernel
theorem dX8_fit_98 : decode cX8_fit 98 = .ok (.aload_n 0, 1) := by decide +kernel
theorem dX8_fit_99 : decode cX8_fit 99 = .ok (.getfield 159, 3) := by decide +kernel
theorem dX8_fit_102 : decode cX8_fit 102 = .ok (.i2l, 1) := by decide +kernel
theorem dX8_fit_103 : decode cX8_fit 103 = .ok (.lmul, 1) := by decide +kernel
theorem dX8_fit_104 : decode cX8_fit 104 = .ok (.iload_n 2, 1) := by decide +kernel
theorem dX8_fit_105 : decode cX8_fit 105 = .ok (.invokestatic 188, 3) := by decide +kernel
theorem dX8_fit_108 : decode cX8_fit 108 = .ok (.lreturn, 1) := by decide +kernel
theorem dX8_fit_109 : decode cX8_fit 109 = .ok (.aload_n 0, 1) := by decide +kernel
theorem dX8_fit_110 : decode cX8_fit 110 = .ok (.getfield 175, 3) := by decide +kernel
theorem dX8_fit_113 : decode cX8_fit 113 = .ok (.aload_n 0, 1) := by decide +kernel
theorem dX8_fit_114 : decode cX8_fit 114 = .ok (.getfield 162, 3) := by decide +kernel
theorem dX8_fit_117 : decode cX8_fit 117 = .ok (.aload_n 0, 1) := by decide +kernel
theorem dX8_fit_118 : decode cX8_fit 118 = .ok (.getfield 159, 3) := by decide +kernel
theorem dX8_fit_121 : decode cX8_fit 121 = .ok (.i2l, 1) := by decide +kernel
theorem dX8_fit_122 : decode cX8_fit 122 = .ok (.lmul, 1) := by decide +kernel
theorem dX8_fit_123 : decode cX8_fit 123 = .ok (.iload_n 2, 1) := by decide +kernel
theorem dX8_fit_124 : decode cX8_fit 124 = .ok (.invokestatic 188, 3) := by decide +kernel
theorem dX8_fit_127 : decode cX8_fit 127 = .ok (.lreturn, 1) := by decide +kernel
set_option maxRecDepth 20000 in
theorem ggX8_off_X8_in : GoodIn wsX8_off wsX8_in := goodIn_r _ [18] rfl (by decide +kernel)
set_option maxRecDepth 20000 in
theorem gX8_off_X8_in : GoodIn wsX8_off (va_wsS RX8 103 yX8_in wsX8_in) := goodIn_app (goodIn_of _ (by decide +kernel)) ggX8_off_X8_in
set_option maxRecDepth 20000 in
theorem ggX8_off_X8_findFit : GoodIn wsX8_off wsX8_findFit := goodIn_r _ [22, 1, 8, 10, 6, 12, 5, 7, 9, 11, 13, 23, 24, 25, 26, 27, 28, 29, 30, 31, 32, 33, 34, 35, 36, 37, 38, 39, 40, 41, 42, 43, 44, 45, 46, 47, 48, 49, 50, 51, 52, 53, 54, 55, 56, 57, 58, 59] rfl (by decide +kernel)
set_option maxRecDepth 20000 in
theorem gX8_off_X8_findFit : GoodIn wsX8_off (wsV RX8 182 RX8 yX8_findFit wsX8_findFit) := goodIn_app (goodIn_of _ (by decide +kernel)) ggX8_off_X8_findFit
theorem dX8_off_0 : decode cX8_off 0 = .ok (.iload_n 1, 1) := by decide +kernel
theorem dX8_off_1 : decode cX8_off 1 = .ok (.i2l, 1) := by decide +kernel
theorem dX8_off_2 : decode cX8_off 2 = .ok (.lconst 0, 1) := by decide +kernel
theorem dX8_off_3 : decode cX8_off 3 = .ok (.aload_n 0, 1) := by decide +kernel
theorem dX8_off_4 : decode cX8_off 4 = .ok (.getfield 159, 3) := by decide +kernel
theorem dX8_off_7 : decode cX8_off 7 = .ok (.iconst 1, 1) := by decide +kernel
theorem dX8_off_8 : decode cX8_off 8 = .ok (.isub, 1) := by decide +kernel
theorem dX8_off_9 : decode cX8_off 9 = .ok (.i2l, 1) := by decide +kernel
theorem dX8_off_10 : decode cX8_off 10 = .ok (.invokestatic 103, 3) := by decide +kernel
theorem dX8_off_13 : decode cX8_off 13 = .ok (.ifCond .ne 6, 3) := by decide +kernel
theorem dX8_off_16 : decode cX8_off 16 = .ok (.ldc 113, 2) := by decide +kernel
theorem dX8_off_18 : decode cX8_off 18 = .ok (.ireturn, 1) := by decide +kernel
theorem dX8_off_19 : decode cX8_off 19 = .ok (.iload_n 2, 1) := by decide +kernel
theorem dX8_off_20 : decode cX8_off 20 = .ok (.i2l, 1) := by decide +kernel
theorem dX8_off_21 : decode cX8_off 21 = .ok (.lconst 0, 1) := by decide +kernel
theorem dX8_off_22 : decode cX8_off 22 = .ok (.lconst 1, 1) := by decide +kernel
theorem dX8_off_23 : decode cX8_off 23 = .ok (.invokestatic 103, 3) := by decide +kernel
theorem dX8_off_26 : decode cX8_off 26 = .ok (.ifCond .ne 6, 3) := by decide +kernel
theorem dX8_off_29 : decode cX8_off 29 = .ok (.ldc 118, 2) := by decide +kernel
theorem dX8_off_31 : decode cX8_off 31 = .ok (.ireturn, 1) := by decide +kernel
theorem dX8_off_32 : decode cX8_off 32 = .ok (.aload_n 0, 1) := by decide +kernel
theorem dX8_off_33 : decode cX8_off 33 = .ok (.invokevirtual 182, 3) := by decide +kernel
theorem dX8_off_36 : decode cX8_off 36 = .ok (.ifCond .ne 6, 3) := by decide +kernel
theorem dX8_off_39 : decode cX8_off 39 = .ok (.ldc 192, 2) := by decide +kernel
theorem dX8_off_41 : decode cX8_off 41 = .ok (.ireturn, 1) := by decide +kernel
theorem dX8_off_42 : decode cX8_off 42 = .ok (.aload_n 0, 1) := by decide +kernel
theorem dX8_off_43 : decode cX8_off 43 = .ok (.getfield 162, 3) := by decide +kernel
theorem dX8_off_46 : decode cX8_off 46 = .ok (.aload_n 0, 1) := by decide +kernel
theorem dX8_off_47 : decode cX8_off 47 = .ok (.getfield 159, 3) := by decide +kernel
theorem dX8_off_50 : decode cX8_off 50 = .ok (.i2l, 1) := by decide +kernel
theorem dX8_off_51 : decode cX8_off 51 = .ok (.lmul, 1) := by decide +kernel
theorem dX8_off_52 : decode cX8_off 52 = .ok (.lstore_n 3, 1) := by decide +kernel
theorem dX8_off_53 : decode cX8_off 53 = .ok (.iload_n 2, 1) := by decide +kernel
theorem dX8_off_54 : decode cX8_off 54 = .ok (.ifCond .ne 54, 3) := by decide +kernel
theorem dX8_off_57 : decode cX8_off 57 = .ok (.aload_n 0, 1) := by decide +kernel
theorem dX8_off_58 : decode cX8_off 58 = .ok (.getfield 57, 3) := by decide +kernel
theorem dX8_off_61 : decode cX8_off 61 = .ok (.iload_n 1, 1) := by decide +kernel
theorem dX8_off_62 : decode cX8_off 62 = .ok (.iaload, 1) := by decide +kernel
theorem dX8_off_63 : decode cX8_off 63 = .ok (.i2l, 1) := by decide +kernel
theorem dX8_off_64 : decode cX8_off 64 = .ok (.lload_n 3, 1) := by decide +kernel
theorem dX8_off_65 : decode cX8_off 65 = .ok (.lmul, 1) := by decide +kernel
theorem dX8_off_66 : decode cX8_off 66 = .ok (.aload_n 0, 1) := by decide +kernel
theorem dX8_off_67 : decode cX8_off 67 = .ok (.getfield 159, 3) := by decide +kernel
theorem dX8_off_70 : decode cX8_off 70 = .ok (.i2l, 1) := by decide +kernel
theorem dX8_off_71 : decode cX8_off 71 = .ok (.aload_n 0, 1) := by decide +kernel
theorem dX8_off_72 : decode cX8_off 72 = .ok (.getfield 166, 3) := by decide +kernel
theorem dX8_off_75 : decode cX8_off 75 = .ok (.aload_n 0, 1) := by decide +kernel
theorem dX8_off_76 : decode cX8_off 76 = .ok (.getfield 51, 3) := by decide +kernel
theorem dX8_off_79 : decode cX8_off 79 = .ok (.iload_n 1, 1) := by decide +kernel
theorem dX8_off_80 : decode cX8_off 80 = .ok (.iaload, 1) := by decide +kernel
theorem dX8_off_81 : decode cX8_off 81 = .ok (.i2l, 1) := by decide +kernel
theorem dX8_off_82 : decode cX8_off 82 = .ok (.lmul, 1) := by decide +kernel
theorem dX8_off_83 : decode cX8_off 83 = .ok (.aload_n 0, 1) := by decide +kernel
theorem dX8_off_84 : decode cX8_off 84 = .ok (.getfield 169, 3) := by decide +kernel
theorem dX8_off_87 : decode cX8_off 87 = .ok (.aload_n 0, 1) := by decide +kernel
theorem dX8_off_88 : decode cX8_off 88 = .ok (.getfield 54, 3) := by decide +kernel
theorem dX8_off_91 : decode cX8_off 91 = .ok (.iload_n 1, 1) := by decide +kernel
theorem dX8_off_92 : decode cX8_off 92 = .ok (.iaload, 1) := by decide +kernel
theorem dX8_off_93 : decode cX8_off 93 = .ok (.i2l, 1) := by decide +kernel
theorem dX8_off_94 : decode cX8_off 94 = .ok (.lmul, 1) := by decide +kernel
theorem dX8_off_95 : decode cX8_off 95 = .ok (.lsub, 1) := by decide +kernel
theorem dX8_off_96 : decode cX8_off 96 = .ok (.lmul, 1) := by decide +kernel
theorem dX8_off_97 : decode cX8_off 97 = .ok (.lsub, 1) := by decide +kernel
theorem dX8_off_98 : decode cX8_off 98 = .ok (.aload_n 0, 1) := by decide +kernel
theorem dX8_off_99 : decode cX8_off 99 = .ok (.getfield 172, 3) := by decide +kernel
theorem dX8_off_102 : decode cX8_off 102 = .ok (.lsub, 1) := by decide +kernel
theorem dX8_off_103 : decode cX8_off 103 = .ok (.lstore 5, 2) := by decide +kernel
theorem dX8_off_105 : decode cX8_off 105 = .ok (.goto 51, 3) := by decide +kernel
theorem dX8_off_108 : decode cX8_off 108 = .ok (.aload_n 0, 1) := by decide +kernel
theorem dX8_off_109 : decode cX8_off 109 = .ok (.getfield 60, 3) := by decide +kernel
theorem dX8_off_112 : decode cX8_off 112 = .ok (.iload_n 1, 1) := by decide +kernel
theorem dX8_off_113 : decode cX8_off 113 = .ok (.iaload, 1) := by decide +kernel
theorem dX8_off_114 : decode cX8_off 114 = .ok (.i2l, 1) := by decide +kernel
theorem dX8_off_115 : decode cX8_off 115 = .ok (.lload_n 3, 1) := by decide +kernel
theorem dX8_off_116 : decode cX8_off 116 = .ok (.lmul, 1) := by decide +kernel
theorem dX8_off_117 : decode cX8_off 117 = .ok (.aload_n 0, 1) := by decide +kernel
theorem dX8_off_118 : decode cX8_off 118 = .ok (.getfield 159, 3) := by decide +kernel
theorem dX8_off_121 : decode cX8_off 121 = .ok (.i2l, 1) := by decide +kernel
theorem dX8_off_122 : decode cX8_off 122 = .ok (.aload_n 0, 1) := by decide +kernel
theorem dX8_off_123 : decode cX8_off 123 = .ok (.getfield 169, 3) := by decide +kernel
theorem dX8_off_126 : decode cX8_off 126 = .ok (.aload_n 0, 1) := by decide +kernel
theorem dX8_off_127 : decode cX8_off 127 = .ok (.getfield 51, 3) := by decide +kernel
theorem dX8_off_130 : decode cX8_off 130 = .ok (.iload_n 1, 1) := by decide +kernel
theorem dX8_off_131 : decode cX8_off 131 = .ok (.iaload, 1) := by decide +kernel
theorem dX8_off_132 : decode cX8_off 132 = .ok (.i2l, 1) := by decide +kernel
theorem dX8_off_133 : decode cX8_off 133 = .ok (.lmul, 1) := by decide +kernel
theorem dX8_off_134 : decode cX8_off 134 = .ok (.aload_n 0, 1) := by decide +kernel
theorem dX8_off_135 : decode cX8_off 135 = .ok (.getfield 166, 3) := by decide +kernel
theorem dX8_off_138 : decode cX8_off 138 = .ok (.aload_n 0, 1) := by decide +kernel
theorem dX8_off_139 : decode cX8_off 139 = .ok (.getfield 54, 3) := by decide +kernel
theorem dX8_off_142 : decode cX8_off 142 = .ok (.iload_n 1, 1) := by decide +kernel
theorem dX8_off_143 : decode cX8_off 143 = .ok (.iaload, 1) := by decide +kernel
theorem dX8_off_144 : decode cX8_off 144 = .ok (.i2l, 1) := by decide +kernel
theorem dX8_off_145 : decode cX8_off 145 = .ok (.lmul, 1) := by decide +kernel
theorem dX8_off_146 : decode cX8_off 146 = .ok (.ladd, 1) := by decide +kernel
theorem dX8_off_147 : decode cX8_off 147 = .ok (.lmul, 1) := by decide +kernel
theorem dX8_off_148 : decode cX8_off 148 = .ok (.lsub, 1) := by decide +kernel
theorem dX8_off_149 : decode cX8_off 149 = .ok (.aload_n 0, 1) := by decide +kernel
theorem dX8_off_150 : decode cX8_off 150 = .ok (.getfield 175, 3) := by decide +kernel
theorem dX8_off_153 : decode cX8_off 153 = .ok (.lsub, 1) := by decide +kernel
theorem dX8_off_154 : decode cX8_off 154 = .ok (.lstore 5, 2) := by decide +kernel
theorem dX8_off_156 : decode cX8_off 156 = .ok (.ldc2_w 123, 3) := by decide +kernel
theorem dX8_off_159 : decode cX8_off 159 = .ok (.lload 5, 2) := by decide +kernel
theorem dX8_off_161 : decode cX8_off 161 = .ok (.lmul, 1) := by decide +kernel
theorem dX8_off_162 : decode cX8_off 162 = .ok (.lload_n 3, 1) := by decide +kernel
theorem dX8_off_163 : decode cX8_off 163 = .ok (.ldiv, 1) := by decide +kernel
theorem dX8_off_164 : decode cX8_off 164 = .ok (.l2i, 1) := by decide +kernel
theorem dX8_off_165 : decode cX8_off 165 = .ok (.ireturn, 1) := by decide +kernel
set_option maxRecDepth 20000 in
theorem ggX8_job_X8_in : GoodIn wsX8_job wsX8_in := goodIn_r _ [9] rfl (by decide +kernel)
set_option maxRecDepth 20000 in
theorem gX8_job_X8_in : GoodIn wsX8_job (va_wsS RX8 103 yX8_in wsX8_in) := goodIn_app (goodIn_of _ (by decide +kernel)) ggX8_job_X8_in
theorem dX8_job_0 : decode cX8_job 0 = .ok (.iload_n 1, 1) := by decide +kernel
theorem dX8_job_1 : decode cX8_job 1 = .ok (.i2l, 1) := by decide +kernel
theorem dX8_job_2 : decode cX8_job 2 = .ok (.lconst 0, 1) := by decide +kernel
theorem dX8_job_3 : decode cX8_job 3 = .ok (.ldc2_w 178, 3) := by decide +kernel
theorem dX8_job_6 : decode cX8_job 6 = .ok (.invokestatic 103, 3) := by decide +kernel
theorem dX8_job_9 : decode cX8_job 9 = .ok (.ifCond .eq 15, 3) := by decide +kernel
theorem dX8_job_12 : decode cX8_job 12 = .ok (.iload_n 2, 1) := by decide +kernel
theorem dX8_job_13 : decode cX8_job 13 = .ok (.i2l, 1) := by decide +kernel
theorem dX8_job_14 : decode cX8_job 14 = .ok (.lconst 0, 1) := by decide +kernel
theorem dX8_job_15 : decode cX8_job 15 = .ok (.ldc2_w 111, 3) := by decide +kernel
theorem dX8_job_18 : decode cX8_job 18 = .ok (.invokestatic 103, 3) := by decide +kernel
theorem dX8_job_21 : decode cX8_job 21 = .ok (.ifCond .ne 6, 3) := by decide +kernel
theorem dX8_job_24 : decode cX8_job 24 = .ok (.bipush (-2), 2) := by decide +kernel
theorem dX8_job_26 : decode cX8_job 26 = .ok (.ireturn, 1) := by decide +kernel
theorem dX8_job_27 : decode cX8_job 27 = .ok (.aload_n 0, 1) := by decide +kernel
theorem dX8_job_28 : decode cX8_job 28 = .ok (.getfield 193, 3) := by decide +kernel
theorem dX8_job_31 : decode cX8_job 31 = .ok (.bipush 7, 2) := by decide +kernel
theorem dX8_job_33 : decode cX8_job 33 = .ok (.if_icmp .ne 6, 3) := by decide +kernel
theorem dX8_job_36 : decode cX8_job 36 = .ok (.bipush (-4), 2) := by decide +kernel
theorem dX8_job_38 : decode cX8_job 38 = .ok (.ireturn, 1) := by decide +kernel
theorem dX8_job_39 : decode cX8_job 39 = .ok (.aload_n 0, 1) := by decide +kernel
theorem dX8_job_40 : decode cX8_job 40 = .ok (.getfield 63, 3) := by decide +kernel
theorem dX8_job_43 : decode cX8_job 43 = .ok (.aload_n 0, 1) := by decide +kernel
theorem dX8_job_44 : decode cX8_job 44 = .ok (.getfield 193, 3) := by decide +kernel
theorem dX8_job_47 : decode cX8_job 47 = .ok (.iload_n 1, 1) := by decide +kernel
theorem dX8_job_48 : decode cX8_job 48 = .ok (.iastore, 1) := by decide +kernel
theorem dX8_job_49 : decode cX8_job 49 = .ok (.aload_n 0, 1) := by decide +kernel
theorem dX8_job_50 : decode cX8_job 50 = .ok (.getfield 66, 3) := by decide +kernel
theorem dX8_job_53 : decode cX8_job 53 = .ok (.aload_n 0, 1) := by decide +kernel
theorem dX8_job_54 : decode cX8_job 54 = .ok (.getfield 193, 3) := by decide +kernel
theorem dX8_job_57 : decode cX8_job 57 = .ok (.iload_n 2, 1) := by decide +kernel
theorem dX8_job_58 : decode cX8_job 58 = .ok (.iastore, 1) := by decide +kernel
theorem dX8_job_59 : decode cX8_job 59 = .ok (.aload_n 0, 1) := by decide +kernel
theorem dX8_job_60 : decode cX8_job 60 = .ok (.dup, 1) := by decide +kernel
theorem dX8_job_61 : decode cX8_job 61 = .ok (.getfield 193, 3) := by decide +kernel
theorem dX8_job_64 : decode cX8_job 64 = .ok (.iconst 1, 1) := by decide +kernel
theorem dX8_job_65 : decode cX8_job 65 = .ok (.iadd, 1) := by decide +kernel
theorem dX8_job_66 : decode cX8_job 66 = .ok (.putfield 193, 3) := by decide +kernel
theorem dX8_job_69 : decode cX8_job 69 = .ok (.aload_n 0, 1) := by decide +kernel
theorem dX8_job_70 : decode cX8_job 70 = .ok (.getfield 193, 3) := by decide +kernel
theorem dX8_job_73 : decode cX8_job 73 = .ok (.iconst 1, 1) := by decide +kernel
theorem dX8_job_74 : decode cX8_job 74 = .ok (.isub, 1) := by decide +kernel
theorem dX8_job_75 : decode cX8_job 75 = .ok (.ireturn, 1) := by decide +kernel
theorem dX8_forget_0 : decode cX8_forget 0 = .ok (.aload_n 0, 1) := by decide +kernel
theorem dX8_forget_1 : decode cX8_forget 1 = .ok (.getfield 193, 3) := by decide +kernel
theorem dX8_forget_4 : decode cX8_forget 4 = .ok (.istore_n 1, 1) := by decide +kernel
theorem dX8_forget_5 : decode cX8_forget 5 = .ok (.aload_n 0, 1) := by decide +kernel
theorem dX8_forget_6 : decode cX8_forget 6 = .ok (.iconst 0, 1) := by decide +kernel
theorem dX8_forget_7 : decode cX8_forget 7 = .ok (.putfield 193, 3) := by decide +kernel
theorem dX8_forget_10 : decode cX8_forget 10 = .ok (.iload_n 1, 1) := by decide +kernel
theorem dX8_forget_11 : decode cX8_forget 11 = .ok (.ireturn, 1) := by decide +kernel
set_option maxRecDepth 20000 in
theorem ggX8_wash_X8_in : GoodIn wsX8_wash wsX8_in := goodIn_r _ [7] rfl (by decide +kernel)
set_option maxRecDepth 20000 in
theorem gX8_wash_X8_in : GoodIn wsX8_wash (va_wsS RX8 103 yX8_in wsX8_in) := goodIn_app (goodIn_of _ (by decide +kernel)) ggX8_wash_X8_in
theorem dX8_wash_0 : decode cX8_wash 0 = .ok (.iload_n 1, 1) := by decide +kernel
theorem dX8_wash_1 : decode cX8_wash 1 = .ok (.i2l, 1) := by decide +kernel
theorem dX8_wash_2 : decode cX8_wash 2 = .ok (.lconst 0, 1) := by decide +kernel
theorem dX8_wash_3 : decode cX8_wash 3 = .ok (.ldc2_w 178, 3) := by decide +kernel
theorem dX8_wash_6 : decode cX8_wash 6 = .ok (.invokestatic 103, 3) := by decide +kernel
theorem dX8_wash_9 : decode cX8_wash 9 = .ok (.ifCond .eq 15, 3) := by decide +kernel
theorem dX8_wash_12 : decode cX8_wash 12 = .ok (.iload_n 2, 1) := by decide +kernel
theorem dX8_wash_13 : decode cX8_wash 13 = .ok (.i2l, 1) := by decide +kernel
theorem dX8_wash_14 : decode cX8_wash 14 = .ok (.lconst 0, 1) := by decide +kernel
theorem dX8_wash_15 : decode cX8_wash 15 = .ok (.ldc2_w 178, 3) := by decide +kernel
theorem dX8_wash_18 : decode cX8_wash 18 = .ok (.invokestatic 103, 3) := by decide +kernel
theorem dX8_wash_21 : decode cX8_wash 21 = .ok (.ifCond .ne 5, 3) := by decide +kernel
theorem dX8_wash_24 : decode cX8_wash 24 = .ok (.iconst (-1), 1) := by decide +kernel
theorem dX8_wash_25 : decode cX8_wash 25 = .ok (.ireturn, 1) := by decide +kernel
theorem dX8_wash_26 : decode cX8_wash 26 = .ok (.iload_n 3, 1) := by decide +kernel
theorem dX8_wash_27 : decode cX8_wash 27 = .ok (.i2l, 1) := by decide +kernel
theorem dX8_wash_28 : decode cX8_wash 28 = .ok (.lconst 0, 1) := by decide +kernel
theorem dX8_wash_29 : decode cX8_wash 29 = .ok (.ldc2_w 125, 3) := by decide +kernel
theorem dX8_wash_32 : decode cX8_wash 32 = .ok (.invokestatic 103, 3) := by decide +kernel
theorem dX8_wash_35 : decode cX8_wash 35 = .ok (.ifCond .ne 6, 3) := by decide +kernel
theorem dX8_wash_38 : decode cX8_wash 38 = .ok (.bipush (-2), 2) := by decide +kernel
theorem dX8_wash_40 : decode cX8_wash 40 = .ok (.ireturn, 1) := by decide +kernel
theorem dX8_wash_41 : decode cX8_wash 41 = .ok (.iload_n 1, 1) := by decide +kernel
theorem dX8_wash_42 : decode cX8_wash 42 = .ok (.iload_n 2, 1) := by decide +kernel
theorem dX8_wash_43 : decode cX8_wash 43 = .ok (.if_icmp .ne 6, 3) := by decide +kernel
theorem dX8_wash_46 : decode cX8_wash 46 = .ok (.bipush (-5), 2) := by decide +kernel
theorem dX8_wash_48 : decode cX8_wash 48 = .ok (.ireturn, 1) := by decide +kernel
theorem dX8_wash_49 : decode cX8_wash 49 = .ok (.aload_n 0, 1) := by decide +kernel
theorem dX8_wash_50 : decode cX8_wash 50 = .ok (.getfield 69, 3) := by decide +kernel
theorem dX8_wash_53 : decode cX8_wash 53 = .ok (.iconst 4, 1) := by decide +kernel
theorem dX8_wash_54 : decode cX8_wash 54 = .ok (.iload_n 1, 1) := by decide +kernel
theorem dX8_wash_55 : decode cX8_wash 55 = .ok (.imul, 1) := by decide +kernel
theorem dX8_wash_56 : decode cX8_wash 56 = .ok (.iload_n 2, 1) := by decide +kernel
theorem dX8_wash_57 : decode cX8_wash 57 = .ok (.iadd, 1) := by decide +kernel
theorem dX8_wash_58 : decode cX8_wash 58 = .ok (.iaload, 1) := by decide +kernel
theorem dX8_wash_59 : decode cX8_wash 59 = .ok (.istore 4, 2) := by decide +kernel
theorem dX8_wash_61 : decode cX8_wash 61 = .ok (.aload_n 0, 1) := by decide +kernel
theorem dX8_wash_62 : decode cX8_wash 62 = .ok (.getfield 69, 3) := by decide +kernel
theorem dX8_wash_65 : decode cX8_wash 65 = .ok (.iconst 4, 1) := by decide +kernel
theorem dX8_wash_66 : decode cX8_wash 66 = .ok (.iload_n 1, 1) := by decide +kernel
theorem dX8_wash_67 : decode cX8_wash 67 = .ok (.imul, 1) := by decide +kernel
theorem dX8_wash_68 : decode cX8_wash 68 = .ok (.iload_n 2, 1) := by decide +kernel
theorem dX8_wash_69 : decode cX8_wash 69 = .ok (.iadd, 1) := by decide +kernel
theorem dX8_wash_70 : decode cX8_wash 70 = .ok (.iload_n 3, 1) := by decide +kernel
theorem dX8_wash_71 : decode cX8_wash 71 = .ok (.iastore, 1) := by decide +kernel
theorem dX8_wash_72 : decode cX8_wash 72 = .ok (.iload 4, 2) := by decide +kernel
theorem dX8_wash_74 : decode cX8_wash 74 = .ok (.ireturn, 1) := by decide +kernel
theorem dX8_layRow_0 : decode cX8_layRow 0 = .ok (.iload_n 1, 1) := by decide +kernel
theorem dX8_layRow_1 : decode cX8_layRow 1 = .ok (.istore_n 3, 1) := by decide +kernel
theorem dX8_layRow_2 : decode cX8_layRow 2 = .ok (.iload_n 2, 1) := by decide +kernel
theorem dX8_layRow_3 : decode cX8_layRow 3 = .ok (.istore 4, 2) := by decide +kernel
theorem dX8_layRow_5 : decode cX8_layRow 5 = .ok (.iconst 0, 1) := by decide +kernel
theorem dX8_layRow_6 : decode cX8_layRow 6 = .ok (.istore 5, 2) := by decide +kernel
theorem dX8_layRow_8 : decode cX8_layRow 8 = .ok (.iconst 0, 1) := by decide +kernel
theorem dX8_layRow_9 : decode cX8_layRow 9 = .ok (.istore 6, 2) := by decide +kernel
theorem dX8_layRow_11 : decode cX8_layRow 11 = .ok (.iload 6, 2) := by decide +kernel
theorem dX8_layRow_13 : decode cX8_layRow 13 = .ok (.aload_n 0, 1) := by decide +kernel
theorem dX8_layRow_14 : decode cX8_layRow 14 = .ok (.getfield 193, 3) := by decide +kernel
theorem dX8_layRow_17 : decode cX8_layRow 17 = .ok (.if_icmp .ge 96, 3) := by decide +kernel
theorem dX8_layRow_20 : decode cX8_layRow 20 = .ok (.iload 4, 2) := by decide +kernel
theorem dX8_layRow_22 : decode cX8_layRow 22 = .ok (.aload_n 0, 1) := by decide +kernel
theorem dX8_layRow_23 : decode cX8_layRow 23 = .ok (.getfield 193, 3) := by decide +kernel
theorem dX8_layRow_26 : decode cX8_layRow 26 = .ok (.iload 6, 2) := by decide +kernel
theorem dX8_layRow_28 : decode cX8_layRow 28 = .ok (.isub, 1) := by decide +kernel
theorem dX8_layRow_29 : decode cX8_layRow 29 = .ok (.idiv, 1) := by decide +kernel
theorem dX8_layRow_30 : decode cX8_layRow 30 = .ok (.istore 4, 2) := by decide +kernel
theorem dX8_layRow_32 : decode cX8_layRow 32 = .ok (.iload_n 3, 1) := by decide +kernel
theorem dX8_layRow_33 : decode cX8_layRow 33 = .ok (.iload 4, 2) := by decide +kernel
theorem dX8_layRow_35 : decode cX8_layRow 35 = .ok (.idiv, 1) := by decide +kernel
theorem dX8_layRow_36 : decode cX8_layRow 36 = .ok (.istore 7, 2) := by decide +kernel
theorem dX8_layRow_38 : decode cX8_layRow 38 = .ok (.iload_n 3, 1) := by decide +kernel
theorem dX8_layRow_39 : decode cX8_layRow 39 = .ok (.iload 4, 2) := by decide +kernel
theorem dX8_layRow_41 : decode cX8_layRow 41 = .ok (.irem, 1) := by decide +kernel
theorem dX8_layRow_42 : decode cX8_layRow 42 = .ok (.istore_n 3, 1) := by decide +kernel
theorem dX8_layRow_43 : decode cX8_layRow 43 = .ok (.iconst 0, 1) := by decide +kernel
theorem dX8_layRow_44 : decode cX8_layRow 44 = .ok (.istore 8, 2) := by decide +kernel
theorem dX8_layRow_46 : decode cX8_layRow 46 = .ok (.iload 5, 2) := by decide +kernel
theorem dX8_layRow_48 : decode cX8_layRow 48 = .ok (.iload 8, 2) := by decide +kernel
theorem dX8_layRow_50 : decode cX8_layRow 50 = .ok (.ishr, 1) := by decide +kernel
theorem dX8_layRow_51 : decode cX8_layRow 51 = .ok (.iconst 1, 1) := by decide +kernel
theorem dX8_layRow_52 : decode cX8_layRow 52 = .ok (.iand, 1) := by decide +kernel
theorem dX8_layRow_53 : decode cX8_layRow 53 = .ok (.iconst 1, 1) := by decide +kernel
theorem dX8_layRow_54 : decode cX8_layRow 54 = .ok (.if_icmp .eq 8, 3) := by decide +kernel
theorem dX8_layRow_57 : decode cX8_layRow 57 = .ok (.iload 7, 2) := by decide +kernel
theorem dX8_layRow_59 : decode cX8_layRow 59 = .ok (.ifCond .le 30, 3) := by decide +kernel
theorem dX8_layRow_62 : decode cX8_layRow 62 = .ok (.iload 7, 2) := by decide +kernel
theorem dX8_layRow_64 : decode cX8_layRow 64 = .ok (.iload 5, 2) := by decide +kernel
theorem dX8_layRow_66 : decode cX8_layRow 66 = .ok (.iload 8, 2) := by decide +kernel
theorem dX8_layRow_68 : decode cX8_layRow 68 = .ok (.ishr, 1) := by decide +kernel
theorem dX8_layRow_69 : decode cX8_layRow 69 = .ok (.iconst 1, 1) := by decide +kernel
theorem dX8_layRow_70 : decode cX8_layRow 70 = .ok (.iand, 1) := by decide +kernel
theorem dX8_layRow_71 : decode cX8_layRow 71 = .ok (.iconst 1, 1) := by decide +kernel
theorem dX8_layRow_72 : decode cX8_layRow 72 = .ok (.if_icmp .ne 7, 3) := by decide +kernel
theorem dX8_layRow_75 : decode cX8_layRow 75 = .ok (.iconst 0, 1) := by decide +kernel
theorem dX8_layRow_76 : decode cX8_layRow 76 = .ok (.goto 4, 3) := by decide +kernel
theorem dX8_layRow_79 : decode cX8_layRow 79 = .ok (.iconst 1, 1) := by decide +kernel
theorem dX8_layRow_80 : decode cX8_layRow 80 = .ok (.isub, 1) := by decide +kernel
theorem dX8_layRow_81 : decode cX8_layRow 81 = .ok (.istore 7, 2) := by decide +kernel
theorem dX8_layRow_83 : decode cX8_layRow 83 = .ok (.iinc 8 1, 3) := by decide +kernel
theorem dX8_layRow_86 : decode cX8_layRow 86 = .ok (.goto (-40), 3) := by decide +kernel
theorem dX8_layRow_89 : decode cX8_layRow 89 = .ok (.aload_n 0, 1) := by decide +kernel
theorem dX8_layRow_90 : decode cX8_layRow 90 = .ok (.getfield 72, 3) := by decide +kernel
theorem dX8_layRow_93 : decode cX8_layRow 93 = .ok (.iload 6, 2) := by decide +kernel
theorem dX8_layRow_95 : decode cX8_layRow 95 = .ok (.iload 8, 2) := by decide +kernel
theorem dX8_layRow_97 : decode cX8_layRow 97 = .ok (.iastore, 1) := by decide +kernel
theorem dX8_layRow_98 : decode cX8_layRow 98 = .ok (.iload 5, 2) := by decide +kernel
theorem dX8_layRow_100 : decode cX8_layRow 100 = .ok (.iconst 1, 1) := by decide +kernel
theorem dX8_layRow_101 : decode cX8_layRow 101 = .ok (.iload 8, 2) := by decide +kernel
theorem dX8_layRow_103 : decode cX8_layRow 103 = .ok (.ishl, 1) := by decide +kernel
theorem dX8_layRow_104 : decode cX8_layRow 104 = .ok (.ior, 1) := by decide +kernel
theorem dX8_layRow_105 : decode cX8_layRow 105 = .ok (.istore 5, 2) := by decide +kernel
theorem dX8_layRow_107 : decode cX8_layRow 107 = .ok (.iinc 6 1, 3) := by decide +kernel
theorem dX8_layRow_110 : decode cX8_layRow 110 = .ok (.goto (-99), 3) := by decide +kernel
theorem dX8_layRow_113 : decode cX8_layRow 113 = .ok (.return_, 1) := by decide +kernel
theorem dX8_costOf_0 : decode cX8_costOf 0 = .ok (.iconst 0, 1) := by decide +kernel
theorem dX8_costOf_1 : decode cX8_costOf 1 = .ok (.istore_n 1, 1) := by decide +kernel
theorem dX8_costOf_2 : decode cX8_costOf 2 = .ok (.iconst 0, 1) := by decide +kernel
theorem dX8_costOf_3 : decode cX8_costOf 3 = .ok (.istore_n 2, 1) := by decide +kernel
theorem dX8_costOf_4 : decode cX8_costOf 4 = .ok (.iconst 0, 1) := by decide +kernel
theorem dX8_costOf_5 : decode cX8_costOf 5 = .ok (.istore_n 3, 1) := by decide +kernel
theorem dX8_costOf_6 : decode cX8_costOf 6 = .ok (.iconst 0, 1) := by decide +kernel
theorem dX8_costOf_7 : decode cX8_costOf 7 = .ok (.istore 4, 2) := by decide +kernel
theorem dX8_costOf_9 : decode cX8_costOf 9 = .ok (.iload 4, 2) := by decide +kernel
theorem dX8_costOf_11 : decode cX8_costOf 11 = .ok (.aload_n 0, 1) := by decide +kernel
theorem dX8_costOf_12 : decode cX8_costOf 12 = .ok (.getfield 193, 3) := by decide +kernel
theorem dX8_costOf_15 : decode cX8_costOf 15 = .ok (.if_icmp .ge 81, 3) := by decide +kernel
theorem dX8_costOf_18 : decode cX8_costOf 18 = .ok (.iload_n 1, 1) := by decide +kernel
theorem dX8_costOf_19 : decode cX8_costOf 19 = .ok (.aload_n 0, 1) := by decide +kernel
theorem dX8_costOf_20 : decode cX8_costOf 20 = .ok (.getfield 69, 3) := by decide +kernel
theorem dX8_costOf_23 : decode cX8_costOf 23 = .ok (.iconst 4, 1) := by decide +kernel
theorem dX8_costOf_24 : decode cX8_costOf 24 = .ok (.iload_n 2, 1) := by decide +kernel
theorem dX8_costOf_25 : decode cX8_costOf 25 = .ok (.imul, 1) := by decide +kernel
theorem dX8_costOf_26 : decode cX8_costOf 26 = .ok (.aload_n 0, 1) := by decide +kernel
theorem dX8_costOf_27 : decode cX8_costOf 27 = .ok (.getfield 63, 3) := by decide +kernel
theorem dX8_costOf_30 : decode cX8_costOf 30 = .ok (.aload_n 0, 1) := by decide +kernel
theorem dX8_costOf_31 : decode cX8_costOf 31 = .ok (.getfield 72, 3) := by decide +kernel
theorem dX8_costOf_34 : decode cX8_costOf 34 = .ok (.iload 4, 2) := by decide +kernel
theorem dX8_costOf_36 : decode cX8_costOf 36 = .ok (.iaload, 1) := by decide +kernel
theorem dX8_costOf_37 : decode cX8_costOf 37 = .ok (.iaload, 1) := by decide +kernel
theorem dX8_costOf_38 : decode cX8_costOf 38 = .ok (.iadd, 1) := by decide +kernel
theorem dX8_costOf_39 : decode cX8_costOf 39 = .ok (.iaload, 1) := by decide +kernel
theorem dX8_costOf_40 : decode cX8_costOf 40 = .ok (.aload_n 0, 1) := by decide +kernel
theorem dX8_costOf_41 : decode cX8_costOf 41 = .ok (.getfield 66, 3) := by decide +kernel
theorem dX8_costOf_44 : decode cX8_costOf 44 = .ok (.aload_n 0, 1) := by decide +kernel
theorem dX8_costOf_45 : decode cX8_costOf 45 = .ok (.getfield 72, 3) := by decide +kernel
theorem dX8_costOf_48 : decode cX8_costOf 48 = .ok (.iload 4, 2) := by decide +kernel
theorem dX8_costOf_50 : decode cX8_costOf 50 = .ok (.iaload, 1) := by decide +kernel
theorem dX8_costOf_51 : decode cX8_costOf 51 = .ok (.iaload, 1) := by decide +kernel
theorem dX8_costOf_52 : decode cX8_costOf 52 = .ok (.iload_n 3, 1) := by decide +kernel
theorem dX8_costOf_53 : decode cX8_costOf 53 = .ok (.if_icmp .ne 7, 3) := by decide +kernel
theorem dX8_costOf_56 : decode cX8_costOf 56 = .ok (.iconst 0, 1) := by decide +kernel
theorem dX8_costOf_57 : decode cX8_costOf 57 = .ok (.goto 4, 3) := by decide +kernel
theorem dX8_costOf_60 : decode cX8_costOf 60 = .ok (.iconst 5, 1) := by decide +kernel
theorem dX8_costOf_61 : decode cX8_costOf 61 = .ok (.iadd, 1) := by decide +kernel
theorem dX8_costOf_62 : decode cX8_costOf 62 = .ok (.iadd, 1) := by decide +kernel
theorem dX8_costOf_63 : decode cX8_costOf 63 = .ok (.istore_n 1, 1) := by decide +kernel
theorem dX8_costOf_64 : decode cX8_costOf 64 = .ok (.aload_n 0, 1) := by decide +kernel
theorem dX8_costOf_65 : decode cX8_costOf 65 = .ok (.getfield 63, 3) := by decide +kernel
theorem dX8_costOf_68 : decode cX8_costOf 68 = .ok (.aload_n 0, 1) := by decide +kernel
theorem dX8_costOf_69 : decode cX8_costOf 69 = .ok (.getfield 72, 3) := by decide +kernel
theorem dX8_costOf_72 : decode cX8_costOf 72 = .ok (.iload 4, 2) := by decide +kernel
theorem dX8_costOf_74 : decode cX8_costOf 74 = .ok (.iaload, 1) := by decide +kernel
theorem dX8_costOf_75 : decode cX8_costOf 75 = .ok (.iaload, 1) := by decide +kernel
theorem dX8_costOf_76 : decode cX8_costOf 76 = .ok (.istore_n 2, 1) := by decide +kernel
theorem dX8_costOf_77 : decode cX8_costOf 77 = .ok (.aload_n 0, 1) := by decide +kernel
theorem dX8_costOf_78 : decode cX8_costOf 78 = .ok (.getfield 66, 3) := by decide +kernel
theorem dX8_costOf_81 : decode cX8_costOf 81 = .ok (.aload_n 0, 1) := by decide +kernel
theorem dX8_costOf_82 : decode cX8_costOf 82 = .ok (.getfield 72, 3) := by decide +kernel
theorem dX8_costOf_85 : decode cX8_costOf 85 = .ok (.iload 4, 2) := by decide +kernel
theorem dX8_costOf_87 : decode cX8_costOf 87 = .ok (.iaload, 1) := by decide +kernel
theorem dX8_costOf_88 : decode cX8_costOf 88 = .ok (.iaload, 1) := by decide +kernel
theorem dX8_costOf_89 : decode cX8_costOf 89 = .ok (.istore_n 3, 1) := by decide +kernel
theorem dX8_costOf_90 : decode cX8_costOf 90 = .ok (.iinc 4 1, 3) := by decide +kernel
theorem dX8_costOf_93 : decode cX8_costOf 93 = .ok (.goto (-84), 3) := by decide +kernel
theorem dX8_costOf_96 : decode cX8_costOf 96 = .ok (.iload_n 1, 1) := by decide +kernel
theorem dX8_costOf_97 : decode cX8_costOf 97 = .ok (.ireturn, 1) := by decide +kernel
set_option maxRecDepth 20000 in
theorem ggX8_order_X8_layRow : GoodIn wsX8_order wsX8_layRow := goodIn_r _ [8, 1, 3, 16, 17, 18, 19, 20, 21, 22, 23, 24, 25, 26, 27, 28, 29, 30, 31, 32, 33, 34, 35, 36, 37, 38, 39, 40, 41, 42, 43, 44, 45, 46, 47, 48, 49, 50, 51, 52] rfl (by decide +kernel)
set_option maxRecDepth 20000 in
theorem gX8_order_X8_layRow : GoodIn wsX8_order (wsV RX8 196 RX8 yX8_layRow wsX8_layRow) := goodIn_app (goodIn_of _ (by decide +kernel)) ggX8_order_X8_layRow
set_option maxRecDepth 20000 in
theorem ggX8_order_X8_costOf : GoodIn wsX8_order wsX8_costOf := goodIn_r _ [12, 1, 13, 14, 3, 15, 16, 17, 18, 19, 20, 21, 22, 23, 24, 25, 26, 27, 28, 29, 30, 31, 32, 33, 34, 35, 36, 37, 38, 39, 40, 41, 42, 43, 44, 45, 46, 47, 48, 49, 50, 51, 52] rfl (by decide +kernel)
set_option maxRecDepth 20000 in
theorem gX8_order_X8_costOf : GoodIn wsX8_order (wsV RX8 200 RX8 yX8_costOf wsX8_costOf) := goodIn_app (goodIn_of _ (by decide +kernel)) ggX8_order_X8_costOf
theorem dX8_order_0 : decode cX8_order 0 = .ok (.iconst 1, 1) := by decide +kernel
theorem dX8_order_1 : decode cX8_order 1 = .ok (.istore_n 1, 1) := by decide +kernel
theorem dX8_order_2 : decode cX8_order 2 = .ok (.iconst 2, 1) := by decide +kernel
theorem dX8_order_3 : decode cX8_order 3 = .ok (.istore_n 2, 1) := by decide +kernel
theorem dX8_order_4 : decode cX8_order 4 = .ok (.iload_n 2, 1) := by decide +kernel
theorem dX8_order_5 : decode cX8_order 5 = .ok (.aload_n 0, 1) := by decide +kernel
theorem dX8_order_6 : decode cX8_order 6 = .ok (.getfield 193, 3) := by decide +kernel
theorem dX8_order_9 : decode cX8_order 9 = .ok (.if_icmp .gt 13, 3) := by decide +kernel
theorem dX8_order_12 : decode cX8_order 12 = .ok (.iload_n 1, 1) := by decide +kernel
theorem dX8_order_13 : decode cX8_order 13 = .ok (.iload_n 2, 1) := by decide +kernel
theorem dX8_order_14 : decode cX8_order 14 = .ok (.imul, 1) := by decide +kernel
theorem dX8_order_15 : decode cX8_order 15 = .ok (.istore_n 1, 1) := by decide +kernel
theorem dX8_order_16 : decode cX8_order 16 = .ok (.iinc 2 1, 3) := by decide +kernel
theorem dX8_order_19 : decode cX8_order 19 = .ok (.goto (-15), 3) := by decide +kernel
theorem dX8_order_22 : decode cX8_order 22 = .ok (.iconst (-1), 1) := by decide +kernel
theorem dX8_order_23 : decode cX8_order 23 = .ok (.istore_n 2, 1) := by decide +kernel
theorem dX8_order_24 : decode cX8_order 24 = .ok (.iconst 0, 1) := by decide +kernel
theorem dX8_order_25 : decode cX8_order 25 = .ok (.istore_n 3, 1) := by decide +kernel
theorem dX8_order_26 : decode cX8_order 26 = .ok (.iload_n 3, 1) := by decide +kernel
theorem dX8_order_27 : decode cX8_order 27 = .ok (.iload_n 1, 1) := by decide +kernel
theorem dX8_order_28 : decode cX8_order 28 = .ok (.if_icmp .ge 66, 3) := by decide +kernel
theorem dX8_order_31 : decode cX8_order 31 = .ok (.aload_n 0, 1) := by decide +kernel
theorem dX8_order_32 : decode cX8_order 32 = .ok (.iload_n 3, 1) := by decide +kernel
theorem dX8_order_33 : decode cX8_order 33 = .ok (.iload_n 1, 1) := by decide +kernel
end
section
theorem dX8_order_34 : decode cX8_order 34 = .ok (.invokevirtual 196, 3) := by decide +kernel
theorem dX8_order_37 : decode cX8_order 37 = .ok (.aload_n 0, 1) := by decide +kernel
theorem dX8_order_38 : decode cX8_order 38 = .ok (.invokevirtual 200, 3) := by decide +kernel
theorem dX8_order_41 : decode cX8_order 41 = .ok (.istore 4, 2) := by decide +kernel
theorem dX8_order_43 : decode cX8_order 43 = .ok (.iload_n 2, 1) := by decide +kernel
theorem dX8_order_44 : decode cX8_order 44 = .ok (.ifCond .lt 9, 3) := by decide +kernel
theorem dX8_order_47 : decode cX8_order 47 = .ok (.iload 4, 2) := by decide +kernel
theorem dX8_order_49 : decode cX8_order 49 = .ok (.iload_n 2, 1) := by decide +kernel
theorem dX8_order_50 : decode cX8_order 50 = .ok (.if_icmp .ge 38, 3) := by decide +kernel
theorem dX8_order_53 : decode cX8_order 53 = .ok (.iload 4, 2) := by decide +kernel
theorem dX8_order_55 : decode cX8_order 55 = .ok (.istore_n 2, 1) := by decide +kernel
theorem dX8_order_56 : decode cX8_order 56 = .ok (.iconst 0, 1) := by decide +kernel
theorem dX8_order_57 : decode cX8_order 57 = .ok (.istore 5, 2) := by decide +kernel
theorem dX8_order_59 : decode cX8_order 59 = .ok (.iload 5, 2) := by decide +kernel
theorem dX8_order_61 : decode cX8_order 61 = .ok (.aload_n 0, 1) := by decide +kernel
theorem dX8_order_62 : decode cX8_order 62 = .ok (.getfield 193, 3) := by decide +kernel
theorem dX8_order_65 : decode cX8_order 65 = .ok (.if_icmp .ge 23, 3) := by decide +kernel
theorem dX8_order_68 : decode cX8_order 68 = .ok (.aload_n 0, 1) := by decide +kernel
theorem dX8_order_69 : decode cX8_order 69 = .ok (.getfield 75, 3) := by decide +kernel
theorem dX8_order_72 : decode cX8_order 72 = .ok (.iload 5, 2) := by decide +kernel
theorem dX8_order_74 : decode cX8_order 74 = .ok (.aload_n 0, 1) := by decide +kernel
theorem dX8_order_75 : decode cX8_order 75 = .ok (.getfield 72, 3) := by decide +kernel
theorem dX8_order_78 : decode cX8_order 78 = .ok (.iload 5, 2) := by decide +kernel
theorem dX8_order_80 : decode cX8_order 80 = .ok (.iaload, 1) := by decide +kernel
theorem dX8_order_81 : decode cX8_order 81 = .ok (.iastore, 1) := by decide +kernel
theorem dX8_order_82 : decode cX8_order 82 = .ok (.iinc 5 1, 3) := by decide +kernel
theorem dX8_order_85 : decode cX8_order 85 = .ok (.goto (-26), 3) := by decide +kernel
theorem dX8_order_88 : decode cX8_order 88 = .ok (.iinc 3 1, 3) := by decide +kernel
theorem dX8_order_91 : decode cX8_order 91 = .ok (.goto (-65), 3) := by decide +kernel
theorem dX8_order_94 : decode cX8_order 94 = .ok (.iload_n 2, 1) := by decide +kernel
theorem dX8_order_95 : decode cX8_order 95 = .ok (.ireturn, 1) := by decide +kernel
set_option maxRecDepth 20000 in
theorem ggX8_orderAt_X8_in : GoodIn wsX8_orderAt wsX8_in := goodIn_r _ [6] rfl (by decide +kernel)
set_option maxRecDepth 20000 in
theorem gX8_orderAt_X8_in : GoodIn wsX8_orderAt (va_wsS RX8 103 yX8_in wsX8_in) := goodIn_app (goodIn_of _ (by decide +kernel)) ggX8_orderAt_X8_in
set_option maxRecDepth 20000 in
theorem ggX8_orderAt_X8_order : GoodIn wsX8_orderAt wsX8_order := goodIn_r _ [10, 1, 2, 11, 12, 13, 14, 5, 15, 16, 17, 18, 19, 20, 21, 22, 23, 24, 25, 26, 27, 28, 29, 30, 31, 32, 33, 34, 35, 36, 37, 38, 39, 40, 41, 42, 43, 44, 45, 46, 47, 48, 49, 50, 51, 52, 53, 54, 55, 56, 57, 58, 59] rfl (by decide +kernel)
set_option maxRecDepth 20000 in
theorem gX8_orderAt_X8_order : GoodIn wsX8_orderAt (wsV RX8 204 RX8 yX8_order wsX8_order) := goodIn_app (goodIn_of _ (by decide +kernel)) ggX8_orderAt_X8_order
theorem dX8_orderAt_0 : decode cX8_orderAt 0 = .ok (.iload_n 1, 1) := by decide +kernel
theorem dX8_orderAt_1 : decode cX8_orderAt 1 = .ok (.i2l, 1) := by decide +kernel
theorem dX8_orderAt_2 : decode cX8_orderAt 2 = .ok (.lconst 0, 1) := by decide +kernel
theorem dX8_orderAt_3 : decode cX8_orderAt 3 = .ok (.aload_n 0, 1) := by decide +kernel
theorem dX8_orderAt_4 : decode cX8_orderAt 4 = .ok (.getfield 193, 3) := by decide +kernel
theorem dX8_orderAt_7 : decode cX8_orderAt 7 = .ok (.iconst 1, 1) := by decide +kernel
theorem dX8_orderAt_8 : decode cX8_orderAt 8 = .ok (.isub, 1) := by decide +kernel
theorem dX8_orderAt_9 : decode cX8_orderAt 9 = .ok (.i2l, 1) := by decide +kernel
theorem dX8_orderAt_10 : decode cX8_orderAt 10 = .ok (.invokestatic 103, 3) := by decide +kernel
theorem dX8_orderAt_13 : decode cX8_orderAt 13 = .ok (.ifCond .ne 6, 3) := by decide +kernel
theorem dX8_orderAt_16 : decode cX8_orderAt 16 = .ok (.bipush (-6), 2) := by decide +kernel
theorem dX8_orderAt_18 : decode cX8_orderAt 18 = .ok (.ireturn, 1) := by decide +kernel
theorem dX8_orderAt_19 : decode cX8_orderAt 19 = .ok (.aload_n 0, 1) := by decide +kernel
theorem dX8_orderAt_20 : decode cX8_orderAt 20 = .ok (.invokevirtual 204, 3) := by decide +kernel
theorem dX8_orderAt_23 : decode cX8_orderAt 23 = .ok (.istore_n 2, 1) := by decide +kernel
theorem dX8_orderAt_24 : decode cX8_orderAt 24 = .ok (.iload_n 2, 1) := by decide +kernel
theorem dX8_orderAt_25 : decode cX8_orderAt 25 = .ok (.ifCond .ge 8, 3) := by decide +kernel
theorem dX8_orderAt_28 : decode cX8_orderAt 28 = .ok (.bipush (-6), 2) := by decide +kernel
theorem dX8_orderAt_30 : decode cX8_orderAt 30 = .ok (.goto 9, 3) := by decide +kernel
theorem dX8_orderAt_33 : decode cX8_orderAt 33 = .ok (.aload_n 0, 1) := by decide +kernel
theorem dX8_orderAt_34 : decode cX8_orderAt 34 = .ok (.getfield 75, 3) := by decide +kernel
theorem dX8_orderAt_37 : decode cX8_orderAt 37 = .ok (.iload_n 1, 1) := by decide +kernel
theorem dX8_orderAt_38 : decode cX8_orderAt 38 = .ok (.iaload, 1) := by decide +kernel
theorem dX8_orderAt_39 : decode cX8_orderAt 39 = .ok (.ireturn, 1) := by decide +kernel
theorem dJ9_abs_0f7a4_0 : decode cJ9_abs_0f7a4 0 = .ok (.iload_n 0, 1) := by decide +kernel
theorem dJ9_abs_0f7a4_1 : decode cJ9_abs_0f7a4 1 = .ok (.ifCond .ge 8, 3) := by decide +kernel
theorem dJ9_abs_0f7a4_4 : decode cJ9_abs_0f7a4 4 = .ok (.iload_n 0, 1) := by decide +kernel
theorem dJ9_abs_0f7a4_5 : decode cJ9_abs_0f7a4 5 = .ok (.ineg, 1) := by decide +kernel
theorem dJ9_abs_0f7a4_6 : decode cJ9_abs_0f7a4 6 = .ok (.goto 4, 3) := by decide +kernel
theorem dJ9_abs_0f7a4_9 : decode cJ9_abs_0f7a4 9 = .ok (.iload_n 0, 1) := by decide +kernel
theorem dJ9_abs_0f7a4_10 : decode cJ9_abs_0f7a4 10 = .ok (.ireturn, 1) := by decide +kernel
theorem dJ9_abs_067f4_0 : decode cJ9_abs_067f4 0 = .ok (.lload_n 0, 1) := by decide +kernel
theorem dJ9_abs_067f4_1 : decode cJ9_abs_067f4 1 = .ok (.lconst 0, 1) := by decide +kernel
theorem dJ9_abs_067f4_2 : decode cJ9_abs_067f4 2 = .ok (.lcmp, 1) := by decide +kernel
theorem dJ9_abs_067f4_3 : decode cJ9_abs_067f4 3 = .ok (.ifCond .ge 8, 3) := by decide +kernel
theorem dJ9_abs_067f4_6 : decode cJ9_abs_067f4 6 = .ok (.lload_n 0, 1) := by decide +kernel
theorem dJ9_abs_067f4_7 : decode cJ9_abs_067f4 7 = .ok (.lneg, 1) := by decide +kernel
theorem dJ9_abs_067f4_8 : decode cJ9_abs_067f4 8 = .ok (.goto 4, 3) := by decide +kernel
theorem dJ9_abs_067f4_11 : decode cJ9_abs_067f4 11 = .ok (.lload_n 0, 1) := by decide +kernel
theorem dJ9_abs_067f4_12 : decode cJ9_abs_067f4 12 = .ok (.lreturn, 1) := by decide +kernel
theorem dJ9_max_f86c9_0 : decode cJ9_max_f86c9 0 = .ok (.lload_n 0, 1) := by decide +kernel
theorem dJ9_max_f86c9_1 : decode cJ9_max_f86c9 1 = .ok (.lload_n 2, 1) := by decide +kernel
theorem dJ9_max_f86c9_2 : decode cJ9_max_f86c9 2 = .ok (.lcmp, 1) := by decide +kernel
theorem dJ9_max_f86c9_3 : decode cJ9_max_f86c9 3 = .ok (.ifCond .lt 7, 3) := by decide +kernel
theorem dJ9_max_f86c9_6 : decode cJ9_max_f86c9 6 = .ok (.lload_n 0, 1) := by decide +kernel
theorem dJ9_max_f86c9_7 : decode cJ9_max_f86c9 7 = .ok (.goto 4, 3) := by decide +kernel
theorem dJ9_max_f86c9_10 : decode cJ9_max_f86c9 10 = .ok (.lload_n 2, 1) := by decide +kernel
theorem dJ9_max_f86c9_11 : decode cJ9_max_f86c9 11 = .ok (.lreturn, 1) := by decide +kernel
theorem dJ9_min_f86c9_0 : decode cJ9_min_f86c9 0 = .ok (.lload_n 0, 1) := by decide +kernel
theorem dJ9_min_f86c9_1 : decode cJ9_min_f86c9 1 = .ok (.lload_n 2, 1) := by decide +kernel
theorem dJ9_min_f86c9_2 : decode cJ9_min_f86c9 2 = .ok (.lcmp, 1) := by decide +kernel
theorem dJ9_min_f86c9_3 : decode cJ9_min_f86c9 3 = .ok (.ifCond .gt 7, 3) := by decide +kernel
theorem dJ9_min_f86c9_6 : decode cJ9_min_f86c9 6 = .ok (.lload_n 0, 1) := by decide +kernel
theorem dJ9_min_f86c9_7 : decode cJ9_min_f86c9 7 = .ok (.goto 4, 3) := by decide +kernel
theorem dJ9_min_f86c9_10 : decode cJ9_min_f86c9 10 = .ok (.lload_n 2, 1) := by decide +kernel
theorem dJ9_min_f86c9_11 : decode cJ9_min_f86c9 11 = .ok (.lreturn, 1) := by decide +kernel
theorem dL_law_0 : decode cL_law 0 = .ok (.new 7, 3) := by decide +kernel
theorem dL_law_3 : decode cL_law 3 = .ok (.dup, 1) := by decide +kernel
theorem dL_law_4 : decode cL_law 4 = .ok (.invokespecial 9, 3) := by decide +kernel
theorem dL_law_7 : decode cL_law 7 = .ok (.astore_n 1, 1) := by decide +kernel
theorem dL_law_8 : decode cL_law 8 = .ok (.new 10, 3) := by decide +kernel
theorem dL_law_11 : decode cL_law 11 = .ok (.dup, 1) := by decide +kernel
theorem dL_law_12 : decode cL_law 12 = .ok (.invokespecial 12, 3) := by decide +kernel
theorem dL_law_15 : decode cL_law 15 = .ok (.astore_n 2, 1) := by decide +kernel
theorem dL_law_16 : decode cL_law 16 = .ok (.iconst 0, 1) := by decide +kernel
theorem dL_law_17 : decode cL_law 17 = .ok (.istore_n 3, 1) := by decide +kernel
theorem dL_law_18 : decode cL_law 18 = .ok (.iload_n 3, 1) := by decide +kernel
theorem dL_law_19 : decode cL_law 19 = .ok (.aload_n 0, 1) := by decide +kernel
theorem dL_law_20 : decode cL_law 20 = .ok (.arraylength, 1) := by decide +kernel
theorem dL_law_21 : decode cL_law 21 = .ok (.iconst 5, 1) := by decide +kernel
theorem dL_law_22 : decode cL_law 22 = .ok (.isub, 1) := by decide +kernel
theorem dL_law_23 : decode cL_law 23 = .ok (.if_icmp .gt 762, 3) := by decide +kernel
theorem dL_law_26 : decode cL_law 26 = .ok (.aload_n 0, 1) := by decide +kernel
theorem dL_law_27 : decode cL_law 27 = .ok (.iload_n 3, 1) := by decide +kernel
theorem dL_law_28 : decode cL_law 28 = .ok (.iaload, 1) := by decide +kernel
theorem dL_law_29 : decode cL_law 29 = .ok (.bipush 31, 2) := by decide +kernel
theorem dL_law_31 : decode cL_law 31 = .ok (.iand, 1) := by decide +kernel
theorem dL_law_32 : decode cL_law 32 = .ok (.tableswitch 747 0 21 #[104, 137, 170, 213, 246, 279, 302, 341, 364, 397, 430, 453, 466, 489, 542, 555, 589, 622, 655, 668, 711, 724], 104) := by decide +kernel
theorem dL_law_136 : decode cL_law 136 = .ok (.aload_n 1, 1) := by decide +kernel
theorem dL_law_137 : decode cL_law 137 = .ok (.aload_n 0, 1) := by decide +kernel
theorem dL_law_138 : decode cL_law 138 = .ok (.iload_n 3, 1) := by decide +kernel
theorem dL_law_139 : decode cL_law 139 = .ok (.iconst 1, 1) := by decide +kernel
theorem dL_law_140 : decode cL_law 140 = .ok (.iadd, 1) := by decide +kernel
theorem dL_law_141 : decode cL_law 141 = .ok (.iaload, 1) := by decide +kernel
theorem dL_law_142 : decode cL_law 142 = .ok (.aload_n 0, 1) := by decide +kernel
theorem dL_law_143 : decode cL_law 143 = .ok (.iload_n 3, 1) := by decide +kernel
theorem dL_law_144 : decode cL_law 144 = .ok (.iconst 2, 1) := by decide +kernel
theorem dL_law_145 : decode cL_law 145 = .ok (.iadd, 1) := by decide +kernel
theorem dL_law_146 : decode cL_law 146 = .ok (.iaload, 1) := by decide +kernel
theorem dL_law_147 : decode cL_law 147 = .ok (.invokevirtual 13, 3) := by decide +kernel
theorem dL_law_150 : decode cL_law 150 = .ok (.aload_n 2, 1) := by decide +kernel
theorem dL_law_151 : decode cL_law 151 = .ok (.aload_n 0, 1) := by decide +kernel
theorem dL_law_152 : decode cL_law 152 = .ok (.iload_n 3, 1) := by decide +kernel
theorem dL_law_153 : decode cL_law 153 = .ok (.iconst 1, 1) := by decide +kernel
theorem dL_law_154 : decode cL_law 154 = .ok (.iadd, 1) := by decide +kernel
theorem dL_law_155 : decode cL_law 155 = .ok (.iaload, 1) := by decide +kernel
theorem dL_law_156 : decode cL_law 156 = .ok (.aload_n 0, 1) := by decide +kernel
theorem dL_law_157 : decode cL_law 157 = .ok (.iload_n 3, 1) := by decide +kernel
theorem dL_law_158 : decode cL_law 158 = .ok (.iconst 2, 1) := by decide +kernel
theorem dL_law_159 : decode cL_law 159 = .ok (.iadd, 1) := by decide +kernel
theorem dL_law_160 : decode cL_law 160 = .ok (.iaload, 1) := by decide +kernel
theorem dL_law_161 : decode cL_law 161 = .ok (.invokevirtual 17, 3) := by decide +kernel
theorem dL_law_164 : decode cL_law 164 = .ok (.if_icmp .eq 615, 3) := by decide +kernel
theorem dL_law_167 : decode cL_law 167 = .ok (.iconst 0, 1) := by decide +kernel
theorem dL_law_168 : decode cL_law 168 = .ok (.ireturn, 1) := by decide +kernel
theorem dL_law_169 : decode cL_law 169 = .ok (.aload_n 1, 1) := by decide +kernel
theorem dL_law_170 : decode cL_law 170 = .ok (.aload_n 0, 1) := by decide +kernel
theorem dL_law_171 : decode cL_law 171 = .ok (.iload_n 3, 1) := by decide +kernel
theorem dL_law_172 : decode cL_law 172 = .ok (.iconst 1, 1) := by decide +kernel
theorem dL_law_173 : decode cL_law 173 = .ok (.iadd, 1) := by decide +kernel
theorem dL_law_174 : decode cL_law 174 = .ok (.iaload, 1) := by decide +kernel
theorem dL_law_175 : decode cL_law 175 = .ok (.aload_n 0, 1) := by decide +kernel
theorem dL_law_176 : decode cL_law 176 = .ok (.iload_n 3, 1) := by decide +kernel
theorem dL_law_177 : decode cL_law 177 = .ok (.iconst 2, 1) := by decide +kernel
theorem dL_law_178 : decode cL_law 178 = .ok (.iadd, 1) := by decide +kernel
theorem dL_law_179 : decode cL_law 179 = .ok (.iaload, 1) := by decide +kernel
theorem dL_law_180 : decode cL_law 180 = .ok (.invokevirtual 18, 3) := by decide +kernel
theorem dL_law_183 : decode cL_law 183 = .ok (.aload_n 2, 1) := by decide +kernel
theorem dL_law_184 : decode cL_law 184 = .ok (.aload_n 0, 1) := by decide +kernel
theorem dL_law_185 : decode cL_law 185 = .ok (.iload_n 3, 1) := by decide +kernel
theorem dL_law_186 : decode cL_law 186 = .ok (.iconst 1, 1) := by decide +kernel
theorem dL_law_187 : decode cL_law 187 = .ok (.iadd, 1) := by decide +kernel
theorem dL_law_188 : decode cL_law 188 = .ok (.iaload, 1) := by decide +kernel
theorem dL_law_189 : decode cL_law 189 = .ok (.aload_n 0, 1) := by decide +kernel
theorem dL_law_190 : decode cL_law 190 = .ok (.iload_n 3, 1) := by decide +kernel
theorem dL_law_191 : decode cL_law 191 = .ok (.iconst 2, 1) := by decide +kernel
theorem dL_law_192 : decode cL_law 192 = .ok (.iadd, 1) := by decide +kernel
theorem dL_law_193 : decode cL_law 193 = .ok (.iaload, 1) := by decide +kernel
theorem dL_law_194 : decode cL_law 194 = .ok (.invokevirtual 21, 3) := by decide +kernel
theorem dL_law_197 : decode cL_law 197 = .ok (.if_icmp .eq 582, 3) := by decide +kernel
theorem dL_law_200 : decode cL_law 200 = .ok (.iconst 0, 1) := by decide +kernel
theorem dL_law_201 : decode cL_law 201 = .ok (.ireturn, 1) := by decide +kernel
theorem dL_law_202 : decode cL_law 202 = .ok (.aload_n 1, 1) := by decide +kernel
theorem dL_law_203 : decode cL_law 203 = .ok (.aload_n 0, 1) := by decide +kernel
theorem dL_law_204 : decode cL_law 204 = .ok (.iload_n 3, 1) := by decide +kernel
theorem dL_law_205 : decode cL_law 205 = .ok (.iconst 1, 1) := by decide +kernel
theorem dL_law_206 : decode cL_law 206 = .ok (.iadd, 1) := by decide +kernel
theorem dL_law_207 : decode cL_law 207 = .ok (.iaload, 1) := by decide +kernel
theorem dL_law_208 : decode cL_law 208 = .ok (.aload_n 0, 1) := by decide +kernel
theorem dL_law_209 : decode cL_law 209 = .ok (.iload_n 3, 1) := by decide +kernel
theorem dL_law_210 : decode cL_law 210 = .ok (.iconst 2, 1) := by decide +kernel
theorem dL_law_211 : decode cL_law 211 = .ok (.iadd, 1) := by decide +kernel
theorem dL_law_212 : decode cL_law 212 = .ok (.iaload, 1) := by decide +kernel
theorem dL_law_213 : decode cL_law 213 = .ok (.aload_n 0, 1) := by decide +kernel
theorem dL_law_214 : decode cL_law 214 = .ok (.iload_n 3, 1) := by decide +kernel
theorem dL_law_215 : decode cL_law 215 = .ok (.iconst 3, 1) := by decide +kernel
theorem dL_law_216 : decode cL_law 216 = .ok (.iadd, 1) := by decide +kernel
theorem dL_law_217 : decode cL_law 217 = .ok (.iaload, 1) := by decide +kernel
theorem dL_law_218 : decode cL_law 218 = .ok (.invokevirtual 22, 3) := by decide +kernel
theorem dL_law_221 : decode cL_law 221 = .ok (.aload_n 2, 1) := by decide +kernel
theorem dL_law_222 : decode cL_law 222 = .ok (.aload_n 0, 1) := by decide +kernel
theorem dL_law_223 : decode cL_law 223 = .ok (.iload_n 3, 1) := by decide +kernel
theorem dL_law_224 : decode cL_law 224 = .ok (.iconst 1, 1) := by decide +kernel
theorem dL_law_225 : decode cL_law 225 = .ok (.iadd, 1) := by decide +kernel
theorem dL_law_226 : decode cL_law 226 = .ok (.iaload, 1) := by decide +kernel
theorem dL_law_227 : decode cL_law 227 = .ok (.aload_n 0, 1) := by decide +kernel
theorem dL_law_228 : decode cL_law 228 = .ok (.iload_n 3, 1) := by decide +kernel
theorem dL_law_229 : decode cL_law 229 = .ok (.iconst 2, 1) := by decide +kernel
theorem dL_law_230 : decode cL_law 230 = .ok (.iadd, 1) := by decide +kernel
theorem dL_law_231 : decode cL_law 231 = .ok (.iaload, 1) := by decide +kernel
theorem dL_law_232 : decode cL_law 232 = .ok (.aload_n 0, 1) := by decide +kernel
theorem dL_law_233 : decode cL_law 233 = .ok (.iload_n 3, 1) := by decide +kernel
theorem dL_law_234 : decode cL_law 234 = .ok (.iconst 3, 1) := by decide +kernel
theorem dL_law_235 : decode cL_law 235 = .ok (.iadd, 1) := by decide +kernel
theorem dL_law_236 : decode cL_law 236 = .ok (.iaload, 1) := by decide +kernel
theorem dL_law_237 : decode cL_law 237 = .ok (.invokevirtual 26, 3) := by decide +kernel
theorem dL_law_240 : decode cL_law 240 = .ok (.if_icmp .eq 539, 3) := by decide +kernel
theorem dL_law_243 : decode cL_law 243 = .ok (.iconst 0, 1) := by decide +kernel
theorem dL_law_244 : decode cL_law 244 = .ok (.ireturn, 1) := by decide +kernel
theorem dL_law_245 : decode cL_law 245 = .ok (.aload_n 1, 1) := by decide +kernel
theorem dL_law_246 : decode cL_law 246 = .ok (.aload_n 0, 1) := by decide +kernel
theorem dL_law_247 : decode cL_law 247 = .ok (.iload_n 3, 1) := by decide +kernel
theorem dL_law_248 : decode cL_law 248 = .ok (.iconst 1, 1) := by decide +kernel
theorem dL_law_249 : decode cL_law 249 = .ok (.iadd, 1) := by decide +kernel
theorem dL_law_250 : decode cL_law 250 = .ok (.iaload, 1) := by decide +kernel
theorem dL_law_251 : decode cL_law 251 = .ok (.aload_n 0, 1) := by decide +kernel
theorem dL_law_252 : decode cL_law 252 = .ok (.iload_n 3, 1) := by decide +kernel
theorem dL_law_253 : decode cL_law 253 = .ok (.iconst 2, 1) := by decide +kernel
theorem dL_law_254 : decode cL_law 254 = .ok (.iadd, 1) := by decide +kernel
theorem dL_law_255 : decode cL_law 255 = .ok (.iaload, 1) := by decide +kernel
theorem dL_law_256 : decode cL_law 256 = .ok (.invokevirtual 27, 3) := by decide +kernel
theorem dL_law_259 : decode cL_law 259 = .ok (.aload_n 2, 1) := by decide +kernel
theorem dL_law_260 : decode cL_law 260 = .ok (.aload_n 0, 1) := by decide +kernel
theorem dL_law_261 : decode cL_law 261 = .ok (.iload_n 3, 1) := by decide +kernel
theorem dL_law_262 : decode cL_law 262 = .ok (.iconst 1, 1) := by decide +kernel
theorem dL_law_263 : decode cL_law 263 = .ok (.iadd, 1) := by decide +kernel
theorem dL_law_264 : decode cL_law 264 = .ok (.iaload, 1) := by decide +kernel
theorem dL_law_265 : decode cL_law 265 = .ok (.aload_n 0, 1) := by decide +kernel
theorem dL_law_266 : decode cL_law 266 = .ok (.iload_n 3, 1) := by decide +kernel
theorem dL_law_267 : decode cL_law 267 = .ok (.iconst 2, 1) := by decide +kernel
theorem dL_law_268 : decode cL_law 268 = .ok (.iadd, 1) := by decide +kernel
theorem dL_law_269 : decode cL_law 269 = .ok (.iaload, 1) := by decide +kernel
theorem dL_law_270 : decode cL_law 270 = .ok (.invokevirtual 30, 3) := by decide +kernel
theorem dL_law_273 : decode cL_law 273 = .ok (.if_icmp .eq 506, 3) := by decide +kernel
theorem dL_law_276 : decode cL_law 276 = .ok (.iconst 0, 1) := by decide +kernel
theorem dL_law_277 : decode cL_law 277 = .ok (.ireturn, 1) := by decide +kernel
theorem dL_law_278 : decode cL_law 278 = .ok (.aload_n 1, 1) := by decide +kernel
theorem dL_law_279 : decode cL_law 279 = .ok (.aload_n 0, 1) := by decide +kernel
theorem dL_law_280 : decode cL_law 280 = .ok (.iload_n 3, 1) := by decide +kernel
theorem dL_law_281 : decode cL_law 281 = .ok (.iconst 1, 1) := by decide +kernel
theorem dL_law_282 : decode cL_law 282 = .ok (.iadd, 1) := by decide +kernel
theorem dL_law_283 : decode cL_law 283 = .ok (.iaload, 1) := by decide +kernel
theorem dL_law_284 : decode cL_law 284 = .ok (.aload_n 0, 1) := by decide +kernel
theorem dL_law_285 : decode cL_law 285 = .ok (.iload_n 3, 1) := by decide +kernel
theorem dL_law_286 : decode cL_law 286 = .ok (.iconst 2, 1) := by decide +kernel
theorem dL_law_287 : decode cL_law 287 = .ok (.iadd, 1) := by decide +kernel
theorem dL_law_288 : decode cL_law 288 = .ok (.iaload, 1) := by decide +kernel
theorem dL_law_289 : decode cL_law 289 = .ok (.invokevirtual 31, 3) := by decide +kernel
theorem dL_law_292 : decode cL_law 292 = .ok (.aload_n 2, 1) := by decide +kernel
theorem dL_law_293 : decode cL_law 293 = .ok (.aload_n 0, 1) := by decide +kernel
theorem dL_law_294 : decode cL_law 294 = .ok (.iload_n 3, 1) := by decide +kernel
theorem dL_law_295 : decode cL_law 295 = .ok (.iconst 1, 1) := by decide +kernel
theorem dL_law_296 : decode cL_law 296 = .ok (.iadd, 1) := by decide +kernel
theorem dL_law_297 : decode cL_law 297 = .ok (.iaload, 1) := by decide +kernel
theorem dL_law_298 : decode cL_law 298 = .ok (.aload_n 0, 1) := by decide +kernel
theorem dL_law_299 : decode cL_law 299 = .ok (.iload_n 3, 1) := by decide +kernel
theorem dL_law_300 : decode cL_law 300 = .ok (.iconst 2, 1) := by decide +kernel
theorem dL_law_301 : decode cL_law 301 = .ok (.iadd, 1) := by decide +kernel
theorem dL_law_302 : decode cL_law 302 = .ok (.iaload, 1) := by decide +kernel
theorem dL_law_303 : decode cL_law 303 = .ok (.invokevirtual 34, 3) := by decide +kernel
theorem dL_law_306 : decode cL_law 306 = .ok (.if_icmp .eq 473, 3) := by decide +kernel
theorem dL_law_309 : decode cL_law 309 = .ok (.iconst 0, 1) := by decide +kernel
theorem dL_law_310 : decode cL_law 310 = .ok (.ireturn, 1) := by decide +kernel
theorem dL_law_311 : decode cL_law 311 = .ok (.aload_n 1, 1) := by decide +kernel
theorem dL_law_312 : decode cL_law 312 = .ok (.aload_n 0, 1) := by decide +kernel
theorem dL_law_313 : decode cL_law 313 = .ok (.iload_n 3, 1) := by decide +kernel
theorem dL_law_314 : decode cL_law 314 = .ok (.iconst 1, 1) := by decide +kernel
theorem dL_law_315 : decode cL_law 315 = .ok (.iadd, 1) := by decide +kernel
theorem dL_law_316 : decode cL_law 316 = .ok (.iaload, 1) := by decide +kernel
theorem dL_law_317 : decode cL_law 317 = .ok (.invokevirtual 35, 3) := by decide +kernel
theorem dL_law_320 : decode cL_law 320 = .ok (.aload_n 2, 1) := by decide +kernel
theorem dL_law_321 : decode cL_law 321 = .ok (.aload_n 0, 1) := by decide +kernel
theorem dL_law_322 : decode cL_law 322 = .ok (.iload_n 3, 1) := by decide +kernel
theorem dL_law_323 : decode cL_law 323 = .ok (.iconst 1, 1) := by decide +kernel
theorem dL_law_324 : decode cL_law 324 = .ok (.iadd, 1) := by decide +kernel
theorem dL_law_325 : decode cL_law 325 = .ok (.iaload, 1) := by decide +kernel
theorem dL_law_326 : decode cL_law 326 = .ok (.invokevirtual 39, 3) := by decide +kernel
theorem dL_law_329 : decode cL_law 329 = .ok (.if_icmp .eq 450, 3) := by decide +kernel
theorem dL_law_332 : decode cL_law 332 = .ok (.iconst 0, 1) := by decide +kernel
theorem dL_law_333 : decode cL_law 333 = .ok (.ireturn, 1) := by decide +kernel
theorem dL_law_334 : decode cL_law 334 = .ok (.aload_n 1, 1) := by decide +kernel
theorem dL_law_335 : decode cL_law 335 = .ok (.aload_n 0, 1) := by decide +kernel
theorem dL_law_336 : decode cL_law 336 = .ok (.iload_n 3, 1) := by decide +kernel
theorem dL_law_337 : decode cL_law 337 = .ok (.iconst 1, 1) := by decide +kernel
theorem dL_law_338 : decode cL_law 338 = .ok (.iadd, 1) := by decide +kernel
theorem dL_law_339 : decode cL_law 339 = .ok (.iaload, 1) := by decide +kernel
theorem dL_law_340 : decode cL_law 340 = .ok (.ifCond .eq 7, 3) := by decide +kernel
theorem dL_law_343 : decode cL_law 343 = .ok (.iconst 1, 1) := by decide +kernel
theorem dL_law_344 : decode cL_law 344 = .ok (.goto 4, 3) := by decide +kernel
theorem dL_law_347 : decode cL_law 347 = .ok (.iconst 0, 1) := by decide +kernel
theorem dL_law_348 : decode cL_law 348 = .ok (.invokevirtual 40, 3) := by decide +kernel
theorem dL_law_351 : decode cL_law 351 = .ok (.aload_n 2, 1) := by decide +kernel
theorem dL_law_352 : decode cL_law 352 = .ok (.aload_n 0, 1) := by decide +kernel
theorem dL_law_353 : decode cL_law 353 = .ok (.iload_n 3, 1) := by decide +kernel
theorem dL_law_354 : decode cL_law 354 = .ok (.iconst 1, 1) := by decide +kernel
theorem dL_law_355 : decode cL_law 355 = .ok (.iadd, 1) := by decide +kernel
theorem dL_law_356 : decode cL_law 356 = .ok (.iaload, 1) := by decide +kernel
theorem dL_law_357 : decode cL_law 357 = .ok (.ifCond .eq 7, 3) := by decide +kernel
theorem dL_law_360 : decode cL_law 360 = .ok (.iconst 1, 1) := by decide +kernel
theorem dL_law_361 : decode cL_law 361 = .ok (.goto 4, 3) := by decide +kernel
theorem dL_law_364 : decode cL_law 364 = .ok (.iconst 0, 1) := by decide +kernel
theorem dL_law_365 : decode cL_law 365 = .ok (.invokevirtual 44, 3) := by decide +kernel
theorem dL_law_368 : decode cL_law 368 = .ok (.if_icmp .eq 411, 3) := by decide +kernel
theorem dL_law_371 : decode cL_law 371 = .ok (.iconst 0, 1) := by decide +kernel
theorem dL_law_372 : decode cL_law 372 = .ok (.ireturn, 1) := by decide +kernel
theorem dL_law_373 : decode cL_law 373 = .ok (.aload_n 1, 1) := by decide +kernel
theorem dL_law_374 : decode cL_law 374 = .ok (.aload_n 0, 1) := by decide +kernel
theorem dL_law_375 : decode cL_law 375 = .ok (.iload_n 3, 1) := by decide +kernel
theorem dL_law_376 : decode cL_law 376 = .ok (.iconst 1, 1) := by decide +kernel
theorem dL_law_377 : decode cL_law 377 = .ok (.iadd, 1) := by decide +kernel
theorem dL_law_378 : decode cL_law 378 = .ok (.iaload, 1) := by decide +kernel
theorem dL_law_379 : decode cL_law 379 = .ok (.invokevirtual 45, 3) := by decide +kernel
theorem dL_law_382 : decode cL_law 382 = .ok (.aload_n 2, 1) := by decide +kernel
theorem dL_law_383 : decode cL_law 383 = .ok (.aload_n 0, 1) := by decide +kernel
theorem dL_law_384 : decode cL_law 384 = .ok (.iload_n 3, 1) := by decide +kernel
theorem dL_law_385 : decode cL_law 385 = .ok (.iconst 1, 1) := by decide +kernel
theorem dL_law_386 : decode cL_law 386 = .ok (.iadd, 1) := by decide +kernel
theorem dL_law_387 : decode cL_law 387 = .ok (.iaload, 1) := by decide +kernel
theorem dL_law_388 : decode cL_law 388 = .ok (.invokevirtual 48, 3) := by decide +kernel
theorem dL_law_391 : decode cL_law 391 = .ok (.if_icmp .eq 388, 3) := by decide +kernel
theorem dL_law_394 : decode cL_law 394 = .ok (.iconst 0, 1) := by decide +kernel
theorem dL_law_395 : decode cL_law 395 = .ok (.ireturn, 1) := by decide +kernel
theorem dL_law_396 : decode cL_law 396 = .ok (.aload_n 1, 1) := by decide +kernel
theorem dL_law_397 : decode cL_law 397 = .ok (.aload_n 0, 1) := by decide +kernel
theorem dL_law_398 : decode cL_law 398 = .ok (.iload_n 3, 1) := by decide +kernel
theorem dL_law_399 : decode cL_law 399 = .ok (.iconst 1, 1) := by decide +kernel
theorem dL_law_400 : decode cL_law 400 = .ok (.iadd, 1) := by decide +kernel
theorem dL_law_401 : decode cL_law 401 = .ok (.iaload, 1) := by decide +kernel
theorem dL_law_402 : decode cL_law 402 = .ok (.aload_n 0, 1) := by decide +kernel
theorem dL_law_403 : decode cL_law 403 = .ok (.iload_n 3, 1) := by decide +kernel
theorem dL_law_404 : decode cL_law 404 = .ok (.iconst 2, 1) := by decide +kernel
theorem dL_law_405 : decode cL_law 405 = .ok (.iadd, 1) := by decide +kernel
theorem dL_law_406 : decode cL_law 406 = .ok (.iaload, 1) := by decide +kernel
theorem dL_law_407 : decode cL_law 407 = .ok (.invokevirtual 49, 3) := by decide +kernel
theorem dL_law_410 : decode cL_law 410 = .ok (.aload_n 2, 1) := by decide +kernel
theorem dL_law_411 : decode cL_law 411 = .ok (.aload_n 0, 1) := by decide +kernel
theorem dL_law_412 : decode cL_law 412 = .ok (.iload_n 3, 1) := by decide +kernel
theorem dL_law_413 : decode cL_law 413 = .ok (.iconst 1, 1) := by decide +kernel
theorem dL_law_414 : decode cL_law 414 = .ok (.iadd, 1) := by decide +kernel
theorem dL_law_415 : decode cL_law 415 = .ok (.iaload, 1) := by decide +kernel
theorem dL_law_416 : decode cL_law 416 = .ok (.aload_n 0, 1) := by decide +kernel
theorem dL_law_417 : decode cL_law 417 = .ok (.iload_n 3, 1) := by decide +kernel
theorem dL_law_418 : decode cL_law 418 = .ok (.iconst 2, 1) := by decide +kernel
theorem dL_law_419 : decode cL_law 419 = .ok (.iadd, 1) := by decide +kernel
theorem dL_law_420 : decode cL_law 420 = .ok (.iaload, 1) := by decide +kernel
theorem dL_law_421 : decode cL_law 421 = .ok (.invokevirtual 52, 3) := by decide +kernel
theorem dL_law_424 : decode cL_law 424 = .ok (.if_icmp .eq 355, 3) := by decide +kernel
theorem dL_law_427 : decode cL_law 427 = .ok (.iconst 0, 1) := by decide +kernel
theorem dL_law_428 : decode cL_law 428 = .ok (.ireturn, 1) := by decide +kernel
theorem dL_law_429 : decode cL_law 429 = .ok (.aload_n 1, 1) := by decide +kernel
theorem dL_law_430 : decode cL_law 430 = .ok (.aload_n 0, 1) := by decide +kernel
theorem dL_law_431 : decode cL_law 431 = .ok (.iload_n 3, 1) := by decide +kernel
theorem dL_law_432 : decode cL_law 432 = .ok (.iconst 1, 1) := by decide +kernel
theorem dL_law_433 : decode cL_law 433 = .ok (.iadd, 1) := by decide +kernel
theorem dL_law_434 : decode cL_law 434 = .ok (.iaload, 1) := by decide +kernel
theorem dL_law_435 : decode cL_law 435 = .ok (.aload_n 0, 1) := by decide +kernel
theorem dL_law_436 : decode cL_law 436 = .ok (.iload_n 3, 1) := by decide +kernel
theorem dL_law_437 : decode cL_law 437 = .ok (.iconst 2, 1) := by decide +kernel
theorem dL_law_438 : decode cL_law 438 = .ok (.iadd, 1) := by decide +kernel
theorem dL_law_439 : decode cL_law 439 = .ok (.iaload, 1) := by decide +kernel
theorem dL_law_440 : decode cL_law 440 = .ok (.invokevirtual 53, 3) := by decide +kernel
theorem dL_law_443 : decode cL_law 443 = .ok (.aload_n 2, 1) := by decide +kernel
theorem dL_law_444 : decode cL_law 444 = .ok (.aload_n 0, 1) := by decide +kernel
theorem dL_law_445 : decode cL_law 445 = .ok (.iload_n 3, 1) := by decide +kernel
theorem dL_law_446 : decode cL_law 446 = .ok (.iconst 1, 1) := by decide +kernel
theorem dL_law_447 : decode cL_law 447 = .ok (.iadd, 1) := by decide +kernel
theorem dL_law_448 : decode cL_law 448 = .ok (.iaload, 1) := by decide +kernel
theorem dL_law_449 : decode cL_law 449 = .ok (.aload_n 0, 1) := by decide +kernel
theorem dL_law_450 : decode cL_law 450 = .ok (.iload_n 3, 1) := by decide +kernel
theorem dL_law_451 : decode cL_law 451 = .ok (.iconst 2, 1) := by decide +kernel
theorem dL_law_452 : decode cL_law 452 = .ok (.iadd, 1) := by decide +kernel
theorem dL_law_453 : decode cL_law 453 = .ok (.iaload, 1) := by decide +kernel
theorem dL_law_454 : decode cL_law 454 = .ok (.invokevirtual 56, 3) := by decide +kernel
theorem dL_law_457 : decode cL_law 457 = .ok (.if_icmp .eq 322, 3) := by decide +kernel
theorem dL_law_460 : decode cL_law 460 = .ok (.iconst 0, 1) := by decide +kernel
theorem dL_law_461 : decode cL_law 461 = .ok (.ireturn, 1) := by decide +kernel
theorem dL_law_462 : decode cL_law 462 = .ok (.aload_n 1, 1) := by decide +kernel
theorem dL_law_463 : decode cL_law 463 = .ok (.aload_n 0, 1) := by decide +kernel
theorem dL_law_464 : decode cL_law 464 = .ok (.iload_n 3, 1) := by decide +kernel
theorem dL_law_465 : decode cL_law 465 = .ok (.iconst 1, 1) := by decide +kernel
theorem dL_law_466 : decode cL_law 466 = .ok (.iadd, 1) := by decide +kernel
theorem dL_law_467 : decode cL_law 467 = .ok (.iaload, 1) := by decide +kernel
theorem dL_law_468 : decode cL_law 468 = .ok (.invokevirtual 57, 3) := by decide +kernel
theorem dL_law_471 : decode cL_law 471 = .ok (.aload_n 2, 1) := by decide +kernel
theorem dL_law_472 : decode cL_law 472 = .ok (.aload_n 0, 1) := by decide +kernel
theorem dL_law_473 : decode cL_law 473 = .ok (.iload_n 3, 1) := by decide +kernel
theorem dL_law_474 : decode cL_law 474 = .ok (.iconst 1, 1) := by decide +kernel
theorem dL_law_475 : decode cL_law 475 = .ok (.iadd, 1) := by decide +kernel
theorem dL_law_476 : decode cL_law 476 = .ok (.iaload, 1) := by decide +kernel
theorem dL_law_477 : decode cL_law 477 = .ok (.invokevirtual 60, 3) := by decide +kernel
theorem dL_law_480 : decode cL_law 480 = .ok (.if_icmp .eq 299, 3) := by decide +kernel
theorem dL_law_483 : decode cL_law 483 = .ok (.iconst 0, 1) := by decide +kernel
theorem dL_law_484 : decode cL_law 484 = .ok (.ireturn, 1) := by decide +kernel
theorem dL_law_485 : decode cL_law 485 = .ok (.aload_n 1, 1) := by decide +kernel
theorem dL_law_486 : decode cL_law 486 = .ok (.invokevirtual 61, 3) := by decide +kernel
theorem dL_law_489 : decode cL_law 489 = .ok (.aload_n 2, 1) := by decide +kernel
theorem dL_law_490 : decode cL_law 490 = .ok (.invokevirtual 65, 3) := by decide +kernel
theorem dL_law_493 : decode cL_law 493 = .ok (.if_icmp .eq 286, 3) := by decide +kernel
theorem dL_law_496 : decode cL_law 496 = .ok (.iconst 0, 1) := by decide +kernel
theorem dL_law_497 : decode cL_law 497 = .ok (.ireturn, 1) := by decide +kernel
theorem dL_law_498 : decode cL_law 498 = .ok (.aload_n 1, 1) := by decide +kernel
theorem dL_law_499 : decode cL_law 499 = .ok (.aload_n 0, 1) := by decide +kernel
theorem dL_law_500 : decode cL_law 500 = .ok (.iload_n 3, 1) := by decide +kernel
theorem dL_law_501 : decode cL_law 501 = .ok (.iconst 1, 1) := by decide +kernel
theorem dL_law_502 : decode cL_law 502 = .ok (.iadd, 1) := by decide +kernel
theorem dL_law_503 : decode cL_law 503 = .ok (.iaload, 1) := by decide +kernel
theorem dL_law_504 : decode cL_law 504 = .ok (.invokevirtual 66, 3) := by decide +kernel
theorem dL_law_507 : decode cL_law 507 = .ok (.aload_n 2, 1) := by decide +kernel
theorem dL_law_508 : decode cL_law 508 = .ok (.aload_n 0, 1) := by decide +kernel
theorem dL_law_509 : decode cL_law 509 = .ok (.iload_n 3, 1) := by decide +kernel
theorem dL_law_510 : decode cL_law 510 = .ok (.iconst 1, 1) := by decide +kernel
theorem dL_law_511 : decode cL_law 511 = .ok (.iadd, 1) := by decide +kernel
theorem dL_law_512 : decode cL_law 512 = .ok (.iaload, 1) := by decide +kernel
theorem dL_law_513 : decode cL_law 513 = .ok (.invokevirtual 69, 3) := by decide +kernel
theorem dL_law_516 : decode cL_law 516 = .ok (.if_icmp .eq 263, 3) := by decide +kernel
theorem dL_law_519 : decode cL_law 519 = .ok (.iconst 0, 1) := by decide +kernel
theorem dL_law_520 : decode cL_law 520 = .ok (.ireturn, 1) := by decide +kernel
theorem dL_law_521 : decode cL_law 521 = .ok (.aload_n 1, 1) := by decide +kernel
theorem dL_law_522 : decode cL_law 522 = .ok (.aload_n 0, 1) := by decide +kernel
theorem dL_law_523 : decode cL_law 523 = .ok (.iload_n 3, 1) := by decide +kernel
theorem dL_law_524 : decode cL_law 524 = .ok (.iconst 1, 1) := by decide +kernel
theorem dL_law_525 : decode cL_law 525 = .ok (.iadd, 1) := by decide +kernel
theorem dL_law_526 : decode cL_law 526 = .ok (.iaload, 1) := by decide +kernel
theorem dL_law_527 : decode cL_law 527 = .ok (.aload_n 0, 1) := by decide +kernel
theorem dL_law_528 : decode cL_law 528 = .ok (.iload_n 3, 1) := by decide +kernel
theorem dL_law_529 : decode cL_law 529 = .ok (.iconst 2, 1) := by decide +kernel
theorem dL_law_530 : decode cL_law 530 = .ok (.iadd, 1) := by decide +kernel
theorem dL_law_531 : decode cL_law 531 = .ok (.iaload, 1) := by decide +kernel
theorem dL_law_532 : decode cL_law 532 = .ok (.aload_n 0, 1) := by decide +kernel
theorem dL_law_533 : decode cL_law 533 = .ok (.iload_n 3, 1) := by decide +kernel
theorem dL_law_534 : decode cL_law 534 = .ok (.iconst 3, 1) := by decide +kernel
theorem dL_law_535 : decode cL_law 535 = .ok (.iadd, 1) := by decide +kernel
theorem dL_law_536 : decode cL_law 536 = .ok (.iaload, 1) := by decide +kernel
theorem dL_law_537 : decode cL_law 537 = .ok (.aload_n 0, 1) := by decide +kernel
theorem dL_law_538 : decode cL_law 538 = .ok (.iload_n 3, 1) := by decide +kernel
theorem dL_law_539 : decode cL_law 539 = .ok (.iconst 4, 1) := by decide +kernel
theorem dL_law_540 : decode cL_law 540 = .ok (.iadd, 1) := by decide +kernel
theorem dL_law_541 : decode cL_law 541 = .ok (.iaload, 1) := by decide +kernel
theorem dL_law_542 : decode cL_law 542 = .ok (.invokevirtual 70, 3) := by decide +kernel
theorem dL_law_545 : decode cL_law 545 = .ok (.aload_n 2, 1) := by decide +kernel
theorem dL_law_546 : decode cL_law 546 = .ok (.aload_n 0, 1) := by decide +kernel
theorem dL_law_547 : decode cL_law 547 = .ok (.iload_n 3, 1) := by decide +kernel
theorem dL_law_548 : decode cL_law 548 = .ok (.iconst 1, 1) := by decide +kernel
theorem dL_law_549 : decode cL_law 549 = .ok (.iadd, 1) := by decide +kernel
theorem dL_law_550 : decode cL_law 550 = .ok (.iaload, 1) := by decide +kernel
theorem dL_law_551 : decode cL_law 551 = .ok (.aload_n 0, 1) := by decide +kernel
theorem dL_law_552 : decode cL_law 552 = .ok (.iload_n 3, 1) := by decide +kernel
theorem dL_law_553 : decode cL_law 553 = .ok (.iconst 2, 1) := by decide +kernel
theorem dL_law_554 : decode cL_law 554 = .ok (.iadd, 1) := by decide +kernel
theorem dL_law_555 : decode cL_law 555 = .ok (.iaload, 1) := by decide +kernel
theorem dL_law_556 : decode cL_law 556 = .ok (.aload_n 0, 1) := by decide +kernel
theorem dL_law_557 : decode cL_law 557 = .ok (.iload_n 3, 1) := by decide +kernel
theorem dL_law_558 : decode cL_law 558 = .ok (.iconst 3, 1) := by decide +kernel
theorem dL_law_559 : decode cL_law 559 = .ok (.iadd, 1) := by decide +kernel
theorem dL_law_560 : decode cL_law 560 = .ok (.iaload, 1) := by decide +kernel
theorem dL_law_561 : decode cL_law 561 = .ok (.aload_n 0, 1) := by decide +kernel
theorem dL_law_562 : decode cL_law 562 = .ok (.iload_n 3, 1) := by decide +kernel
theorem dL_law_563 : decode cL_law 563 = .ok (.iconst 4, 1) := by decide +kernel
theorem dL_law_564 : decode cL_law 564 = .ok (.iadd, 1) := by decide +kernel
theorem dL_law_565 : decode cL_law 565 = .ok (.iaload, 1) := by decide +kernel
theorem dL_law_566 : decode cL_law 566 = .ok (.invokevirtual 74, 3) := by decide +kernel
theorem dL_law_569 : decode cL_law 569 = .ok (.if_icmp .eq 210, 3) := by decide +kernel
theorem dL_law_572 : decode cL_law 572 = .ok (.iconst 0, 1) := by decide +kernel
theorem dL_law_573 : decode cL_law 573 = .ok (.ireturn, 1) := by decide +kernel
theorem dL_law_574 : decode cL_law 574 = .ok (.aload_n 1, 1) := by decide +kernel
theorem dL_law_575 : decode cL_law 575 = .ok (.invokevirtual 75, 3) := by decide +kernel
theorem dL_law_578 : decode cL_law 578 = .ok (.aload_n 2, 1) := by decide +kernel
theorem dL_law_579 : decode cL_law 579 = .ok (.invokevirtual 78, 3) := by decide +kernel
theorem dL_law_582 : decode cL_law 582 = .ok (.if_icmp .eq 197, 3) := by decide +kernel
theorem dL_law_585 : decode cL_law 585 = .ok (.iconst 0, 1) := by decide +kernel
theorem dL_law_586 : decode cL_law 586 = .ok (.ireturn, 1) := by decide +kernel
theorem dL_law_587 : decode cL_law 587 = .ok (.aload_n 1, 1) := by decide +kernel
theorem dL_law_588 : decode cL_law 588 = .ok (.aload_n 0, 1) := by decide +kernel
theorem dL_law_589 : decode cL_law 589 = .ok (.iload_n 3, 1) := by decide +kernel
theorem dL_law_590 : decode cL_law 590 = .ok (.iconst 1, 1) := by decide +kernel
theorem dL_law_591 : decode cL_law 591 = .ok (.iadd, 1) := by decide +kernel
theorem dL_law_592 : decode cL_law 592 = .ok (.iaload, 1) := by decide +kernel
theorem dL_law_593 : decode cL_law 593 = .ok (.aload_n 0, 1) := by decide +kernel
theorem dL_law_594 : decode cL_law 594 = .ok (.iload_n 3, 1) := by decide +kernel
theorem dL_law_595 : decode cL_law 595 = .ok (.iconst 2, 1) := by decide +kernel
theorem dL_law_596 : decode cL_law 596 = .ok (.iadd, 1) := by decide +kernel
theorem dL_law_597 : decode cL_law 597 = .ok (.iaload, 1) := by decide +kernel
theorem dL_law_598 : decode cL_law 598 = .ok (.invokevirtual 79, 3) := by decide +kernel
theorem dL_law_601 : decode cL_law 601 = .ok (.aload_n 2, 1) := by decide +kernel
theorem dL_law_602 : decode cL_law 602 = .ok (.aload_n 0, 1) := by decide +kernel
theorem dL_law_603 : decode cL_law 603 = .ok (.iload_n 3, 1) := by decide +kernel
theorem dL_law_604 : decode cL_law 604 = .ok (.iconst 1, 1) := by decide +kernel
theorem dL_law_605 : decode cL_law 605 = .ok (.iadd, 1) := by decide +kernel
theorem dL_law_606 : decode cL_law 606 = .ok (.iaload, 1) := by decide +kernel
theorem dL_law_607 : decode cL_law 607 = .ok (.aload_n 0, 1) := by decide +kernel
theorem dL_law_608 : decode cL_law 608 = .ok (.iload_n 3, 1) := by decide +kernel
theorem dL_law_609 : decode cL_law 609 = .ok (.iconst 2, 1) := by decide +kernel
theorem dL_law_610 : decode cL_law 610 = .ok (.iadd, 1) := by decide +kernel
theorem dL_law_611 : decode cL_law 611 = .ok (.iaload, 1) := by decide +kernel
theorem dL_law_612 : decode cL_law 612 = .ok (.invokevirtual 83, 3) := by decide +kernel
theorem dL_law_615 : decode cL_law 615 = .ok (.lcmp, 1) := by decide +kernel
theorem dL_law_616 : decode cL_law 616 = .ok (.ifCond .eq 163, 3) := by decide +kernel
theorem dL_law_619 : decode cL_law 619 = .ok (.iconst 0, 1) := by decide +kernel
theorem dL_law_620 : decode cL_law 620 = .ok (.ireturn, 1) := by decide +kernel
theorem dL_law_621 : decode cL_law 621 = .ok (.aload_n 1, 1) := by decide +kernel
theorem dL_law_622 : decode cL_law 622 = .ok (.aload_n 0, 1) := by decide +kernel
theorem dL_law_623 : decode cL_law 623 = .ok (.iload_n 3, 1) := by decide +kernel
theorem dL_law_624 : decode cL_law 624 = .ok (.iconst 1, 1) := by decide +kernel
theorem dL_law_625 : decode cL_law 625 = .ok (.iadd, 1) := by decide +kernel
theorem dL_law_626 : decode cL_law 626 = .ok (.iaload, 1) := by decide +kernel
theorem dL_law_627 : decode cL_law 627 = .ok (.aload_n 0, 1) := by decide +kernel
theorem dL_law_628 : decode cL_law 628 = .ok (.iload_n 3, 1) := by decide +kernel
theorem dL_law_629 : decode cL_law 629 = .ok (.iconst 2, 1) := by decide +kernel
theorem dL_law_630 : decode cL_law 630 = .ok (.iadd, 1) := by decide +kernel
theorem dL_law_631 : decode cL_law 631 = .ok (.iaload, 1) := by decide +kernel
theorem dL_law_632 : decode cL_law 632 = .ok (.invokevirtual 84, 3) := by decide +kernel
theorem dL_law_635 : decode cL_law 635 = .ok (.aload_n 2, 1) := by decide +kernel
theorem dL_law_636 : decode cL_law 636 = .ok (.aload_n 0, 1) := by decide +kernel
theorem dL_law_637 : decode cL_law 637 = .ok (.iload_n 3, 1) := by decide +kernel
theorem dL_law_638 : decode cL_law 638 = .ok (.iconst 1, 1) := by decide +kernel
theorem dL_law_639 : decode cL_law 639 = .ok (.iadd, 1) := by decide +kernel
theorem dL_law_640 : decode cL_law 640 = .ok (.iaload, 1) := by decide +kernel
theorem dL_law_641 : decode cL_law 641 = .ok (.aload_n 0, 1) := by decide +kernel
theorem dL_law_642 : decode cL_law 642 = .ok (.iload_n 3, 1) := by decide +kernel
theorem dL_law_643 : decode cL_law 643 = .ok (.iconst 2, 1) := by decide +kernel
theorem dL_law_644 : decode cL_law 644 = .ok (.iadd, 1) := by decide +kernel
theorem dL_law_645 : decode cL_law 645 = .ok (.iaload, 1) := by decide +kernel
theorem dL_law_646 : decode cL_law 646 = .ok (.invokevirtual 87, 3) := by decide +kernel
theorem dL_law_649 : decode cL_law 649 = .ok (.if_icmp .eq 130, 3) := by decide +kernel
theorem dL_law_652 : decode cL_law 652 = .ok (.iconst 0, 1) := by decide +kernel
theorem dL_law_653 : decode cL_law 653 = .ok (.ireturn, 1) := by decide +kernel
theorem dL_law_654 : decode cL_law 654 = .ok (.aload_n 1, 1) := by decide +kernel
theorem dL_law_655 : decode cL_law 655 = .ok (.aload_n 0, 1) := by decide +kernel
theorem dL_law_656 : decode cL_law 656 = .ok (.iload_n 3, 1) := by decide +kernel
theorem dL_law_657 : decode cL_law 657 = .ok (.iconst 1, 1) := by decide +kernel
theorem dL_law_658 : decode cL_law 658 = .ok (.iadd, 1) := by decide +kernel
theorem dL_law_659 : decode cL_law 659 = .ok (.iaload, 1) := by decide +kernel
theorem dL_law_660 : decode cL_law 660 = .ok (.aload_n 0, 1) := by decide +kernel
theorem dL_law_661 : decode cL_law 661 = .ok (.iload_n 3, 1) := by decide +kernel
theorem dL_law_662 : decode cL_law 662 = .ok (.iconst 2, 1) := by decide +kernel
theorem dL_law_663 : decode cL_law 663 = .ok (.iadd, 1) := by decide +kernel
theorem dL_law_664 : decode cL_law 664 = .ok (.iaload, 1) := by decide +kernel
theorem dL_law_665 : decode cL_law 665 = .ok (.invokevirtual 88, 3) := by decide +kernel
theorem dL_law_668 : decode cL_law 668 = .ok (.aload_n 2, 1) := by decide +kernel
theorem dL_law_669 : decode cL_law 669 = .ok (.aload_n 0, 1) := by decide +kernel
theorem dL_law_670 : decode cL_law 670 = .ok (.iload_n 3, 1) := by decide +kernel
theorem dL_law_671 : decode cL_law 671 = .ok (.iconst 1, 1) := by decide +kernel
theorem dL_law_672 : decode cL_law 672 = .ok (.iadd, 1) := by decide +kernel
theorem dL_law_673 : decode cL_law 673 = .ok (.iaload, 1) := by decide +kernel
theorem dL_law_674 : decode cL_law 674 = .ok (.aload_n 0, 1) := by decide +kernel
theorem dL_law_675 : decode cL_law 675 = .ok (.iload_n 3, 1) := by decide +kernel
theorem dL_law_676 : decode cL_law 676 = .ok (.iconst 2, 1) := by decide +kernel
theorem dL_law_677 : decode cL_law 677 = .ok (.iadd, 1) := by decide +kernel
theorem dL_law_678 : decode cL_law 678 = .ok (.iaload, 1) := by decide +kernel
theorem dL_law_679 : decode cL_law 679 = .ok (.invokevirtual 91, 3) := by decide +kernel
theorem dL_law_682 : decode cL_law 682 = .ok (.if_icmp .eq 97, 3) := by decide +kernel
theorem dL_law_685 : decode cL_law 685 = .ok (.iconst 0, 1) := by decide +kernel
theorem dL_law_686 : decode cL_law 686 = .ok (.ireturn, 1) := by decide +kernel
theorem dL_law_687 : decode cL_law 687 = .ok (.aload_n 1, 1) := by decide +kernel
theorem dL_law_688 : decode cL_law 688 = .ok (.invokevirtual 92, 3) := by decide +kernel
theorem dL_law_691 : decode cL_law 691 = .ok (.aload_n 2, 1) := by decide +kernel
theorem dL_law_692 : decode cL_law 692 = .ok (.invokevirtual 95, 3) := by decide +kernel
theorem dL_law_695 : decode cL_law 695 = .ok (.if_icmp .eq 84, 3) := by decide +kernel
theorem dL_law_698 : decode cL_law 698 = .ok (.iconst 0, 1) := by decide +kernel
theorem dL_law_699 : decode cL_law 699 = .ok (.ireturn, 1) := by decide +kernel
theorem dL_law_700 : decode cL_law 700 = .ok (.aload_n 1, 1) := by decide +kernel
theorem dL_law_701 : decode cL_law 701 = .ok (.aload_n 0, 1) := by decide +kernel
theorem dL_law_702 : decode cL_law 702 = .ok (.iload_n 3, 1) := by decide +kernel
theorem dL_law_703 : decode cL_law 703 = .ok (.iconst 1, 1) := by decide +kernel
theorem dL_law_704 : decode cL_law 704 = .ok (.iadd, 1) := by decide +kernel
theorem dL_law_705 : decode cL_law 705 = .ok (.iaload, 1) := by decide +kernel
theorem dL_law_706 : decode cL_law 706 = .ok (.aload_n 0, 1) := by decide +kernel
theorem dL_law_707 : decode cL_law 707 = .ok (.iload_n 3, 1) := by decide +kernel
theorem dL_law_708 : decode cL_law 708 = .ok (.iconst 2, 1) := by decide +kernel
theorem dL_law_709 : decode cL_law 709 = .ok (.iadd, 1) := by decide +kernel
theorem dL_law_710 : decode cL_law 710 = .ok (.iaload, 1) := by decide +kernel
theorem dL_law_711 : decode cL_law 711 = .ok (.aload_n 0, 1) := by decide +kernel
theorem dL_law_712 : decode cL_law 712 = .ok (.iload_n 3, 1) := by decide +kernel
theorem dL_law_713 : decode cL_law 713 = .ok (.iconst 3, 1) := by decide +kernel
theorem dL_law_714 : decode cL_law 714 = .ok (.iadd, 1) := by decide +kernel
theorem dL_law_715 : decode cL_law 715 = .ok (.iaload, 1) := by decide +kernel
theorem dL_law_716 : decode cL_law 716 = .ok (.invokevirtual 96, 3) := by decide +kernel
theorem dL_law_719 : decode cL_law 719 = .ok (.aload_n 2, 1) := by decide +kernel
theorem dL_law_720 : decode cL_law 720 = .ok (.aload_n 0, 1) := by decide +kernel
theorem dL_law_721 : decode cL_law 721 = .ok (.iload_n 3, 1) := by decide +kernel
theorem dL_law_722 : decode cL_law 722 = .ok (.iconst 1, 1) := by decide +kernel
theorem dL_law_723 : decode cL_law 723 = .ok (.iadd, 1) := by decide +kernel
theorem dL_law_724 : decode cL_law 724 = .ok (.iaload, 1) := by decide +kernel
theorem dL_law_725 : decode cL_law 725 = .ok (.aload_n 0, 1) := by decide +kernel
theorem dL_law_726 : decode cL_law 726 = .ok (.iload_n 3, 1) := by decide +kernel
theorem dL_law_727 : decode cL_law 727 = .ok (.iconst 2, 1) := by decide +kernel
theorem dL_law_728 : decode cL_law 728 = .ok (.iadd, 1) := by decide +kernel
theorem dL_law_729 : decode cL_law 729 = .ok (.iaload, 1) := by decide +kernel
theorem dL_law_730 : decode cL_law 730 = .ok (.aload_n 0, 1) := by decide +kernel
theorem dL_law_731 : decode cL_law 731 = .ok (.iload_n 3, 1) := by decide +kernel
theorem dL_law_732 : decode cL_law 732 = .ok (.iconst 3, 1) := by decide +kernel
theorem dL_law_733 : decode cL_law 733 = .ok (.iadd, 1) := by decide +kernel
theorem dL_law_734 : decode cL_law 734 = .ok (.iaload, 1) := by decide +kernel
theorem dL_law_735 : decode cL_law 735 = .ok (.invokevirtual 99, 3) := by decide +kernel
theorem dL_law_738 : decode cL_law 738 = .ok (.if_icmp .eq 41, 3) := by decide +kernel
theorem dL_law_741 : decode cL_law 741 = .ok (.iconst 0, 1) := by decide +kernel
theorem dL_law_742 : decode cL_law 742 = .ok (.ireturn, 1) := by decide +kernel
theorem dL_law_743 : decode cL_law 743 = .ok (.aload_n 1, 1) := by decide +kernel
theorem dL_law_744 : decode cL_law 744 = .ok (.invokevirtual 100, 3) := by decide +kernel
theorem dL_law_747 : decode cL_law 747 = .ok (.aload_n 2, 1) := by decide +kernel
theorem dL_law_748 : decode cL_law 748 = .ok (.invokevirtual 103, 3) := by decide +kernel
theorem dL_law_751 : decode cL_law 751 = .ok (.if_icmp .eq 28, 3) := by decide +kernel
theorem dL_law_754 : decode cL_law 754 = .ok (.iconst 0, 1) := by decide +kernel
theorem dL_law_755 : decode cL_law 755 = .ok (.ireturn, 1) := by decide +kernel
theorem dL_law_756 : decode cL_law 756 = .ok (.aload_n 1, 1) := by decide +kernel
theorem dL_law_757 : decode cL_law 757 = .ok (.aload_n 0, 1) := by decide +kernel
theorem dL_law_758 : decode cL_law 758 = .ok (.iload_n 3, 1) := by decide +kernel
theorem dL_law_759 : decode cL_law 759 = .ok (.iconst 1, 1) := by decide +kernel
theorem dL_law_760 : decode cL_law 760 = .ok (.iadd, 1) := by decide +kernel
theorem dL_law_761 : decode cL_law 761 = .ok (.iaload, 1) := by decide +kernel
theorem dL_law_762 : decode cL_law 762 = .ok (.invokevirtual 104, 3) := by decide +kernel
theorem dL_law_765 : decode cL_law 765 = .ok (.aload_n 2, 1) := by decide +kernel
theorem dL_law_766 : decode cL_law 766 = .ok (.aload_n 0, 1) := by decide +kernel
theorem dL_law_767 : decode cL_law 767 = .ok (.iload_n 3, 1) := by decide +kernel
theorem dL_law_768 : decode cL_law 768 = .ok (.iconst 1, 1) := by decide +kernel
theorem dL_law_769 : decode cL_law 769 = .ok (.iadd, 1) := by decide +kernel
theorem dL_law_770 : decode cL_law 770 = .ok (.iaload, 1) := by decide +kernel
theorem dL_law_771 : decode cL_law 771 = .ok (.invokevirtual 107, 3) := by decide +kernel
theorem dL_law_774 : decode cL_law 774 = .ok (.if_icmp .eq 5, 3) := by decide +kernel
theorem dL_law_777 : decode cL_law 777 = .ok (.iconst 0, 1) := by decide +kernel
theorem dL_law_778 : decode cL_law 778 = .ok (.ireturn, 1) := by decide +kernel
theorem dL_law_779 : decode cL_law 779 = .ok (.iinc 3 5, 3) := by decide +kernel
theorem dL_law_782 : decode cL_law 782 = .ok (.goto (-764), 3) := by decide +kernel
theorem dL_law_785 : decode cL_law 785 = .ok (.iconst 1, 1) := by decide +kernel
theorem dL_law_786 : decode cL_law 786 = .ok (.ireturn, 1) := by decide +kernel
end
section
/-! more of my own rows -/
theorem mx_inc1 (x : Nat) : nI x + Int32.ofInt 1 = nI (x + 1) := nI_1 x
theorem mx_inc5 (x : Nat) : nI x + Int32.ofInt 5 = nI (x + 5) := nI_add x 5
theorem gB_nar (b : Bool) : narrow .boolean (.int (gB b)) = .int (gB b) := by cases b <;> rfl
theorem gB_fits (b : Bool) : fits .boolean (.int (gB b)) = true := by cases b <;> rfl
theorem gB_vnar (b : Bool) : vp_nar .boolean (gB b) = gB b := by cases b <;> rfl
def gLabs (x : Int64) : Int64 := if 0 < x then x else -x
def gLmax (x y : Int64) : Int64 := if y < x then x else y
def gLmin (x y : Int64) : Int64 := if y < x then y else x
theorem mx_sw {x : Int32} {n : Nat} (h : ¬ (x.toInt < 0 ∨ (n : Int) - 1 < x.toInt)) : ∃ j : Nat, j < n ∧ x = nI j := by
  have h0 : ¬ x < 0 := by
    rw [Int32.lt_iff_toInt_lt]
    have : (0 : Int32).toInt = 0 := rfl
    omega
  obtain ⟨j, hj, e⟩ := nI_of h0
  refine ⟨j, ?_, e⟩
  rw [e, nI_toInt hj] at h
  omega
/-- an int as a number below a bound, or not -/
theorem mx_split (x : Int32) (n : Nat) (hn : n < 2 ^ 31) : (x < 0 ∨ nI n ≤ x) ∨ ∃ j : Nat, j < n ∧ x = nI j := by
  rcases pk_ix x hn with h | h | h
  · exact Or.inl (Or.inl h)
  · exact Or.inl (Or.inr h)
  · exact Or.inr h
section MX2
variable {p : Program} {l : Launch} {e : Env} {R : Room} {s : State} {m : MethodId} {args : Array Value} {below : List Frame} {meth : Method} {c : Code} {H : Heap} {locs : List Loc} {cells slots : Nat} {Q : State → Prop}
variable {cc : ByteArray} {pc : Nat} {ls : Array Slot} {rest : List Value} {A : Nat → Prop} {g : Nat → Nat}
theorem mx_ti (hexec : p.tables.exec = Jvm.exec) (hb : c.code = cc) (hZ : gZ A g s s.heap) (hS : va_S A s.heap H locs) (t : Nat) (ht : t < 5) (k : Nat) (hk : k < (gTab t).length) (hdg : decode cc pc = .ok (.iaload, 1))
    (kk : W p l e R s m args below meth c H locs cells slots Q (F0 m (pc + 1) ls (.int ((gTab t).getD k 0) :: rest))) : W p l e R s m args below meth c H locs cells slots Q (F0 m pc ls (.int (nI k) :: .ref (g t) :: rest)) := by
  have hn : (gTab t).length < 2 ^ 31 := by
    rcases (show t = 0 ∨ t = 1 ∨ t = 2 ∨ t = 3 ∨ t = 4 by omega) with rfl | rfl | rfl | rfl | rfl <;> decide
  refine va_ti hexec hb (hZ t ht).2 hS (vp_in_nI hk hn) (v := .int ((gTab t).getD k 0)) ?_ hdg kk
  rw [nI_clamp (Nat.lt_trans hk hn)]
end MX2
/-- within(v, lo, hi) -/
def gWi (v lo hi : Int32) : Bool := decide (lo ≤ v) && decide (v ≤ hi)
theorem gWi_lt {v lo hi : Int32} (h : v < lo) : nI 0 = gB (gWi v lo hi) := by
  have : ¬ lo ≤ v := Int32.not_le.mpr h
  simp [gWi, gB, this]; rfl
theorem gWi_gt {v lo hi : Int32} (h : hi < v) : nI 0 = gB (gWi v lo hi) := by
  have : ¬ v ≤ hi := Int32.not_le.mpr h
  simp [gWi, gB, this]; rfl
theorem gWi_in {v lo hi : Int32} (h1 : ¬ v < lo) (h2 : ¬ hi < v) : nI 1 = gB (gWi v lo hi) := by
  have h1 : lo ≤ v := Int32.not_lt.mp h1
  have h2 : v ≤ hi := Int32.not_lt.mp h2
  simp [gWi, gB, h1, h2]; rfl
/-- has(x): 0 ≤ x < n -/
def gHas (x n : Int32) : Bool := decide (0 ≤ x) && decide (x < n)
theorem gHas_lt {x n : Int32} (h : x < 0) : nI 0 = gB (gHas x n) := by
  have : ¬ 0 ≤ x := Int32.not_le.mpr h
  simp [gHas, gB, this]; rfl
theorem gHas_ge {x n : Int32} (h : n ≤ x) : nI 0 = gB (gHas x n) := by
  have : ¬ x < n := Int32.not_lt.mpr h
  simp [gHas, gB, this]; rfl
theorem gHas_in {x n : Int32} (h1 : ¬ x < 0) (h2 : ¬ n ≤ x) : nI 1 = gB (gHas x n) := by
  have h1 : 0 ≤ x := Int32.not_lt.mp h1
  have h2 : x < n := Int32.not_le.mp h2
  simp [gHas, gB, h1, h2]; rfl
theorem gHas_of {x : Int32} {n : Nat} (hn : n < 2 ^ 31) (h : gHas x (nI n) = true) : ∃ j : Nat, j < n ∧ x = nI j := by
  simp only [gHas, Bool.and_eq_true, decide_eq_true_eq] at h
  rcases mx_split x n hn with (q | q) | q
  · exact absurd h.1 (Int32.not_le.mpr q)
  · exact absurd h.2 (Int32.not_lt.mpr q)
  · exact q
theorem gWi_of {x : Int32} {a b : Nat} (ha : a < 2 ^ 31) (hb : b < 2 ^ 30) (h : gWi x (nI a) (nI b) = true) : ∃ j : Nat, a ≤ j ∧ j ≤ b ∧ x = nI j := by
  simp only [gWi, Bool.and_eq_true, decide_eq_true_eq] at h
  have h0 : ¬ x < 0 := fun q => by
    have h1 := h.1
    rw [Int32.le_iff_toInt_le, nI_toInt ha] at h1
    rw [Int32.lt_iff_toInt_lt] at q
    have : (0 : Int32).toInt = 0 := rfl
    omega
  obtain ⟨j, hj, e⟩ := nI_of h0
  rw [e] at h
  exact ⟨j, (nI_leI ha hj).mp h.1, (nI_leI hj (by omega)).mp h.2, e⟩
end
section
/-! leaves: small methods of the class -/
def gHeld (v : Int64) (lo hi : Int32) : Int32 := (gLmax lo.toInt64 (gLmin hi.toInt64 v)).toInt32
def gShare (x q n : Int32) : Int32 := (x.toInt64 * q.toInt64 / n.toInt64).toInt32
theorem gL_ne {n : Int32} (h : 0 < n) : ¬ n.toInt64 = 0 := by
  intro q
  have h1 : n.toInt64.toInt = (0 : Int64).toInt := by rw [q]
  rw [Int32.toInt_toInt64] at h1
  rw [Int32.lt_iff_toInt_lt] at h
  have : (0 : Int32).toInt = 0 := rfl
  have : (0 : Int64).toInt = 0 := rfl
  omega
def gHolds (d j : Int32) : Bool := decide ((d >>> (j &&& 31)) &&& 1 = 1)
theorem gHolds_f {d j : Int32} (h : ¬ (d >>> (j &&& 31)) &&& nI 1 = nI 1) : nI 0 = gB (gHolds d j) := by
  have h : ¬ (d >>> (j &&& 31)) &&& 1 = 1 := h
  simp [gHolds, gB, h]; rfl
theorem gHolds_t {d j : Int32} (h : (d >>> (j &&& 31)) &&& nI 1 = nI 1) : nI 1 = gB (gHolds d j) := by
  have h : (d >>> (j &&& 31)) &&& 1 = 1 := h
  simp [gHolds, gB, h]; rfl
/-- the zones' values laid anew, from place i on, k of them -/
def gZr : Nat → Nat → (Nat → Int32) → Nat → Int32
  | 0, _, f => f
  | k + 1, i, f => gZr k (i + 1) (upd f i ((gTab 4).getD (i / 8) 0))
set_option maxHeartbeats 4000000 in
set_option maxRecDepth 100000 in
theorem k_X7_within {l : Launch} {D : va_G} {cI cZ : ClassId} {A : Nat → Prop} {g a : Nat → Nat} {G0 : va_W} {v : Int32} {lo : Int32} {hi : Int32} (hD : va_D A G0) : gMi l D cI cZ A g yX7_within wsX7_within ({ frames := 0, cells := 0, slots := 0, locals := 0 }) [.int (v), .int (lo), .int (hi)] G0 (gB (gWi v lo hi)) (fun G1 => G1 = G0) := by
  refine gof_z (cc := cX7_within) (maxL := 3) (by decide) rfl (Nat.le_of_ble_eq_true rfl) hD ?_
  intro p e s m args below meth c Q hx hb hml hts hown hK hN hZ hP hS hret ls hl
  have hown : s.vm.findClass RX7 = some m.cls := hown
  have hl : lv_has ls 3 [(0, .int (v)), (1, .int (lo)), (2, .int (hi))] := hl
  obtain ⟨locs, elocs⟩ : ∃ q : List Loc, q = [] := ⟨_, rfl⟩
  rw [← elocs] at hS ⊢
  obtain ⟨H, eH⟩ : ∃ q : Heap, q = s.heap := ⟨_, rfl⟩
  have hP : va_P D vwCl G0 H := eH ▸ hP
  have hS : va_S A s.heap H locs := by rw [eH]; exact hS
  rw [← eH]
  clear elocs eH
  have hk : ∀ k, k ∉ ([] : List Nat) → G0[k]? = G0[k]? := fun _ _ => rfl
  refine lv_iload_n (pc := 0) hx hb dX7_within_0 rfl (lv_at hl 0 rfl) ?_
  refine lv_iload_n (pc := 1) hx hb dX7_within_1 rfl (lv_at hl 1 rfl) ?_
  refine lv_icmp_lt (tgt := 14) (pc := 2) hx hb dX7_within_2 (by decide) (fun c2 => ?_) (fun c2 => ?_)
  · skip
    refine lv_iconst (v := nI (0)) (pc := 14) hx hb dX7_within_14 (by decide) ?_
    exact hret _ _ _ _ _ _ hP hD hS rfl (by first | exact gWi_lt c2 | exact gWi_gt c7 | exact gWi_in c2 c7) rfl dX7_within_15
  · skip
    refine lv_iload_n (pc := 5) hx hb dX7_within_5 rfl (lv_at hl 0 rfl) ?_
    refine lv_iload_n (pc := 6) hx hb dX7_within_6 rfl (lv_at hl 2 rfl) ?_
    refine lv_icmp_gt (tgt := 14) (pc := 7) hx hb dX7_within_7 (by decide) (fun c7 => ?_) (fun c7 => ?_)
    · skip
      refine lv_iconst (v := nI (0)) (pc := 14) hx hb dX7_within_14 (by decide) ?_
      exact hret _ _ _ _ _ _ hP hD hS rfl (by first | exact gWi_lt c2 | exact gWi_gt c7 | exact gWi_in c2 c7) rfl dX7_within_15
    · skip
      refine lv_iconst (v := nI (1)) (pc := 10) hx hb dX7_within_10 (by decide) ?_
      refine lv_goto (tgt := 15) (pc := 11) hx hb dX7_within_11 (by decide) ?_
      exact hret _ _ _ _ _ _ hP hD hS rfl (by first | exact gWi_lt c2 | exact gWi_gt c7 | exact gWi_in c2 c7) rfl dX7_within_15
set_option maxHeartbeats 4000000 in
set_option maxRecDepth 100000 in
theorem k_X7_held {l : Launch} {D : va_G} {cI cZ : ClassId} {A : Nat → Prop} {g a : Nat → Nat} {G0 : va_W} {v : Int64} {lo : Int32} {hi : Int32} (hD : va_D A G0) : gMi l D cI cZ A g yX7_held wsX7_held ({ frames := 1, cells := 0, slots := 0, locals := 17 }) [.long (v), .int (lo), .int (hi)] G0 (gHeld v lo hi) (fun G1 => G1 = G0) := by
  refine gof_i (cc := cX7_held) (maxL := 4) (by decide) rfl (Nat.le_of_ble_eq_true rfl) hD ?_
  intro p e s m args below meth c Q hx hb hml hts hown hK hN hZ hP hS hret ls hl
  have hown : s.vm.findClass RX7 = some m.cls := hown
  have hl : lv_has ls 4 [(0, .long (v)), (2, .int (lo)), (3, .int (hi))] := hl
  obtain ⟨locs, elocs⟩ : ∃ q : List Loc, q = [] := ⟨_, rfl⟩
  rw [← elocs] at hS ⊢
  obtain ⟨H, eH⟩ : ∃ q : Heap, q = s.heap := ⟨_, rfl⟩
  have hP : va_P D vwCl G0 H := eH ▸ hP
  have hS : va_S A s.heap H locs := by rw [eH]; exact hS
  rw [← eH]
  clear elocs eH
  have hmemM5_1 : Cond.methodLink RX7 253 Lib.MathLoose.min_long.x ∈ wsX7_held := by decide +kernel
  have hmemM5_2 : Cond.static Lib.MathLoose.min_long.x ∈ wsX7_held := by decide +kernel
  have hmemM5_3 : Cond.code Lib.MathLoose.min_long.x Lib.MathLoose.min_long.code 4 (some .long) ∈ wsX7_held := by decide +kernel
  have hmemM8_1 : Cond.methodLink RX7 256 Lib.MathLoose.max_long.x ∈ wsX7_held := by decide +kernel
  have hmemM8_2 : Cond.static Lib.MathLoose.max_long.x ∈ wsX7_held := by decide +kernel
  have hmemM8_3 : Cond.code Lib.MathLoose.max_long.x Lib.MathLoose.max_long.code 4 (some .long) ∈ wsX7_held := by decide +kernel
  have hk : ∀ k, k ∉ ([] : List Nat) → G0[k]? = G0[k]? := fun _ _ => rfl
  refine lv_iload_n (pc := 0) hx hb dX7_held_0 rfl (lv_at hl 1 rfl) ?_
  refine lv_i2l (v := (lo).toInt64) (pc := 1) hx hb dX7_held_1 rfl ?_
  refine lv_iload_n (pc := 2) hx hb dX7_held_2 rfl (lv_at hl 2 rfl) ?_
  refine lv_i2l (v := (hi).toInt64) (pc := 3) hx hb dX7_held_3 rfl ?_
  refine lv_lload_n (pc := 4) hx hb dX7_held_4 rfl (lv_at hl 0 rfl) ?_
  refine va_mmin_long (own := RX7) (index := 253) (pc := 5) hx hb (hml.trans hl.1.symm) hown (hts (.methodLink RX7 253 Lib.MathLoose.min_long.x) (hmemM5_1)) (hts (.static Lib.MathLoose.min_long.x) (hmemM5_2)) (hts (.initialized "java/lang/Math") (by decide +kernel)) (hts (.code Lib.MathLoose.min_long.x Lib.MathLoose.min_long.code 4 (some .long)) (hmemM5_3)) (Nat.le_of_ble_eq_true rfl) (Nat.le_of_ble_eq_true rfl) (Nat.zero_le _) (Nat.zero_le _) dX7_held_5 ?_
  show W _ _ _ _ _ _ _ _ _ _ _ _ _ _ _ (F0 _ _ _ (.long (gLmin ((hi).toInt64) (v)) :: _))
  refine va_mmax_long (own := RX7) (index := 256) (pc := 8) hx hb (hml.trans hl.1.symm) hown (hts (.methodLink RX7 256 Lib.MathLoose.max_long.x) (hmemM8_1)) (hts (.static Lib.MathLoose.max_long.x) (hmemM8_2)) (hts (.initialized "java/lang/Math") (by decide +kernel)) (hts (.code Lib.MathLoose.max_long.x Lib.MathLoose.max_long.code 4 (some .long)) (hmemM8_3)) (Nat.le_of_ble_eq_true rfl) (Nat.le_of_ble_eq_true rfl) (Nat.zero_le _) (Nat.zero_le _) dX7_held_8 ?_
  show W _ _ _ _ _ _ _ _ _ _ _ _ _ _ _ (F0 _ _ _ (.long (gLmax ((lo).toInt64) (gLmin ((hi).toInt64) (v))) :: _))
  refine lv_l2i (v := (gLmax ((lo).toInt64) (gLmin ((hi).toInt64) (v))).toInt32) (pc := 11) hx hb dX7_held_11 rfl ?_
  exact hret _ _ _ _ _ _ hP hD hS rfl rfl dX7_held_12
set_option maxHeartbeats 4000000 in
set_option maxRecDepth 100000 in
theorem k_X5_share {l : Launch} {D : va_G} {cI cZ : ClassId} {A : Nat → Prop} {g a : Nat → Nat} {G0 : va_W} {x : Int32} {q : Int32} {n : Int32} (hD : va_D A G0) (hn : 0 < n) : gMi l D cI cZ A g yX5_share wsX5_share ({ frames := 0, cells := 0, slots := 0, locals := 0 }) [.int (x), .int (q), .int (n)] G0 (gShare x q n) (fun G1 => G1 = G0) := by
  refine gof_i (cc := cX5_share) (maxL := 3) (by decide) rfl (Nat.le_of_ble_eq_true rfl) hD ?_
  intro p e s m args below meth c Q hx hb hml hts hown hK hN hZ hP hS hret ls hl
  have hown : s.vm.findClass RX5 = some m.cls := hown
  have hl : lv_has ls 3 [(0, .int (x)), (1, .int (q)), (2, .int (n))] := hl
  obtain ⟨locs, elocs⟩ : ∃ q : List Loc, q = [] := ⟨_, rfl⟩
  rw [← elocs] at hS ⊢
  obtain ⟨H, eH⟩ : ∃ q : Heap, q = s.heap := ⟨_, rfl⟩
  have hP : va_P D vwCl G0 H := eH ▸ hP
  have hS : va_S A s.heap H locs := by rw [eH]; exact hS
  rw [← eH]
  clear elocs eH
  have hk : ∀ k, k ∉ ([] : List Nat) → G0[k]? = G0[k]? := fun _ _ => rfl
  refine lv_iload_n (pc := 0) hx hb dX5_share_0 rfl (lv_at hl 2 rfl) ?_
  refine lv_if_le (tgt := 16) (pc := 1) hx hb dX5_share_1 (by decide) (fun c1 => absurd c1 (Int32.not_le.mpr hn)) (fun c1 => ?_)
  refine lv_iload_n (pc := 4) hx hb dX5_share_4 rfl (lv_at hl 0 rfl) ?_
  refine lv_i2l (v := (x).toInt64) (pc := 5) hx hb dX5_share_5 rfl ?_
  refine lv_iload_n (pc := 6) hx hb dX5_share_6 rfl (lv_at hl 1 rfl) ?_
  refine lv_i2l (v := (q).toInt64) (pc := 7) hx hb dX5_share_7 rfl ?_
  refine lv_lmul (pc := 8) hx hb dX5_share_8 ?_
  refine lv_iload_n (pc := 9) hx hb dX5_share_9 rfl (lv_at hl 2 rfl) ?_
  refine lv_i2l (v := (n).toInt64) (pc := 10) hx hb dX5_share_10 rfl ?_
  refine lv_ldiv (pc := 11) hx hb dX5_share_11 (gL_ne hn) ?_
  refine lv_l2i (v := ((((x).toInt64 * (q).toInt64) / (n).toInt64)).toInt32) (pc := 12) hx hb dX5_share_12 rfl ?_
  refine lv_goto (tgt := 17) (pc := 13) hx hb dX5_share_13 (by decide) ?_
  exact hret _ _ _ _ _ _ hP hD hS rfl rfl dX5_share_17
set_option maxHeartbeats 4000000 in
set_option maxRecDepth 100000 in
theorem k_X0_holds {l : Launch} {D : va_G} {cI cZ : ClassId} {A : Nat → Prop} {g a : Nat → Nat} {G0 : va_W} {d : Int32} {j : Int32} (hD : va_D A G0) : gMi l D cI cZ A g yX0_holds wsX0_holds ({ frames := 0, cells := 0, slots := 0, locals := 0 }) [.int (d), .int (j)] G0 (gB (gHolds d j)) (fun G1 => G1 = G0) := by
  refine gof_z (cc := cX0_holds) (maxL := 2) (by decide) rfl (Nat.le_of_ble_eq_true rfl) hD ?_
  intro p e s m args below meth c Q hx hb hml hts hown hK hN hZ hP hS hret ls hl
  have hown : s.vm.findClass RX0 = some m.cls := hown
  have hl : lv_has ls 2 [(0, .int (d)), (1, .int (j))] := hl
  obtain ⟨locs, elocs⟩ : ∃ q : List Loc, q = [] := ⟨_, rfl⟩
  rw [← elocs] at hS ⊢
  obtain ⟨H, eH⟩ : ∃ q : Heap, q = s.heap := ⟨_, rfl⟩
  have hP : va_P D vwCl G0 H := eH ▸ hP
  have hS : va_S A s.heap H locs := by rw [eH]; exact hS
  rw [← eH]
  clear elocs eH
  have hk : ∀ k, k ∉ ([] : List Nat) → G0[k]? = G0[k]? := fun _ _ => rfl
  refine lv_iload_n (pc := 0) hx hb dX0_holds_0 rfl (lv_at hl 0 rfl) ?_
  refine lv_iload_n (pc := 1) hx hb dX0_holds_1 rfl (lv_at hl 1 rfl) ?_
  refine lv_ishr (pc := 2) hx hb dX0_holds_2 ?_
  refine lv_iconst (v := nI (1)) (pc := 3) hx hb dX0_holds_3 (by decide) ?_
  refine lv_iand (pc := 4) hx hb dX0_holds_4 ?_
  refine lv_iconst (v := nI (1)) (pc := 5) hx hb dX0_holds_5 (by decide) ?_
  refine lv_icmp_ne (tgt := 13) (pc := 6) hx hb dX0_holds_6 (by decide) (fun c6 => ?_) (fun c6 => ?_)
  · skip
    refine lv_iconst (v := nI (0)) (pc := 13) hx hb dX0_holds_13 (by decide) ?_
    exact hret _ _ _ _ _ _ hP hD hS rfl (by first | exact gHolds_f c6 | exact gHolds_t c6) rfl dX0_holds_14
  · skip
    refine lv_iconst (v := nI (1)) (pc := 9) hx hb dX0_holds_9 (by decide) ?_
    refine lv_goto (tgt := 14) (pc := 10) hx hb dX0_holds_10 (by decide) ?_
    exact hret _ _ _ _ _ _ hP hD hS rfl (by first | exact gHolds_f c6 | exact gHolds_t c6) rfl dX0_holds_14
set_option maxHeartbeats 4000000 in
set_option maxRecDepth 100000 in
theorem k_X0_isColour {l : Launch} {D : va_G} {cI cZ : ClassId} {A : Nat → Prop} {g a : Nat → Nat} {G0 : va_W} {v : Int32} (hD : va_D A G0) : gMi l D cI cZ A g yX0_isColour wsX0_isColour ({ frames := 0, cells := 0, slots := 0, locals := 0 }) [.int (v)] G0 (gB (gHas v (nI 4))) (fun G1 => G1 = G0) := by
  refine gof_z (cc := cX0_isColour) (maxL := 1) (by decide) rfl (Nat.le_of_ble_eq_true rfl) hD ?_
  intro p e s m args below meth c Q hx hb hml hts hown hK hN hZ hP hS hret ls hl
  have hown : s.vm.findClass RX0 = some m.cls := hown
  have hl : lv_has ls 1 [(0, .int (v))] := hl
  obtain ⟨locs, elocs⟩ : ∃ q : List Loc, q = [] := ⟨_, rfl⟩
  rw [← elocs] at hS ⊢
  obtain ⟨H, eH⟩ : ∃ q : Heap, q = s.heap := ⟨_, rfl⟩
  have hP : va_P D vwCl G0 H := eH ▸ hP
  have hS : va_S A s.heap H locs := by rw [eH]; exact hS
  rw [← eH]
  clear elocs eH
  have hk : ∀ k, k ∉ ([] : List Nat) → G0[k]? = G0[k]? := fun _ _ => rfl
  refine lv_iload_n (pc := 0) hx hb dX0_isColour_0 rfl (lv_at hl 0 rfl) ?_
  refine lv_if_lt (tgt := 13) (pc := 1) hx hb dX0_isColour_1 (by decide) (fun c1 => ?_) (fun c1 => ?_)
  · skip
    refine lv_iconst (v := nI (0)) (pc := 13) hx hb dX0_isColour_13 (by decide) ?_
    exact hret _ _ _ _ _ _ hP hD hS rfl (by first | exact gHas_lt c1 | exact gHas_ge c6 | exact gHas_in c1 c6) rfl dX0_isColour_14
  · skip
    refine lv_iload_n (pc := 4) hx hb dX0_isColour_4 rfl (lv_at hl 0 rfl) ?_
    refine lv_iconst (v := nI (4)) (pc := 5) hx hb dX0_isColour_5 (by decide) ?_
    refine lv_icmp_ge (tgt := 13) (pc := 6) hx hb dX0_isColour_6 (by decide) (fun c6 => ?_) (fun c6 => ?_)
    · skip
      refine lv_iconst (v := nI (0)) (pc := 13) hx hb dX0_isColour_13 (by decide) ?_
      exact hret _ _ _ _ _ _ hP hD hS rfl (by first | exact gHas_lt c1 | exact gHas_ge c6 | exact gHas_in c1 c6) rfl dX0_isColour_14
    · skip
      refine lv_iconst (v := nI (1)) (pc := 9) hx hb dX0_isColour_9 (by decide) ?_
      refine lv_goto (tgt := 14) (pc := 10) hx hb dX0_isColour_10 (by decide) ?_
      exact hret _ _ _ _ _ _ hP hD hS rfl (by first | exact gHas_lt c1 | exact gHas_ge c6 | exact gHas_in c1 c6) rfl dX0_isColour_14
set_option maxHeartbeats 4000000 in
set_option maxRecDepth 100000 in
theorem k_X0_isPaper {l : Launch} {D : va_G} {cI cZ : ClassId} {A : Nat → Prop} {g a : Nat → Nat} {G0 : va_W} {v : Int32} (hD : va_D A G0) : gMi l D cI cZ A g yX0_isPaper wsX0_isPaper ({ frames := 0, cells := 0, slots := 0, locals := 0 }) [.int (v)] G0 (gB (gHas v (nI 6))) (fun G1 => G1 = G0) := by
  refine gof_z (cc := cX0_isPaper) (maxL := 1) (by decide) rfl (Nat.le_of_ble_eq_true rfl) hD ?_
  intro p e s m args below meth c Q hx hb hml hts hown hK hN hZ hP hS hret ls hl
  have hown : s.vm.findClass RX0 = some m.cls := hown
  have hl : lv_has ls 1 [(0, .int (v))] := hl
  obtain ⟨locs, elocs⟩ : ∃ q : List Loc, q = [] := ⟨_, rfl⟩
  rw [← elocs] at hS ⊢
  obtain ⟨H, eH⟩ : ∃ q : Heap, q = s.heap := ⟨_, rfl⟩
  have hP : va_P D vwCl G0 H := eH ▸ hP
  have hS : va_S A s.heap H locs := by rw [eH]; exact hS
  rw [← eH]
  clear elocs eH
  have hk : ∀ k, k ∉ ([] : List Nat) → G0[k]? = G0[k]? := fun _ _ => rfl
  refine lv_iload_n (pc := 0) hx hb dX0_isPaper_0 rfl (lv_at hl 0 rfl) ?_
  refine lv_if_lt (tgt := 14) (pc := 1) hx hb dX0_isPaper_1 (by decide) (fun c1 => ?_) (fun c1 => ?_)
  · skip
    refine lv_iconst (v := nI (0)) (pc := 14) hx hb dX0_isPaper_14 (by decide) ?_
    exact hret _ _ _ _ _ _ hP hD hS rfl (by first | exact gHas_lt c1 | exact gHas_ge c7 | exact gHas_in c1 c7) rfl dX0_isPaper_15
  · skip
    refine lv_iload_n (pc := 4) hx hb dX0_isPaper_4 rfl (lv_at hl 0 rfl) ?_
    refine lv_bipush (v := nI (6)) (pc := 5) hx hb dX0_isPaper_5 (by decide) ?_
    refine lv_icmp_ge (tgt := 14) (pc := 7) hx hb dX0_isPaper_7 (by decide) (fun c7 => ?_) (fun c7 => ?_)
    · skip
      refine lv_iconst (v := nI (0)) (pc := 14) hx hb dX0_isPaper_14 (by decide) ?_
      exact hret _ _ _ _ _ _ hP hD hS rfl (by first | exact gHas_lt c1 | exact gHas_ge c7 | exact gHas_in c1 c7) rfl dX0_isPaper_15
    · skip
      refine lv_iconst (v := nI (1)) (pc := 10) hx hb dX0_isPaper_10 (by decide) ?_
      refine lv_goto (tgt := 15) (pc := 11) hx hb dX0_isPaper_11 (by decide) ?_
      exact hret _ _ _ _ _ _ hP hD hS rfl (by first | exact gHas_lt c1 | exact gHas_ge c7 | exact gHas_in c1 c7) rfl dX0_isPaper_15
set_option maxHeartbeats 4000000 in
set_option maxRecDepth 100000 in
theorem k_X0_isWashCost {l : Launch} {D : va_G} {cI cZ : ClassId} {A : Nat → Prop} {g a : Nat → Nat} {G0 : va_W} {v : Int32} (hD : va_D A G0) : gMi l D cI cZ A g yX0_isWashCost wsX0_isWashCost ({ frames := 1, cells := 0, slots := 0, locals := 22 }) [.int (v)] G0 (gB (gWi v (nI 0) (nI 100))) (fun G1 => G1 = G0) := by
  refine gof_z (cc := cX0_isWashCost) (maxL := 1) (by decide) rfl (Nat.le_of_ble_eq_true rfl) hD ?_
  intro p e s m args below meth c Q hx hb hml hts hown hK hN hZ hP hS hret ls hl
  have hown : s.vm.findClass RX0 = some m.cls := hown
  have hl : lv_has ls 1 [(0, .int (v))] := hl
  obtain ⟨locs, elocs⟩ : ∃ q : List Loc, q = [] := ⟨_, rfl⟩
  rw [← elocs] at hS ⊢
  obtain ⟨H, eH⟩ : ∃ q : Heap, q = s.heap := ⟨_, rfl⟩
  have hP : va_P D vwCl G0 H := eH ▸ hP
  have hS : va_S A s.heap H locs := by rw [eH]; exact hS
  rw [← eH]
  clear elocs eH
  have hk : ∀ k, k ∉ ([] : List Nat) → G0[k]? = G0[k]? := fun _ _ => rfl
  refine lv_iload_n (pc := 0) hx hb dX0_isWashCost_0 rfl (lv_at hl 0 rfl) ?_
  refine lv_iconst (v := nI (0)) (pc := 1) hx hb dX0_isWashCost_1 (by decide) ?_
  refine lv_bipush (v := nI (100)) (pc := 2) hx hb dX0_isWashCost_2 (by decide) ?_
  refine mx_cNi (As := [.int (v), .int (nI (0)), .int (nI (100))]) (rest := []) (pc := 4) ⟨hx, hb, hml, hown, hts⟩ (k_X7_within (a := a) (v := v) (lo := nI (0)) (hi := nI (100)) hD  ) ⟨va_cnB (host := "InkPress") 3 hts gX0_isWashCost_X7_within_n27 rfl rfl rfl (hN (.methodLinkNest "InkPress$Jobs" 27 ⟨"InkPress", "within", "(III)Z"⟩ "InkPress") (by decide +kernel)) (hts (.initialized RX7) (by decide +kernel)) (by decide +kernel) ⟨Nat.le_of_ble_eq_true rfl, Nat.le_of_ble_eq_true rfl⟩, hts (.static yX7_within) (by decide +kernel), trivial⟩ hK hN hZ hP hS rfl hl.1 rfl (Nat.le_of_ble_eq_true rfl) dX0_isWashCost_4 ⟨Nat.zero_le _, Nat.zero_le _⟩ (fun G' H locs hP hD hS hB => ?_)
  rw [hB] at hP hD
  clear hB G'
  exact hret _ _ _ _ _ _ hP hD hS (gB_nar _) rfl rfl dX0_isWashCost_7
set_option maxHeartbeats 4000000 in
set_option maxRecDepth 100000 in
theorem k_X1_isPlace {l : Launch} {D : va_G} {cI cZ : ClassId} {A : Nat → Prop} {g a : Nat → Nat} {G0 : va_W} {v : Int32} (hD : va_D A G0) : gMi l D cI cZ A g yX1_isPlace wsX1_isPlace ({ frames := 1, cells := 0, slots := 0, locals := 22 }) [.int (v)] G0 (gB (gWi v (-1000) (nI 1000))) (fun G1 => G1 = G0) := by
  refine gof_z (cc := cX1_isPlace) (maxL := 1) (by decide) rfl (Nat.le_of_ble_eq_true rfl) hD ?_
  intro p e s m args below meth c Q hx hb hml hts hown hK hN hZ hP hS hret ls hl
  have hown : s.vm.findClass RX1 = some m.cls := hown
  have hl : lv_has ls 1 [(0, .int (v))] := hl
  obtain ⟨locs, elocs⟩ : ∃ q : List Loc, q = [] := ⟨_, rfl⟩
  rw [← elocs] at hS ⊢
  obtain ⟨H, eH⟩ : ∃ q : Heap, q = s.heap := ⟨_, rfl⟩
  have hP : va_P D vwCl G0 H := eH ▸ hP
  have hS : va_S A s.heap H locs := by rw [eH]; exact hS
  rw [← eH]
  clear elocs eH
  have hk : ∀ k, k ∉ ([] : List Nat) → G0[k]? = G0[k]? := fun _ _ => rfl
  refine lv_iload_n (pc := 0) hx hb dX1_isPlace_0 rfl (lv_at hl 0 rfl) ?_
  refine lv_sipush (v := (-1000)) (pc := 1) hx hb dX1_isPlace_1 (by decide) ?_
  refine lv_sipush (v := nI (1000)) (pc := 4) hx hb dX1_isPlace_4 (by decide) ?_
  refine mx_cNi (As := [.int (v), .int ((-1000)), .int (nI (1000))]) (rest := []) (pc := 7) ⟨hx, hb, hml, hown, hts⟩ (k_X7_within (a := a) (v := v) (lo := (-1000)) (hi := nI (1000)) hD  ) ⟨va_cnB (host := "InkPress") 3 hts gX1_isPlace_X7_within_n24 rfl rfl rfl (hN (.methodLinkNest "InkPress$Marks" 24 ⟨"InkPress", "within", "(III)Z"⟩ "InkPress") (by decide +kernel)) (hts (.initialized RX7) (by decide +kernel)) (by decide +kernel) ⟨Nat.le_of_ble_eq_true rfl, Nat.le_of_ble_eq_true rfl⟩, hts (.static yX7_within) (by decide +kernel), trivial⟩ hK hN hZ hP hS rfl hl.1 rfl (Nat.le_of_ble_eq_true rfl) dX1_isPlace_7 ⟨Nat.zero_le _, Nat.zero_le _⟩ (fun G' H locs hP hD hS hB => ?_)
  rw [hB] at hP hD
  clear hB G'
  exact hret _ _ _ _ _ _ hP hD hS (gB_nar _) rfl rfl dX1_isPlace_10
set_option maxHeartbeats 4000000 in
set_option maxRecDepth 100000 in
theorem k_X1_isOffset {l : Launch} {D : va_G} {cI cZ : ClassId} {A : Nat → Prop} {g a : Nat → Nat} {G0 : va_W} {v : Int32} (hD : va_D A G0) : gMi l D cI cZ A g yX1_isOffset wsX1_isOffset ({ frames := 1, cells := 0, slots := 0, locals := 22 }) [.int (v)] G0 (gB (gWi v (-100) (nI 100))) (fun G1 => G1 = G0) := by
  refine gof_z (cc := cX1_isOffset) (maxL := 1) (by decide) rfl (Nat.le_of_ble_eq_true rfl) hD ?_
  intro p e s m args below meth c Q hx hb hml hts hown hK hN hZ hP hS hret ls hl
  have hown : s.vm.findClass RX1 = some m.cls := hown
  have hl : lv_has ls 1 [(0, .int (v))] := hl
  obtain ⟨locs, elocs⟩ : ∃ q : List Loc, q = [] := ⟨_, rfl⟩
  rw [← elocs] at hS ⊢
  obtain ⟨H, eH⟩ : ∃ q : Heap, q = s.heap := ⟨_, rfl⟩
  have hP : va_P D vwCl G0 H := eH ▸ hP
  have hS : va_S A s.heap H locs := by rw [eH]; exact hS
  rw [← eH]
  clear elocs eH
  have hk : ∀ k, k ∉ ([] : List Nat) → G0[k]? = G0[k]? := fun _ _ => rfl
  refine lv_iload_n (pc := 0) hx hb dX1_isOffset_0 rfl (lv_at hl 0 rfl) ?_
  refine lv_bipush (v := (-100)) (pc := 1) hx hb dX1_isOffset_1 (by decide) ?_
  refine lv_bipush (v := nI (100)) (pc := 3) hx hb dX1_isOffset_3 (by decide) ?_
  refine mx_cNi (As := [.int (v), .int ((-100)), .int (nI (100))]) (rest := []) (pc := 5) ⟨hx, hb, hml, hown, hts⟩ (k_X7_within (a := a) (v := v) (lo := (-100)) (hi := nI (100)) hD  ) ⟨va_cnB (host := "InkPress") 3 hts gX1_isOffset_X7_within_n24 rfl rfl rfl (hN (.methodLinkNest "InkPress$Marks" 24 ⟨"InkPress", "within", "(III)Z"⟩ "InkPress") (by decide +kernel)) (hts (.initialized RX7) (by decide +kernel)) (by decide +kernel) ⟨Nat.le_of_ble_eq_true rfl, Nat.le_of_ble_eq_true rfl⟩, hts (.static yX7_within) (by decide +kernel), trivial⟩ hK hN hZ hP hS rfl hl.1 rfl (Nat.le_of_ble_eq_true rfl) dX1_isOffset_5 ⟨Nat.zero_le _, Nat.zero_le _⟩ (fun G' H locs hP hD hS hB => ?_)
  rw [hB] at hP hD
  clear hB G'
  exact hret _ _ _ _ _ _ hP hD hS (gB_nar _) rfl rfl dX1_isOffset_8
set_option maxHeartbeats 4000000 in
set_option maxRecDepth 100000 in
theorem k_X3_has {l : Launch} {D : va_G} {cI cZ : ClassId} {A : Nat → Prop} {g a : Nat → Nat} {G0 : va_W} {ru : Nat → Int32} {x : Int32} (hD : va_D A G0) (w1 : G0[1]? = some (a 1, .inr (3, [.ref (a 2)]))) (w2 : G0[2]? = some (a 2, .inl (cI, 9, .inl (ru)))) : gMi l D cI cZ A g yX3_has wsX3_has ({ frames := 0, cells := 0, slots := 0, locals := 0 }) [.ref (a 1), .int (x)] G0 (gB (gHas x (nI 9))) (fun G1 => G1 = G0) := by
  refine gof_z (cc := cX3_has) (maxL := 2) (by decide) rfl (Nat.le_of_ble_eq_true rfl) hD ?_
  intro p e s m args below meth c Q hx hb hml hts hown hK hN hZ hP hS hret ls hl
  have hown : s.vm.findClass RX3 = some m.cls := hown
  have hl : lv_has ls 2 [(0, .ref (a 1)), (1, .int (x))] := hl
  obtain ⟨locs, elocs⟩ : ∃ q : List Loc, q = [] := ⟨_, rfl⟩
  rw [← elocs] at hS ⊢
  obtain ⟨H, eH⟩ : ∃ q : Heap, q = s.heap := ⟨_, rfl⟩
  have hP : va_P D vwCl G0 H := eH ▸ hP
  have hS : va_S A s.heap H locs := by rw [eH]; exact hS
  rw [← eH]
  clear elocs eH
  have hiX3 : ∀ w ∈ u_ws RX3 TX3 1, w ∈ wsX3_has := by decide +kernel
  have hk : ∀ k, k ∉ ([] : List Nat) → G0[k]? = G0[k]? := fun _ _ => rfl
  refine lv_iload_n (pc := 0) hx hb dX3_has_0 rfl (lv_at hl 1 rfl) ?_
  refine lv_if_lt (tgt := 17) (pc := 1) hx hb dX3_has_1 (by decide) (fun c1 => ?_) (fun c1 => ?_)
  · skip
    refine lv_iconst (v := nI (0)) (pc := 17) hx hb dX3_has_17 (by decide) ?_
    exact hret _ _ _ _ _ _ hP hD hS rfl (by first | exact gHas_lt c1 | exact gHas_ge c10 | exact gHas_in c1 c10) rfl dX3_has_18
  · skip
    refine lv_iload_n (pc := 4) hx hb dX3_has_4 rfl (lv_at hl 1 rfl) ?_
    refine lv_aload_n (pc := 5) hx hb dX3_has_5 rfl (lv_at hl 0 rfl) ?_
    refine va_get (ci := 3) (C := RX3) (T := TX3) (N := 1) (pc := 6) hx hb hts hiX3 hown hK hP 1 w1 rfl 0 (by decide) (hts (.fieldLink RX3 18 "InkPress$Rules" "values" "[I") (by decide +kernel)) (fun _ h9 => h9) rfl dX3_has_6 ?_
    refine va_alen (v := nI 9) (pc := 9) hx hb hK hP 2 0 w2 rfl rfl dX3_has_9 ?_
    refine lv_icmp_ge (tgt := 17) (pc := 10) hx hb dX3_has_10 (by decide) (fun c10 => ?_) (fun c10 => ?_)
    · skip
      refine lv_iconst (v := nI (0)) (pc := 17) hx hb dX3_has_17 (by decide) ?_
      exact hret _ _ _ _ _ _ hP hD hS rfl (by first | exact gHas_lt c1 | exact gHas_ge c10 | exact gHas_in c1 c10) rfl dX3_has_18
    · skip
      refine lv_iconst (v := nI (1)) (pc := 13) hx hb dX3_has_13 (by decide) ?_
      refine lv_goto (tgt := 18) (pc := 14) hx hb dX3_has_14 (by decide) ?_
      exact hret _ _ _ _ _ _ hP hD hS rfl (by first | exact gHas_lt c1 | exact gHas_ge c10 | exact gHas_in c1 c10) rfl dX3_has_18
set_option maxHeartbeats 4000000 in
set_option maxRecDepth 100000 in
theorem k_X3_allows {l : Launch} {D : va_G} {cI cZ : ClassId} {A : Nat → Prop} {g a : Nat → Nat} {G0 : va_W} {ru : Nat → Int32} {k : Nat} {v : Int32} (hD : va_D A G0) (w1 : G0[1]? = some (a 1, .inr (3, [.ref (a 2)]))) (w2 : G0[2]? = some (a 2, .inl (cI, 9, .inl (ru)))) (hk9 : k < 9) : gMi l D cI cZ A g yX3_allows wsX3_allows ({ frames := 1, cells := 0, slots := 0, locals := 22 }) [.ref (a 1), .int (nI (k)), .int (v)] G0 (gB (gWi v ((gTab 0).getD k 0) ((gTab 1).getD k 0))) (fun G1 => G1 = G0) := by
  refine gof_z (cc := cX3_allows) (maxL := 3) (by decide) rfl (Nat.le_of_ble_eq_true rfl) hD ?_
  intro p e s m args below meth c Q hx hb hml hts hown hK hN hZ hP hS hret ls hl
  have hown : s.vm.findClass RX3 = some m.cls := hown
  have hl : lv_has ls 3 [(0, .ref (a 1)), (1, .int (nI (k))), (2, .int (v))] := hl
  obtain ⟨locs, elocs⟩ : ∃ q : List Loc, q = [] := ⟨_, rfl⟩
  rw [← elocs] at hS ⊢
  obtain ⟨H, eH⟩ : ∃ q : Heap, q = s.heap := ⟨_, rfl⟩
  have hP : va_P D vwCl G0 H := eH ▸ hP
  have hS : va_S A s.heap H locs := by rw [eH]; exact hS
  rw [← eH]
  clear elocs eH
  have hk : ∀ k, k ∉ ([] : List Nat) → G0[k]? = G0[k]? := fun _ _ => rfl
  refine lv_iload_n (pc := 0) hx hb dX3_allows_0 rfl (lv_at hl 2 rfl) ?_
  refine va_gets (C := gTabC 0) (n := gTabN 0) (d := "[I") (own := RX3) (ref := "InkPress$Rules") (v := .ref (g 0)) (pc := 1) hx hb (hZ 0 (by decide)).1 hS hown (hts (.fieldLink RX3 21 "InkPress$Rules" "LEAST" "[I") (by decide +kernel)) (fun _ h9 => h9) dX3_allows_1 ?_
  refine lv_iload_n (pc := 4) hx hb dX3_allows_4 rfl (lv_at hl 1 rfl) ?_
  refine mx_ti (pc := 5) hx hb hZ hS 0 (by decide) (k) (show k < 9 from hk9) dX3_allows_5 ?_
  refine va_gets (C := gTabC 1) (n := gTabN 1) (d := "[I") (own := RX3) (ref := "InkPress$Rules") (v := .ref (g 1)) (pc := 6) hx hb (hZ 1 (by decide)).1 hS hown (hts (.fieldLink RX3 24 "InkPress$Rules" "MOST" "[I") (by decide +kernel)) (fun _ h9 => h9) dX3_allows_6 ?_
  refine lv_iload_n (pc := 9) hx hb dX3_allows_9 rfl (lv_at hl 1 rfl) ?_
  refine mx_ti (pc := 10) hx hb hZ hS 1 (by decide) (k) (show k < 9 from hk9) dX3_allows_10 ?_
  refine mx_cNi (As := [.int (v), .int ((gTab 0).getD (k) 0), .int ((gTab 1).getD (k) 0)]) (rest := []) (pc := 11) ⟨hx, hb, hml, hown, hts⟩ (k_X7_within (a := a) (v := v) (lo := (gTab 0).getD (k) 0) (hi := (gTab 1).getD (k) 0) hD  ) ⟨va_cnB (host := "InkPress") 3 hts gX3_allows_X7_within_n27 rfl rfl rfl (hN (.methodLinkNest "InkPress$Rules" 27 ⟨"InkPress", "within", "(III)Z"⟩ "InkPress") (by decide +kernel)) (hts (.initialized RX7) (by decide +kernel)) (by decide +kernel) ⟨Nat.le_of_ble_eq_true rfl, Nat.le_of_ble_eq_true rfl⟩, hts (.static yX7_within) (by decide +kernel), trivial⟩ hK hN hZ hP hS rfl hl.1 rfl (Nat.le_of_ble_eq_true rfl) dX3_allows_11 ⟨Nat.zero_le _, Nat.zero_le _⟩ (fun G' H locs hP hD hS hB => ?_)
  rw [hB] at hP hD
  clear hB G'
  exact hret _ _ _ _ _ _ hP hD hS (gB_nar _) rfl rfl dX3_allows_14
set_option maxHeartbeats 4000000 in
set_option maxRecDepth 100000 in
theorem k_X3_valueOf {l : Launch} {D : va_G} {cI cZ : ClassId} {A : Nat → Prop} {g a : Nat → Nat} {G0 : va_W} {ru : Nat → Int32} {k : Nat} (hD : va_D A G0) (w1 : G0[1]? = some (a 1, .inr (3, [.ref (a 2)]))) (w2 : G0[2]? = some (a 2, .inl (cI, 9, .inl (ru)))) (hk9 : k < 9) : gMi l D cI cZ A g yX3_valueOf wsX3_valueOf ({ frames := 0, cells := 0, slots := 0, locals := 0 }) [.ref (a 1), .int (nI (k))] G0 (ru k) (fun G1 => G1 = G0) := by
  refine gof_i (cc := cX3_valueOf) (maxL := 2) (by decide) rfl (Nat.le_of_ble_eq_true rfl) hD ?_
  intro p e s m args below meth c Q hx hb hml hts hown hK hN hZ hP hS hret ls hl
  have hown : s.vm.findClass RX3 = some m.cls := hown
  have hl : lv_has ls 2 [(0, .ref (a 1)), (1, .int (nI (k)))] := hl
  obtain ⟨locs, elocs⟩ : ∃ q : List Loc, q = [] := ⟨_, rfl⟩
  rw [← elocs] at hS ⊢
  obtain ⟨H, eH⟩ : ∃ q : Heap, q = s.heap := ⟨_, rfl⟩
  have hP : va_P D vwCl G0 H := eH ▸ hP
  have hS : va_S A s.heap H locs := by rw [eH]; exact hS
  rw [← eH]
  clear elocs eH
  have hiX3 : ∀ w ∈ u_ws RX3 TX3 1, w ∈ wsX3_valueOf := by decide +kernel
  have hk : ∀ k, k ∉ ([] : List Nat) → G0[k]? = G0[k]? := fun _ _ => rfl
  refine lv_aload_n (pc := 0) hx hb dX3_valueOf_0 rfl (lv_at hl 0 rfl) ?_
  refine va_get (ci := 3) (C := RX3) (T := TX3) (N := 1) (pc := 1) hx hb hts hiX3 hown hK hP 1 w1 rfl 0 (by decide) (hts (.fieldLink RX3 18 "InkPress$Rules" "values" "[I") (by decide +kernel)) (fun _ h9 => h9) rfl dX3_valueOf_1 ?_
  refine lv_iload_n (pc := 4) hx hb dX3_valueOf_4 rfl (lv_at hl 1 rfl) ?_
  refine mx_iald (pc := 5) hx hb hK hP 2 w2 (k) (by omega) (by decide) dX3_valueOf_5 ?_
  exact hret _ _ _ _ _ _ hP hD hS rfl rfl dX3_valueOf_6
set_option maxHeartbeats 4000000 in
set_option maxRecDepth 100000 in
theorem k_X3_change {l : Launch} {D : va_G} {cI cZ : ClassId} {A : Nat → Prop} {g a : Nat → Nat} {G0 : va_W} {ru : Nat → Int32} {k : Nat} {v : Int32} (hD : va_D A G0) (w1 : G0[1]? = some (a 1, .inr (3, [.ref (a 2)]))) (w2 : G0[2]? = some (a 2, .inl (cI, 9, .inl (ru)))) (hk9 : k < 9) : gMi l D cI cZ A g yX3_change wsX3_change ({ frames := 0, cells := 0, slots := 0, locals := 0 }) [.ref (a 1), .int (nI (k)), .int (v)] G0 (ru k) (fun G1 => G1[2]? = some (a 2, .inl (cI, 9, .inl (upd ru k v))) ∧ ∀ k, k ∉ [2] → G1[k]? = G0[k]?) := by
  refine gof_i (cc := cX3_change) (maxL := 4) (by decide) rfl (Nat.le_of_ble_eq_true rfl) hD ?_
  intro p e s m args below meth c Q hx hb hml hts hown hK hN hZ hP hS hret ls hl
  have hown : s.vm.findClass RX3 = some m.cls := hown
  have hl : lv_has ls 4 [(0, .ref (a 1)), (1, .int (nI (k))), (2, .int (v))] := hl
  obtain ⟨locs, elocs⟩ : ∃ q : List Loc, q = [] := ⟨_, rfl⟩
  rw [← elocs] at hS ⊢
  obtain ⟨H, eH⟩ : ∃ q : Heap, q = s.heap := ⟨_, rfl⟩
  have hP : va_P D vwCl G0 H := eH ▸ hP
  have hS : va_S A s.heap H locs := by rw [eH]; exact hS
  rw [← eH]
  clear elocs eH
  have hiX3 : ∀ w ∈ u_ws RX3 TX3 1, w ∈ wsX3_change := by decide +kernel
  have hk : ∀ k, k ∉ [2] → G0[k]? = G0[k]? := fun _ _ => rfl
  refine lv_aload_n (pc := 0) hx hb dX3_change_0 rfl (lv_at hl 0 rfl) ?_
  refine va_get (ci := 3) (C := RX3) (T := TX3) (N := 1) (pc := 1) hx hb hts hiX3 hown hK hP 1 w1 rfl 0 (by decide) (hts (.fieldLink RX3 18 "InkPress$Rules" "values" "[I") (by decide +kernel)) (fun _ h9 => h9) rfl dX3_change_1 ?_
  refine lv_iload_n (pc := 4) hx hb dX3_change_4 rfl (lv_at hl 1 rfl) ?_
  refine mx_iald (pc := 5) hx hb hK hP 2 w2 (k) (by omega) (by decide) dX3_change_5 ?_
  refine lv_istore_n (lv' := [(3, .int ((ru) (k))), (0, .ref (a 1)), (1, .int (nI (k))), (2, .int (v))]) (pc := 6) hx hb dX3_change_6 rfl hl (by decide) rfl (fun ls hl => ?_)
  refine lv_aload_n (pc := 7) hx hb dX3_change_7 rfl (lv_at hl 1 rfl) ?_
  refine va_get (ci := 3) (C := RX3) (T := TX3) (N := 1) (pc := 8) hx hb hts hiX3 hown hK hP 1 w1 rfl 0 (by decide) (hts (.fieldLink RX3 18 "InkPress$Rules" "values" "[I") (by decide +kernel)) (fun _ h9 => h9) rfl dX3_change_8 ?_
  refine lv_iload_n (pc := 11) hx hb dX3_change_11 rfl (lv_at hl 2 rfl) ?_
  refine lv_iload_n (pc := 12) hx hb dX3_change_12 rfl (lv_at hl 3 rfl) ?_
  refine mx_iast (x := v) (pc := 13) hx hb hK hP hD hS 2 w2 (k) (by omega) (by decide) dX3_change_13 (fun H locs G hP hD hS w2 ho => ?_)
  have w1 := (ho 1 (by decide)).trans w1
  have w2 : G[2]? = some (a 2, .inl (cI, 9, .inl (upd (ru) (k) (v)))) := w2
  have hk := gk_step hk ho (by decide)
  clear ho
  refine lv_iload_n (pc := 14) hx hb dX3_change_14 rfl (lv_at hl 0 rfl) ?_
  exact hret _ _ _ _ _ _ hP hD hS rfl ⟨w2, hk⟩ dX3_change_15
set_option maxHeartbeats 4000000 in
set_option maxRecDepth 100000 in
theorem k_X6_has {l : Launch} {D : va_G} {cI cZ : ClassId} {A : Nat → Prop} {g a : Nat → Nat} {G0 : va_W} {zv : Nat → Int32} {zn : Nat} {x : Int32} (hD : va_D A G0) (w3 : G0[3]? = some (a 3, .inr (6, [.ref (a 4), .int (nI (zn))]))) (w4 : G0[4]? = some (a 4, .inl (cI, 24, .inl (zv)))) : gMi l D cI cZ A g yX6_has wsX6_has ({ frames := 0, cells := 0, slots := 0, locals := 0 }) [.ref (a 3), .int (x)] G0 (gB (gHas x (nI zn))) (fun G1 => G1 = G0) := by
  refine gof_z (cc := cX6_has) (maxL := 2) (by decide) rfl (Nat.le_of_ble_eq_true rfl) hD ?_
  intro p e s m args below meth c Q hx hb hml hts hown hK hN hZ hP hS hret ls hl
  have hown : s.vm.findClass RX6 = some m.cls := hown
  have hl : lv_has ls 2 [(0, .ref (a 3)), (1, .int (x))] := hl
  obtain ⟨locs, elocs⟩ : ∃ q : List Loc, q = [] := ⟨_, rfl⟩
  rw [← elocs] at hS ⊢
  obtain ⟨H, eH⟩ : ∃ q : Heap, q = s.heap := ⟨_, rfl⟩
  have hP : va_P D vwCl G0 H := eH ▸ hP
  have hS : va_S A s.heap H locs := by rw [eH]; exact hS
  rw [← eH]
  clear elocs eH
  have hiX6 : ∀ w ∈ u_ws RX6 TX6 2, w ∈ wsX6_has := by decide +kernel
  have hk : ∀ k, k ∉ ([] : List Nat) → G0[k]? = G0[k]? := fun _ _ => rfl
  refine lv_iload_n (pc := 0) hx hb dX6_has_0 rfl (lv_at hl 1 rfl) ?_
  refine lv_if_lt (tgt := 16) (pc := 1) hx hb dX6_has_1 (by decide) (fun c1 => ?_) (fun c1 => ?_)
  · skip
    refine lv_iconst (v := nI (0)) (pc := 16) hx hb dX6_has_16 (by decide) ?_
    exact hret _ _ _ _ _ _ hP hD hS rfl (by first | exact gHas_lt c1 | exact gHas_ge c9 | exact gHas_in c1 c9) rfl dX6_has_17
  · skip
    refine lv_iload_n (pc := 4) hx hb dX6_has_4 rfl (lv_at hl 1 rfl) ?_
    refine lv_aload_n (pc := 5) hx hb dX6_has_5 rfl (lv_at hl 0 rfl) ?_
    refine va_get (ci := 6) (C := RX6) (T := TX6) (N := 2) (pc := 6) hx hb hts hiX6 hown hK hP 3 w3 rfl 1 (by decide) (hts (.fieldLink RX6 22 "InkPress$Zones" "count" "I") (by decide +kernel)) (fun _ h9 => h9) rfl dX6_has_6 ?_
    refine lv_icmp_ge (tgt := 16) (pc := 9) hx hb dX6_has_9 (by decide) (fun c9 => ?_) (fun c9 => ?_)
    · skip
      refine lv_iconst (v := nI (0)) (pc := 16) hx hb dX6_has_16 (by decide) ?_
      exact hret _ _ _ _ _ _ hP hD hS rfl (by first | exact gHas_lt c1 | exact gHas_ge c9 | exact gHas_in c1 c9) rfl dX6_has_17
    · skip
      refine lv_iconst (v := nI (1)) (pc := 12) hx hb dX6_has_12 (by decide) ?_
      refine lv_goto (tgt := 17) (pc := 13) hx hb dX6_has_13 (by decide) ?_
      exact hret _ _ _ _ _ _ hP hD hS rfl (by first | exact gHas_lt c1 | exact gHas_ge c9 | exact gHas_in c1 c9) rfl dX6_has_17
set_option maxHeartbeats 4000000 in
set_option maxRecDepth 100000 in
theorem k_X6_allows {l : Launch} {D : va_G} {cI cZ : ClassId} {A : Nat → Prop} {g a : Nat → Nat} {G0 : va_W} {zv : Nat → Int32} {zn : Nat} {k : Nat} {v : Int32} (hD : va_D A G0) (w3 : G0[3]? = some (a 3, .inr (6, [.ref (a 4), .int (nI (zn))]))) (w4 : G0[4]? = some (a 4, .inl (cI, 24, .inl (zv)))) (hk3 : k < 3) : gMi l D cI cZ A g yX6_allows wsX6_allows ({ frames := 1, cells := 0, slots := 0, locals := 22 }) [.ref (a 3), .int (nI (k)), .int (v)] G0 (gB (gWi v (nI 0) ((gTab 3).getD k 0))) (fun G1 => G1 = G0) := by
  refine gof_z (cc := cX6_allows) (maxL := 3) (by decide) rfl (Nat.le_of_ble_eq_true rfl) hD ?_
  intro p e s m args below meth c Q hx hb hml hts hown hK hN hZ hP hS hret ls hl
  have hown : s.vm.findClass RX6 = some m.cls := hown
  have hl : lv_has ls 3 [(0, .ref (a 3)), (1, .int (nI (k))), (2, .int (v))] := hl
  obtain ⟨locs, elocs⟩ : ∃ q : List Loc, q = [] := ⟨_, rfl⟩
  rw [← elocs] at hS ⊢
  obtain ⟨H, eH⟩ : ∃ q : Heap, q = s.heap := ⟨_, rfl⟩
  have hP : va_P D vwCl G0 H := eH ▸ hP
  have hS : va_S A s.heap H locs := by rw [eH]; exact hS
  rw [← eH]
  clear elocs eH
  have hk : ∀ k, k ∉ ([] : List Nat) → G0[k]? = G0[k]? := fun _ _ => rfl
  refine lv_iload_n (pc := 0) hx hb dX6_allows_0 rfl (lv_at hl 2 rfl) ?_
  refine lv_iconst (v := nI (0)) (pc := 1) hx hb dX6_allows_1 (by decide) ?_
  refine va_gets (C := gTabC 3) (n := gTabN 3) (d := "[I") (own := RX6) (ref := "InkPress$Zones") (v := .ref (g 3)) (pc := 2) hx hb (hZ 3 (by decide)).1 hS hown (hts (.fieldLink RX6 26 "InkPress$Zones" "MOST" "[I") (by decide +kernel)) (fun _ h9 => h9) dX6_allows_2 ?_
  refine lv_iload_n (pc := 5) hx hb dX6_allows_5 rfl (lv_at hl 1 rfl) ?_
  refine mx_ti (pc := 6) hx hb hZ hS 3 (by decide) (k) (show k < 3 from hk3) dX6_allows_6 ?_
  refine mx_cNi (As := [.int (v), .int (nI (0)), .int ((gTab 3).getD (k) 0)]) (rest := []) (pc := 7) ⟨hx, hb, hml, hown, hts⟩ (k_X7_within (a := a) (v := v) (lo := nI (0)) (hi := (gTab 3).getD (k) 0) hD  ) ⟨va_cnB (host := "InkPress") 3 hts gX6_allows_X7_within_n29 rfl rfl rfl (hN (.methodLinkNest "InkPress$Zones" 29 ⟨"InkPress", "within", "(III)Z"⟩ "InkPress") (by decide +kernel)) (hts (.initialized RX7) (by decide +kernel)) (by decide +kernel) ⟨Nat.le_of_ble_eq_true rfl, Nat.le_of_ble_eq_true rfl⟩, hts (.static yX7_within) (by decide +kernel), trivial⟩ hK hN hZ hP hS rfl hl.1 rfl (Nat.le_of_ble_eq_true rfl) dX6_allows_7 ⟨Nat.zero_le _, Nat.zero_le _⟩ (fun G' H locs hP hD hS hB => ?_)
  rw [hB] at hP hD
  clear hB G'
  exact hret _ _ _ _ _ _ hP hD hS (gB_nar _) rfl rfl dX6_allows_10
set_option maxHeartbeats 4000000 in
set_option maxRecDepth 100000 in
theorem k_X6_valueOf {l : Launch} {D : va_G} {cI cZ : ClassId} {A : Nat → Prop} {g a : Nat → Nat} {G0 : va_W} {zv : Nat → Int32} {zn : Nat} {z : Nat} {k : Nat} (hD : va_D A G0) (w3 : G0[3]? = some (a 3, .inr (6, [.ref (a 4), .int (nI (zn))]))) (w4 : G0[4]? = some (a 4, .inl (cI, 24, .inl (zv)))) (hz : z < 8) (hk3 : k < 3) : gMi l D cI cZ A g yX6_valueOf wsX6_valueOf ({ frames := 0, cells := 0, slots := 0, locals := 0 }) [.ref (a 3), .int (nI (z)), .int (nI (k))] G0 (zv (k * 8 + z)) (fun G1 => G1 = G0) := by
  refine gof_i (cc := cX6_valueOf) (maxL := 3) (by decide) rfl (Nat.le_of_ble_eq_true rfl) hD ?_
  intro p e s m args below meth c Q hx hb hml hts hown hK hN hZ hP hS hret ls hl
  have hown : s.vm.findClass RX6 = some m.cls := hown
  have hl : lv_has ls 3 [(0, .ref (a 3)), (1, .int (nI (z))), (2, .int (nI (k)))] := hl
  obtain ⟨locs, elocs⟩ : ∃ q : List Loc, q = [] := ⟨_, rfl⟩
  rw [← elocs] at hS ⊢
  obtain ⟨H, eH⟩ : ∃ q : Heap, q = s.heap := ⟨_, rfl⟩
  have hP : va_P D vwCl G0 H := eH ▸ hP
  have hS : va_S A s.heap H locs := by rw [eH]; exact hS
  rw [← eH]
  clear elocs eH
  have hiX6 : ∀ w ∈ u_ws RX6 TX6 2, w ∈ wsX6_valueOf := by decide +kernel
  have hk : ∀ k, k ∉ ([] : List Nat) → G0[k]? = G0[k]? := fun _ _ => rfl
  refine lv_aload_n (pc := 0) hx hb dX6_valueOf_0 rfl (lv_at hl 0 rfl) ?_
  refine va_get (ci := 6) (C := RX6) (T := TX6) (N := 2) (pc := 1) hx hb hts hiX6 hown hK hP 3 w3 rfl 0 (by decide) (hts (.fieldLink RX6 15 "InkPress$Zones" "values" "[I") (by decide +kernel)) (fun _ h9 => h9) rfl dX6_valueOf_1 ?_
  refine lv_iload_n (pc := 4) hx hb dX6_valueOf_4 rfl (lv_at hl 2 rfl) ?_
  refine lv_bipush (v := nI (8)) (pc := 5) hx hb dX6_valueOf_5 (by decide) ?_
  refine mx_imul (pc := 7) hx hb dX6_valueOf_7 ?_
  refine lv_iload_n (pc := 8) hx hb dX6_valueOf_8 rfl (lv_at hl 1 rfl) ?_
  refine mx_iadd (pc := 9) hx hb dX6_valueOf_9 ?_
  refine mx_iald (pc := 10) hx hb hK hP 4 w4 ((k) * (8) + z) (by omega) (by decide) dX6_valueOf_10 ?_
  exact hret _ _ _ _ _ _ hP hD hS rfl rfl dX6_valueOf_11
set_option maxHeartbeats 4000000 in
set_option maxRecDepth 100000 in
theorem k_X6_change {l : Launch} {D : va_G} {cI cZ : ClassId} {A : Nat → Prop} {g a : Nat → Nat} {G0 : va_W} {zv : Nat → Int32} {zn : Nat} {z : Nat} {k : Nat} {v : Int32} (hD : va_D A G0) (w3 : G0[3]? = some (a 3, .inr (6, [.ref (a 4), .int (nI (zn))]))) (w4 : G0[4]? = some (a 4, .inl (cI, 24, .inl (zv)))) (hz : z < 8) (hk3 : k < 3) : gMi l D cI cZ A g yX6_change wsX6_change ({ frames := 0, cells := 0, slots := 0, locals := 0 }) [.ref (a 3), .int (nI (z)), .int (nI (k)), .int (v)] G0 (zv (k * 8 + z)) (fun G1 => G1[4]? = some (a 4, .inl (cI, 24, .inl (upd zv (k * 8 + z) v))) ∧ ∀ k, k ∉ [4] → G1[k]? = G0[k]?) := by
  refine gof_i (cc := cX6_change) (maxL := 6) (by decide) rfl (Nat.le_of_ble_eq_true rfl) hD ?_
  intro p e s m args below meth c Q hx hb hml hts hown hK hN hZ hP hS hret ls hl
  have hown : s.vm.findClass RX6 = some m.cls := hown
  have hl : lv_has ls 6 [(0, .ref (a 3)), (1, .int (nI (z))), (2, .int (nI (k))), (3, .int (v))] := hl
  obtain ⟨locs, elocs⟩ : ∃ q : List Loc, q = [] := ⟨_, rfl⟩
  rw [← elocs] at hS ⊢
  obtain ⟨H, eH⟩ : ∃ q : Heap, q = s.heap := ⟨_, rfl⟩
  have hP : va_P D vwCl G0 H := eH ▸ hP
  have hS : va_S A s.heap H locs := by rw [eH]; exact hS
  rw [← eH]
  clear elocs eH
  have hiX6 : ∀ w ∈ u_ws RX6 TX6 2, w ∈ wsX6_change := by decide +kernel
  have hk : ∀ k, k ∉ [4] → G0[k]? = G0[k]? := fun _ _ => rfl
  refine lv_iload_n (pc := 0) hx hb dX6_change_0 rfl (lv_at hl 2 rfl) ?_
  refine lv_bipush (v := nI (8)) (pc := 1) hx hb dX6_change_1 (by decide) ?_
  refine mx_imul (pc := 3) hx hb dX6_change_3 ?_
  refine lv_iload_n (pc := 4) hx hb dX6_change_4 rfl (lv_at hl 1 rfl) ?_
  refine mx_iadd (pc := 5) hx hb dX6_change_5 ?_
  refine lv_istore (lv' := [(4, .int (nI ((k) * (8) + z))), (0, .ref (a 3)), (1, .int (nI (z))), (2, .int (nI (k))), (3, .int (v))]) (pc := 6) hx hb dX6_change_6 hl (by decide) rfl (fun ls hl => ?_)
  refine lv_aload_n (pc := 8) hx hb dX6_change_8 rfl (lv_at hl 1 rfl) ?_
  refine va_get (ci := 6) (C := RX6) (T := TX6) (N := 2) (pc := 9) hx hb hts hiX6 hown hK hP 3 w3 rfl 0 (by decide) (hts (.fieldLink RX6 15 "InkPress$Zones" "values" "[I") (by decide +kernel)) (fun _ h9 => h9) rfl dX6_change_9 ?_
  refine lv_iload (pc := 12) hx hb dX6_change_12 (lv_at hl 0 rfl) ?_
  refine mx_iald (pc := 14) hx hb hK hP 4 w4 ((k) * (8) + z) (by omega) (by decide) dX6_change_14 ?_
  refine lv_istore (lv' := [(5, .int ((zv) ((k) * (8) + z))), (4, .int (nI ((k) * (8) + z))), (0, .ref (a 3)), (1, .int (nI (z))), (2, .int (nI (k))), (3, .int (v))]) (pc := 15) hx hb dX6_change_15 hl (by decide) rfl (fun ls hl => ?_)
  refine lv_aload_n (pc := 17) hx hb dX6_change_17 rfl (lv_at hl 2 rfl) ?_
  refine va_get (ci := 6) (C := RX6) (T := TX6) (N := 2) (pc := 18) hx hb hts hiX6 hown hK hP 3 w3 rfl 0 (by decide) (hts (.fieldLink RX6 15 "InkPress$Zones" "values" "[I") (by decide +kernel)) (fun _ h9 => h9) rfl dX6_change_18 ?_
  refine lv_iload (pc := 21) hx hb dX6_change_21 (lv_at hl 1 rfl) ?_
  refine lv_iload_n (pc := 23) hx hb dX6_change_23 rfl (lv_at hl 5 rfl) ?_
  refine mx_iast (x := v) (pc := 24) hx hb hK hP hD hS 4 w4 ((k) * (8) + z) (by omega) (by decide) dX6_change_24 (fun H locs G hP hD hS w4 ho => ?_)
  have w3 := (ho 3 (by decide)).trans w3
  have w4 : G[4]? = some (a 4, .inl (cI, 24, .inl (upd (zv) ((k) * (8) + z) (v)))) := w4
  have hk := gk_step hk ho (by decide)
  clear ho
  refine lv_iload (pc := 25) hx hb dX6_change_25 (lv_at hl 0 rfl) ?_
  exact hret _ _ _ _ _ _ hP hD hS rfl ⟨w4, hk⟩ dX6_change_27
set_option maxHeartbeats 4000000 in
set_option maxRecDepth 100000 in
theorem k_X6_restart {l : Launch} {D : va_G} {cI cZ : ClassId} {A : Nat → Prop} {g a : Nat → Nat} {G0 : va_W} {zv : Nat → Int32} {zn : Nat} {n : Nat} (hD : va_D A G0) (w3 : G0[3]? = some (a 3, .inr (6, [.ref (a 4), .int (nI (zn))]))) (w4 : G0[4]? = some (a 4, .inl (cI, 24, .inl (zv)))) : gMv l D cI cZ A g yX6_restart wsX6_restart ({ frames := 0, cells := 0, slots := 0, locals := 0 }) [.ref (a 3), .int (nI (n))] G0 (fun G1 => G1[3]? = some (a 3, .inr (6, [.ref (a 4), .int (nI (n))])) ∧ G1[4]? = some (a 4, .inl (cI, 24, .inl (gZr 24 0 zv))) ∧ ∀ k, k ∉ [3, 4] → G1[k]? = G0[k]?) := by
  refine gof_v (cc := cX6_restart) (maxL := 3) (by decide) rfl (Nat.le_of_ble_eq_true rfl) hD ?_
  intro p e s m args below meth c Q hx hb hml hts hown hK hN hZ hP hS hret ls hl
  have hown : s.vm.findClass RX6 = some m.cls := hown
  have hl : lv_has ls 3 [(0, .ref (a 3)), (1, .int (nI (n)))] := hl
  obtain ⟨locs, elocs⟩ : ∃ q : List Loc, q = [] := ⟨_, rfl⟩
  rw [← elocs] at hS ⊢
  obtain ⟨H, eH⟩ : ∃ q : Heap, q = s.heap := ⟨_, rfl⟩
  have hP : va_P D vwCl G0 H := eH ▸ hP
  have hS : va_S A s.heap H locs := by rw [eH]; exact hS
  rw [← eH]
  clear elocs eH
  have hiX6 : ∀ w ∈ u_ws RX6 TX6 2, w ∈ wsX6_restart := by decide +kernel
  have hk : ∀ k, k ∉ [3, 4] → G0[k]? = G0[k]? := fun _ _ => rfl
  refine lv_aload_n (pc := 0) hx hb dX6_restart_0 rfl (lv_at hl 0 rfl) ?_
  refine lv_iload_n (pc := 1) hx hb dX6_restart_1 rfl (lv_at hl 1 rfl) ?_
  refine mx_put (ci := 6) (v := .int (nI (n))) (ty := .int) (C := RX6) (T := TX6) (N := 2) (pc := 2) hx hb hts hiX6 tyX6 tyX6_ok nmX6 hown hK hP hD hS 3 w3 rfl 1 (by decide) (hts (.fieldLink RX6 22 "InkPress$Zones" "count" "I") (by decide +kernel)) (fun _ h9 => h9) rfl (by decide +kernel) rfl rfl (Nat.le_of_ble_eq_true rfl) dX6_restart_2 (fun H locs G hP hD hS w3 ho => ?_)
  have w4 := (ho 4 (by decide)).trans w4
  have w3 : G[3]? = some (a 3, .inr (6, [.ref (a 4), .int (nI (n))])) := w3
  have hk := gk_step hk ho (by decide)
  clear ho
  refine lv_iconst (v := nI (0)) (pc := 5) hx hb dX6_restart_5 (by decide) ?_
  refine lv_istore_n (lv' := [(2, .int (nI (0))), (0, .ref (a 3)), (1, .int (nI (n)))]) (pc := 6) hx hb dX6_restart_6 rfl hl (by decide) rfl (fun ls hl => ?_)
  have LP : ∀ (k : Nat) (i : Nat) (zv : Nat → Int32), i + k = 24 → ∀ (G : va_W) (H : Heap) (locs : List Loc) (ls : Array Slot), va_P D vwCl G H → va_D A G → va_S A s.heap H locs → (∀ j, j ∉ [3, 4] → G[j]? = G0[j]?) → G[3]? = some (a 3, .inr (6, [.ref (a 4), .int (nI (n))])) → G[4]? = some (a 4, .inl (cI, 24, .inl (zv))) → lv_has ls 3 [(0, .ref (a 3)), (1, .int (nI (n))), (2, .int (nI (i)))] → (∀ (G : va_W) (H : Heap) (locs : List Loc) (ls : Array Slot), va_P D vwCl G H → va_D A G → va_S A s.heap H locs → (∀ j, j ∉ [3, 4] → G[j]? = G0[j]?) → G[3]? = some (a 3, .inr (6, [.ref (a 4), .int (nI (n))])) → G[4]? = some (a 4, .inl (cI, 24, .inl (gZr k i zv))) → lv_has ls 3 [(0, .ref (a 3)), (1, .int (nI (n)))] → W p l e ({ frames := 0, cells := 0, slots := 0, locals := 0 } : Room) s m args below meth c H locs 0 0 Q (F0 m 36 ls [])) → W p l e ({ frames := 0, cells := 0, slots := 0, locals := 0 } : Room) s m args below meth c H locs 0 0 Q (F0 m 7 ls []) := by
    intro k
    induction k with
    | zero =>
      intro i zv hi G H locs ls hP hD hS hk w3 w4 hl hcont
      refine lv_iload_n (pc := 7) hx hb dX6_restart_7 rfl (lv_at hl 2 rfl) ?_
      refine lv_aload_n (pc := 8) hx hb dX6_restart_8 rfl (lv_at hl 0 rfl) ?_
      refine va_get (ci := 6) (C := RX6) (T := TX6) (N := 2) (pc := 9) hx hb hts hiX6 hown hK hP 3 w3 rfl 0 (by decide) (hts (.fieldLink RX6 15 "InkPress$Zones" "values" "[I") (by decide +kernel)) (fun _ h9 => h9) rfl dX6_restart_9 ?_
      refine va_alen (v := nI 24) (pc := 12) hx hb hK hP 4 0 w4 rfl rfl dX6_restart_12 ?_
      refine mx_cge (tgt := 36) (pc := 13) hx hb (by omega) (by omega) dX6_restart_13 (by decide) (fun c13 => ?_) (fun c13 => absurd c13 (by omega))
      exact hcont G H locs ls hP hD hS hk w3 w4 (lv_sub hl [0, 1] rfl)
    | succ k ih =>
      intro i zv hi G H locs ls hP hD hS hk w3 w4 hl hcont
      refine lv_iload_n (pc := 7) hx hb dX6_restart_7 rfl (lv_at hl 2 rfl) ?_
      refine lv_aload_n (pc := 8) hx hb dX6_restart_8 rfl (lv_at hl 0 rfl) ?_
      refine va_get (ci := 6) (C := RX6) (T := TX6) (N := 2) (pc := 9) hx hb hts hiX6 hown hK hP 3 w3 rfl 0 (by decide) (hts (.fieldLink RX6 15 "InkPress$Zones" "values" "[I") (by decide +kernel)) (fun _ h9 => h9) rfl dX6_restart_9 ?_
      refine va_alen (v := nI 24) (pc := 12) hx hb hK hP 4 0 w4 rfl rfl dX6_restart_12 ?_
      refine mx_cge (tgt := 36) (pc := 13) hx hb (by omega) (by omega) dX6_restart_13 (by decide) (fun c13 => absurd c13 (by omega)) (fun c13 => ?_)
      refine lv_aload_n (pc := 16) hx hb dX6_restart_16 rfl (lv_at hl 0 rfl) ?_
      refine va_get (ci := 6) (C := RX6) (T := TX6) (N := 2) (pc := 17) hx hb hts hiX6 hown hK hP 3 w3 rfl 0 (by decide) (hts (.fieldLink RX6 15 "InkPress$Zones" "values" "[I") (by decide +kernel)) (fun _ h9 => h9) rfl dX6_restart_17 ?_
      refine lv_iload_n (pc := 20) hx hb dX6_restart_20 rfl (lv_at hl 2 rfl) ?_
      refine va_gets (C := gTabC 4) (n := gTabN 4) (d := "[I") (own := RX6) (ref := "InkPress$Zones") (v := .ref (g 4)) (pc := 21) hx hb (hZ 4 (by decide)).1 hS hown (hts (.fieldLink RX6 9 "InkPress$Zones" "FIRST" "[I") (by decide +kernel)) (fun _ h9 => h9) dX6_restart_21 ?_
      refine lv_iload_n (pc := 24) hx hb dX6_restart_24 rfl (lv_at hl 2 rfl) ?_
      refine lv_bipush (v := nI (8)) (pc := 25) hx hb dX6_restart_25 (by decide) ?_
      refine mx_idiv (pc := 27) hx hb (by omega) (by omega) (by omega) dX6_restart_27 ?_
      refine mx_ti (pc := 28) hx hb hZ hS 4 (by decide) ((i) / (8)) (show i / 8 < 3 by omega) dX6_restart_28 ?_
      refine mx_iast (x := (gTab 4).getD ((i) / (8)) 0) (pc := 29) hx hb hK hP hD hS 4 w4 (i) (by omega) (by decide) dX6_restart_29 (fun H locs G hP hD hS w4 ho => ?_)
      have w3 := (ho 3 (by decide)).trans w3
      have w4 : G[4]? = some (a 4, .inl (cI, 24, .inl (upd (zv) (i) ((gTab 4).getD ((i) / (8)) 0)))) := w4
      have hk := gk_step hk ho (by decide)
      clear ho
      refine lv_iinc (v := nI (i + 1)) (lv' := [(2, .int (nI (i + 1))), (0, .ref (a 3)), (1, .int (nI (n)))]) (pc := 30) hx hb dX6_restart_30 hl (k := 2) rfl (mx_inc1 _) (by decide) rfl (fun ls hl => ?_)
      refine lv_goto (tgt := 7) (pc := 33) hx hb dX6_restart_33 (by decide) ?_
      exact ih (i + 1) (upd (zv) (i) ((gTab 4).getD ((i) / (8)) 0)) (by omega) G H locs ls hP hD hS hk w3 w4 (lv_sub hl [1, 2, 0] rfl) hcont
  refine LP 24 (0) (zv) (by omega) G H locs ls hP hD hS hk w3 w4 (lv_sub hl [1, 2, 0] rfl) (fun G H locs ls hP hD hS hk w3 w4 hl => ?_)
  have w4 : G[4]? = some (a 4, .inl (cI, 24, .inl (gZr (24) (0) (zv)))) := w4
  exact hret _ _ _ _ _ hP hD hS ⟨w3, w4, hk⟩ dX6_restart_36
end
section
/-! the train of rollers -/
theorem gUpdB (f : Nat → Bool) (k : Nat) (b : Bool) : upd (fun j => gB (f j)) k (gB b) = fun j => gB (vf_upd f k b j) := by
  funext j
  by_cases h : j = k <;> simp [upd, vf_upd, h]
def gOn : Nat → Nat → Int32 → (Nat → Int32) → Int32
  | 0, _, acc, _ => acc
  | k + 1, i, acc, f => gOn k (i + 1) (acc + f i) f
def gClr : Nat → Nat → (Nat → Int32) → Nat → Int32
  | 0, _, f => f
  | k + 1, i, f => gClr k (i + 1) (upd f i (nI 0))
/-- what of place k goes on to place k + 8 -/
def gP1 (q : Int32) (r z : Nat) (ink : Nat → Int32) : Nat → Int32 :=
  upd (upd ink (r * 8 + z) (ink (r * 8 + z) - gShare (ink (r * 8 + z)) q (nI 100))) (r * 8 + z + 8) ((upd ink (r * 8 + z) (ink (r * 8 + z) - gShare (ink (r * 8 + z)) q (nI 100))) (r * 8 + z + 8) + gShare (ink (r * 8 + z)) q (nI 100))
def gPz (q : Int32) (r : Nat) : Nat → Nat → (Nat → Int32) → Nat → Int32
  | 0, _, f => f
  | k + 1, z, f => gPz q r k (z + 1) (gP1 q r z f)
def gPr (q : Int32) (tz : Nat) : Nat → Nat → (Nat → Int32) → Nat → Int32
  | 0, _, f => f
  | k + 1, r, f => gPr q tz k (r + 1) (gPz q r tz 0 f)
def gD1 (q : Int32) (b z : Nat) (ink : Nat → Int32) (left : Int32) : Nat → Int32 :=
  upd (upd ink (b + z - 1) (ink (b + z - 1) + (gShare (ink (b + z)) q (nI 200) - left))) (b + z) ((upd ink (b + z - 1) (ink (b + z - 1) + (gShare (ink (b + z)) q (nI 200) - left))) (b + z) + (left - gShare (ink (b + z)) q (nI 200)))
def gDz (q : Int32) (b : Nat) : Nat → Nat → (Nat → Int32) → Int32 → Nat → Int32
  | 0, _, f, _ => f
  | k + 1, z, f, left => gDz q b k (z + 1) (gD1 q b z f left) (gShare (f (b + z)) q (nI 200))
def gDr (q : Int32) (tz : Nat) : Nat → Nat → (Nat → Int32) → Nat → Int32
  | 0, _, f => f
  | k + 1, r, f => gDr q tz k (r + 1) (gDz q (r * 8) (tz - 1) 1 f (gShare (f (r * 8)) q (nI 200)))
def gBar (tr z : Nat) (ink : Nat → Int32) : Int32 := ink ((tr - 1) * 8 + z) / nI 100
def gPap (tr z : Nat) (q cv : Int32) (ink : Nat → Int32) : Int32 := gShare (ink ((tr - 1) * 8 + z)) (q * cv) (nI 10000)
def gTk (tr z : Nat) (q cv : Int32) (ink : Nat → Int32) : Nat → Int32 := upd ink ((tr - 1) * 8 + z) (ink ((tr - 1) * 8 + z) - (gPap tr z q cv ink + gBar tr z ink))
set_option maxHeartbeats 4000000 in
set_option maxRecDepth 100000 in
theorem k_X5_has {l : Launch} {D : va_G} {cI cZ : ClassId} {A : Nat → Prop} {g a : Nat → Nat} {G0 : va_W} {ink : Nat → Int32} {tz : Nat} {tr : Nat} {fed : Int32} {pap : Int32} {bar : Int32} {x : Int32} (hD : va_D A G0) (w5 : G0[5]? = some (a 5, .inr (5, [.ref (a 6), .int (nI (tz)), .int (nI (tr)), .int (fed), .int (pap), .int (bar)]))) (w6 : G0[6]? = some (a 6, .inl (cI, 40, .inl (ink)))) : gMi l D cI cZ A g yX5_has wsX5_has ({ frames := 0, cells := 0, slots := 0, locals := 0 }) [.ref (a 5), .int (x)] G0 (gB (gHas x (nI tr))) (fun G1 => G1 = G0) := by
  refine gof_z (cc := cX5_has) (maxL := 2) (by decide) rfl (Nat.le_of_ble_eq_true rfl) hD ?_
  intro p e s m args below meth c Q hx hb hml hts hown hK hN hZ hP hS hret ls hl
  have hown : s.vm.findClass RX5 = some m.cls := hown
  have hl : lv_has ls 2 [(0, .ref (a 5)), (1, .int (x))] := hl
  obtain ⟨locs, elocs⟩ : ∃ q : List Loc, q = [] := ⟨_, rfl⟩
  rw [← elocs] at hS ⊢
  obtain ⟨H, eH⟩ : ∃ q : Heap, q = s.heap := ⟨_, rfl⟩
  have hP : va_P D vwCl G0 H := eH ▸ hP
  have hS : va_S A s.heap H locs := by rw [eH]; exact hS
  rw [← eH]
  clear elocs eH
  have hiX5 : ∀ w ∈ u_ws RX5 TX5 6, w ∈ wsX5_has := by decide +kernel
  have hk : ∀ k, k ∉ ([] : List Nat) → G0[k]? = G0[k]? := fun _ _ => rfl
  refine lv_iload_n (pc := 0) hx hb dX5_has_0 rfl (lv_at hl 1 rfl) ?_
  refine lv_if_lt (tgt := 16) (pc := 1) hx hb dX5_has_1 (by decide) (fun c1 => ?_) (fun c1 => ?_)
  · skip
    refine lv_iconst (v := nI (0)) (pc := 16) hx hb dX5_has_16 (by decide) ?_
    exact hret _ _ _ _ _ _ hP hD hS rfl (by first | exact gHas_lt c1 | exact gHas_ge c9 | exact gHas_in c1 c9) rfl dX5_has_17
  · skip
    refine lv_iload_n (pc := 4) hx hb dX5_has_4 rfl (lv_at hl 1 rfl) ?_
    refine lv_aload_n (pc := 5) hx hb dX5_has_5 rfl (lv_at hl 0 rfl) ?_
    refine va_get (ci := 5) (C := RX5) (T := TX5) (N := 6) (pc := 6) hx hb hts hiX5 hown hK hP 5 w5 rfl 2 (by decide) (hts (.fieldLink RX5 23 "InkPress$Train" "rollers" "I") (by decide +kernel)) (fun _ h9 => h9) rfl dX5_has_6 ?_
    refine lv_icmp_ge (tgt := 16) (pc := 9) hx hb dX5_has_9 (by decide) (fun c9 => ?_) (fun c9 => ?_)
    · skip
      refine lv_iconst (v := nI (0)) (pc := 16) hx hb dX5_has_16 (by decide) ?_
      exact hret _ _ _ _ _ _ hP hD hS rfl (by first | exact gHas_lt c1 | exact gHas_ge c9 | exact gHas_in c1 c9) rfl dX5_has_17
    · skip
      refine lv_iconst (v := nI (1)) (pc := 12) hx hb dX5_has_12 (by decide) ?_
      refine lv_goto (tgt := 17) (pc := 13) hx hb dX5_has_13 (by decide) ?_
      exact hret _ _ _ _ _ _ hP hD hS rfl (by first | exact gHas_lt c1 | exact gHas_ge c9 | exact gHas_in c1 c9) rfl dX5_has_17
set_option maxHeartbeats 4000000 in
set_option maxRecDepth 100000 in
theorem k_X5_inkAt {l : Launch} {D : va_G} {cI cZ : ClassId} {A : Nat → Prop} {g a : Nat → Nat} {G0 : va_W} {ink : Nat → Int32} {tz : Nat} {tr : Nat} {fed : Int32} {pap : Int32} {bar : Int32} {r : Nat} {z : Nat} (hD : va_D A G0) (w5 : G0[5]? = some (a 5, .inr (5, [.ref (a 6), .int (nI (tz)), .int (nI (tr)), .int (fed), .int (pap), .int (bar)]))) (w6 : G0[6]? = some (a 6, .inl (cI, 40, .inl (ink)))) (hr : r < 5) (hz : z < 8) : gMi l D cI cZ A g yX5_inkAt wsX5_inkAt ({ frames := 0, cells := 0, slots := 0, locals := 0 }) [.ref (a 5), .int (nI (r)), .int (nI (z))] G0 (ink (r * 8 + z)) (fun G1 => G1 = G0) := by
  refine gof_i (cc := cX5_inkAt) (maxL := 3) (by decide) rfl (Nat.le_of_ble_eq_true rfl) hD ?_
  intro p e s m args below meth c Q hx hb hml hts hown hK hN hZ hP hS hret ls hl
  have hown : s.vm.findClass RX5 = some m.cls := hown
  have hl : lv_has ls 3 [(0, .ref (a 5)), (1, .int (nI (r))), (2, .int (nI (z)))] := hl
  obtain ⟨locs, elocs⟩ : ∃ q : List Loc, q = [] := ⟨_, rfl⟩
  rw [← elocs] at hS ⊢
  obtain ⟨H, eH⟩ : ∃ q : Heap, q = s.heap := ⟨_, rfl⟩
  have hP : va_P D vwCl G0 H := eH ▸ hP
  have hS : va_S A s.heap H locs := by rw [eH]; exact hS
  rw [← eH]
  clear elocs eH
  have hiX5 : ∀ w ∈ u_ws RX5 TX5 6, w ∈ wsX5_inkAt := by decide +kernel
  have hk : ∀ k, k ∉ ([] : List Nat) → G0[k]? = G0[k]? := fun _ _ => rfl
  refine lv_aload_n (pc := 0) hx hb dX5_inkAt_0 rfl (lv_at hl 0 rfl) ?_
  refine va_get (ci := 5) (C := RX5) (T := TX5) (N := 6) (pc := 1) hx hb hts hiX5 hown hK hP 5 w5 rfl 0 (by decide) (hts (.fieldLink RX5 9 "InkPress$Train" "ink" "[I") (by decide +kernel)) (fun _ h9 => h9) rfl dX5_inkAt_1 ?_
  refine lv_iload_n (pc := 4) hx hb dX5_inkAt_4 rfl (lv_at hl 1 rfl) ?_
  refine lv_bipush (v := nI (8)) (pc := 5) hx hb dX5_inkAt_5 (by decide) ?_
  refine mx_imul (pc := 7) hx hb dX5_inkAt_7 ?_
  refine lv_iload_n (pc := 8) hx hb dX5_inkAt_8 rfl (lv_at hl 2 rfl) ?_
  refine mx_iadd (pc := 9) hx hb dX5_inkAt_9 ?_
  refine mx_iald (pc := 10) hx hb hK hP 6 w6 ((r) * (8) + z) (by omega) (by decide) dX5_inkAt_10 ?_
  exact hret _ _ _ _ _ _ hP hD hS rfl rfl dX5_inkAt_11
set_option maxHeartbeats 4000000 in
set_option maxRecDepth 100000 in
theorem k_X5_feedZone {l : Launch} {D : va_G} {cI cZ : ClassId} {A : Nat → Prop} {g a : Nat → Nat} {G0 : va_W} {ink : Nat → Int32} {tz : Nat} {tr : Nat} {fed : Int32} {pap : Int32} {bar : Int32} {z : Nat} {x : Int32} (hD : va_D A G0) (w5 : G0[5]? = some (a 5, .inr (5, [.ref (a 6), .int (nI (tz)), .int (nI (tr)), .int (fed), .int (pap), .int (bar)]))) (w6 : G0[6]? = some (a 6, .inl (cI, 40, .inl (ink)))) (hz : z < 8) : gMv l D cI cZ A g yX5_feedZone wsX5_feedZone ({ frames := 0, cells := 0, slots := 0, locals := 0 }) [.ref (a 5), .int (nI (z)), .int (x)] G0 (fun G1 => G1[5]? = some (a 5, .inr (5, [.ref (a 6), .int (nI (tz)), .int (nI (tr)), .int (fed + x), .int (pap), .int (bar)])) ∧ G1[6]? = some (a 6, .inl (cI, 40, .inl (upd ink z (ink z + x)))) ∧ ∀ k, k ∉ [5, 6] → G1[k]? = G0[k]?) := by
  refine gof_v (cc := cX5_feedZone) (maxL := 3) (by decide) rfl (Nat.le_of_ble_eq_true rfl) hD ?_
  intro p e s m args below meth c Q hx hb hml hts hown hK hN hZ hP hS hret ls hl
  have hown : s.vm.findClass RX5 = some m.cls := hown
  have hl : lv_has ls 3 [(0, .ref (a 5)), (1, .int (nI (z))), (2, .int (x))] := hl
  obtain ⟨locs, elocs⟩ : ∃ q : List Loc, q = [] := ⟨_, rfl⟩
  rw [← elocs] at hS ⊢
  obtain ⟨H, eH⟩ : ∃ q : Heap, q = s.heap := ⟨_, rfl⟩
  have hP : va_P D vwCl G0 H := eH ▸ hP
  have hS : va_S A s.heap H locs := by rw [eH]; exact hS
  rw [← eH]
  clear elocs eH
  have hiX5 : ∀ w ∈ u_ws RX5 TX5 6, w ∈ wsX5_feedZone := by decide +kernel
  have hk : ∀ k, k ∉ [5, 6] → G0[k]? = G0[k]? := fun _ _ => rfl
  refine lv_aload_n (pc := 0) hx hb dX5_feedZone_0 rfl (lv_at hl 0 rfl) ?_
  refine va_get (ci := 5) (C := RX5) (T := TX5) (N := 6) (pc := 1) hx hb hts hiX5 hown hK hP 5 w5 rfl 0 (by decide) (hts (.fieldLink RX5 9 "InkPress$Train" "ink" "[I") (by decide +kernel)) (fun _ h9 => h9) rfl dX5_feedZone_1 ?_
  refine lv_iload_n (pc := 4) hx hb dX5_feedZone_4 rfl (lv_at hl 1 rfl) ?_
  refine lv_dup2_11 (pc := 5) hx hb dX5_feedZone_5 rfl rfl ?_
  refine mx_iald (pc := 6) hx hb hK hP 6 w6 (z) (by omega) (by decide) dX5_feedZone_6 ?_
  refine lv_iload_n (pc := 7) hx hb dX5_feedZone_7 rfl (lv_at hl 2 rfl) ?_
  refine lv_iadd (pc := 8) hx hb dX5_feedZone_8 ?_
  refine mx_iast (x := ((ink) (z) + x)) (pc := 9) hx hb hK hP hD hS 6 w6 (z) (by omega) (by decide) dX5_feedZone_9 (fun H locs G hP hD hS w6 ho => ?_)
  have w5 := (ho 5 (by decide)).trans w5
  have w6 : G[6]? = some (a 6, .inl (cI, 40, .inl (upd (ink) (z) (((ink) (z) + x))))) := w6
  have hk := gk_step hk ho (by decide)
  clear ho
  refine lv_aload_n (pc := 10) hx hb dX5_feedZone_10 rfl (lv_at hl 0 rfl) ?_
  refine lv_dup (pc := 11) hx hb dX5_feedZone_11 rfl ?_
  refine va_get (ci := 5) (C := RX5) (T := TX5) (N := 6) (pc := 12) hx hb hts hiX5 hown hK hP 5 w5 rfl 3 (by decide) (hts (.fieldLink RX5 26 "InkPress$Train" "fed" "I") (by decide +kernel)) (fun _ h9 => h9) rfl dX5_feedZone_12 ?_
  refine lv_iload_n (pc := 15) hx hb dX5_feedZone_15 rfl (lv_at hl 2 rfl) ?_
  refine lv_iadd (pc := 16) hx hb dX5_feedZone_16 ?_
  refine mx_put (ci := 5) (v := .int ((fed + x))) (ty := .int) (C := RX5) (T := TX5) (N := 6) (pc := 17) hx hb hts hiX5 tyX5 tyX5_ok nmX5 hown hK hP hD hS 5 w5 rfl 3 (by decide) (hts (.fieldLink RX5 26 "InkPress$Train" "fed" "I") (by decide +kernel)) (fun _ h9 => h9) rfl (by decide +kernel) rfl rfl (Nat.le_of_ble_eq_true rfl) dX5_feedZone_17 (fun H locs G hP hD hS w5 ho => ?_)
  have w6 := (ho 6 (by decide)).trans w6
  have w5 : G[5]? = some (a 5, .inr (5, [.ref (a 6), .int (nI (tz)), .int (nI (tr)), .int ((fed + x)), .int (pap), .int (bar)])) := w5
  have hk := gk_step hk ho (by decide)
  clear ho
  exact hret _ _ _ _ _ hP hD hS ⟨w5, w6, hk⟩ dX5_feedZone_20
set_option maxHeartbeats 4000000 in
set_option maxRecDepth 100000 in
theorem k_X5_takeOff {l : Launch} {D : va_G} {cI cZ : ClassId} {A : Nat → Prop} {g a : Nat → Nat} {G0 : va_W} {ink : Nat → Int32} {tz : Nat} {tr : Nat} {fed : Int32} {pap : Int32} {bar : Int32} {z : Nat} {q : Int32} {cv : Int32} (hD : va_D A G0) (w5 : G0[5]? = some (a 5, .inr (5, [.ref (a 6), .int (nI (tz)), .int (nI (tr)), .int (fed), .int (pap), .int (bar)]))) (w6 : G0[6]? = some (a 6, .inl (cI, 40, .inl (ink)))) (hr : 2 ≤ tr) (hr5 : tr ≤ 5) (hz : z < 8) : gMi l D cI cZ A g yX5_takeOff wsX5_takeOff ({ frames := 1, cells := 0, slots := 0, locals := 22 }) [.ref (a 5), .int (nI (z)), .int (q), .int (cv)] G0 (gBar tr z ink) (fun G1 => G1[5]? = some (a 5, .inr (5, [.ref (a 6), .int (nI (tz)), .int (nI (tr)), .int (fed), .int (pap + gPap tr z q cv ink), .int (bar + gBar tr z ink)])) ∧ G1[6]? = some (a 6, .inl (cI, 40, .inl (gTk tr z q cv ink))) ∧ ∀ k, k ∉ [5, 6] → G1[k]? = G0[k]?) := by
  refine gof_i (cc := cX5_takeOff) (maxL := 7) (by decide) rfl (Nat.le_of_ble_eq_true rfl) hD ?_
  intro p e s m args below meth c Q hx hb hml hts hown hK hN hZ hP hS hret ls hl
  have hown : s.vm.findClass RX5 = some m.cls := hown
  have hl : lv_has ls 7 [(0, .ref (a 5)), (1, .int (nI (z))), (2, .int (q)), (3, .int (cv))] := hl
  obtain ⟨locs, elocs⟩ : ∃ q : List Loc, q = [] := ⟨_, rfl⟩
  rw [← elocs] at hS ⊢
  obtain ⟨H, eH⟩ : ∃ q : Heap, q = s.heap := ⟨_, rfl⟩
  have hP : va_P D vwCl G0 H := eH ▸ hP
  have hS : va_S A s.heap H locs := by rw [eH]; exact hS
  rw [← eH]
  clear elocs eH
  have hiX5 : ∀ w ∈ u_ws RX5 TX5 6, w ∈ wsX5_takeOff := by decide +kernel
  have hk : ∀ k, k ∉ [5, 6] → G0[k]? = G0[k]? := fun _ _ => rfl
  refine lv_aload_n (pc := 0) hx hb dX5_takeOff_0 rfl (lv_at hl 0 rfl) ?_
  refine va_get (ci := 5) (C := RX5) (T := TX5) (N := 6) (pc := 1) hx hb hts hiX5 hown hK hP 5 w5 rfl 2 (by decide) (hts (.fieldLink RX5 23 "InkPress$Train" "rollers" "I") (by decide +kernel)) (fun _ h9 => h9) rfl dX5_takeOff_1 ?_
  refine lv_iconst (v := nI (1)) (pc := 4) hx hb dX5_takeOff_4 (by decide) ?_
  refine mx_isub (pc := 5) hx hb (by omega) dX5_takeOff_5 ?_
  refine lv_bipush (v := nI (8)) (pc := 6) hx hb dX5_takeOff_6 (by decide) ?_
  refine mx_imul (pc := 8) hx hb dX5_takeOff_8 ?_
  refine lv_iload_n (pc := 9) hx hb dX5_takeOff_9 rfl (lv_at hl 1 rfl) ?_
  refine mx_iadd (pc := 10) hx hb dX5_takeOff_10 ?_
  refine lv_istore (lv' := [(4, .int (nI (((tr) - (1)) * (8) + z))), (0, .ref (a 5)), (1, .int (nI (z))), (2, .int (q)), (3, .int (cv))]) (pc := 11) hx hb dX5_takeOff_11 hl (by decide) rfl (fun ls hl => ?_)
  refine lv_aload_n (pc := 13) hx hb dX5_takeOff_13 rfl (lv_at hl 1 rfl) ?_
  refine va_get (ci := 5) (C := RX5) (T := TX5) (N := 6) (pc := 14) hx hb hts hiX5 hown hK hP 5 w5 rfl 0 (by decide) (hts (.fieldLink RX5 9 "InkPress$Train" "ink" "[I") (by decide +kernel)) (fun _ h9 => h9) rfl dX5_takeOff_14 ?_
  refine lv_iload (pc := 17) hx hb dX5_takeOff_17 (lv_at hl 0 rfl) ?_
  refine mx_iald (pc := 19) hx hb hK hP 6 w6 (((tr) - (1)) * (8) + z) (by omega) (by decide) dX5_takeOff_19 ?_
  refine lv_iload_n (pc := 20) hx hb dX5_takeOff_20 rfl (lv_at hl 3 rfl) ?_
  refine lv_iload_n (pc := 21) hx hb dX5_takeOff_21 rfl (lv_at hl 4 rfl) ?_
  refine lv_imul (pc := 22) hx hb dX5_takeOff_22 ?_
  refine lv_sipush (v := nI (10000)) (pc := 23) hx hb dX5_takeOff_23 (by decide) ?_
  refine mx_cSi (As := [.int ((ink) (((tr) - (1)) * (8) + z)), .int ((q * cv)), .int (nI (10000))]) (rest := []) (pc := 26) ⟨hx, hb, hml, hown, hts⟩ (k_X5_share (a := a) (x := (ink) (((tr) - (1)) * (8) + z)) (q := (q * cv)) (n := nI (10000)) hD  (by decide)) (va_cwS 3 hts gX5_takeOff_X5_share rfl rfl rfl (by decide +kernel) ⟨Nat.le_of_ble_eq_true rfl, Nat.le_of_ble_eq_true rfl⟩) hK hN hZ hP hS rfl hl.1 rfl (Nat.le_of_ble_eq_true rfl) dX5_takeOff_26 ⟨Nat.zero_le _, Nat.zero_le _⟩ (fun G' H locs hP hD hS hB => ?_)
  rw [hB] at hP hD
  clear hB G'
  refine lv_istore (lv' := [(5, .int (gShare ((ink) (((tr) - (1)) * (8) + z)) ((q * cv)) (nI (10000)))), (4, .int (nI (((tr) - (1)) * (8) + z))), (0, .ref (a 5)), (1, .int (nI (z))), (2, .int (q)), (3, .int (cv))]) (pc := 29) hx hb dX5_takeOff_29 hl (by decide) rfl (fun ls hl => ?_)
  refine lv_aload_n (pc := 31) hx hb dX5_takeOff_31 rfl (lv_at hl 2 rfl) ?_
  refine va_get (ci := 5) (C := RX5) (T := TX5) (N := 6) (pc := 32) hx hb hts hiX5 hown hK hP 5 w5 rfl 0 (by decide) (hts (.fieldLink RX5 9 "InkPress$Train" "ink" "[I") (by decide +kernel)) (fun _ h9 => h9) rfl dX5_takeOff_32 ?_
  refine lv_iload (pc := 35) hx hb dX5_takeOff_35 (lv_at hl 1 rfl) ?_
  refine mx_iald (pc := 37) hx hb hK hP 6 w6 (((tr) - (1)) * (8) + z) (by omega) (by decide) dX5_takeOff_37 ?_
  refine lv_bipush (v := nI (100)) (pc := 38) hx hb dX5_takeOff_38 (by decide) ?_
  refine lv_idiv (pc := 40) hx hb dX5_takeOff_40 (by decide) ?_
  refine lv_istore (lv' := [(6, .int ((((ink) (((tr) - (1)) * (8) + z)) / (nI (100))))), (5, .int (gShare ((ink) (((tr) - (1)) * (8) + z)) ((q * cv)) (nI (10000)))), (4, .int (nI (((tr) - (1)) * (8) + z))), (0, .ref (a 5)), (1, .int (nI (z))), (2, .int (q)), (3, .int (cv))]) (pc := 41) hx hb dX5_takeOff_41 hl (by decide) rfl (fun ls hl => ?_)
  refine lv_aload_n (pc := 43) hx hb dX5_takeOff_43 rfl (lv_at hl 3 rfl) ?_
  refine va_get (ci := 5) (C := RX5) (T := TX5) (N := 6) (pc := 44) hx hb hts hiX5 hown hK hP 5 w5 rfl 0 (by decide) (hts (.fieldLink RX5 9 "InkPress$Train" "ink" "[I") (by decide +kernel)) (fun _ h9 => h9) rfl dX5_takeOff_44 ?_
  refine lv_iload (pc := 47) hx hb dX5_takeOff_47 (lv_at hl 2 rfl) ?_
  refine lv_dup2_11 (pc := 49) hx hb dX5_takeOff_49 rfl rfl ?_
  refine mx_iald (pc := 50) hx hb hK hP 6 w6 (((tr) - (1)) * (8) + z) (by omega) (by decide) dX5_takeOff_50 ?_
  refine lv_iload (pc := 51) hx hb dX5_takeOff_51 (lv_at hl 1 rfl) ?_
  refine lv_iload (pc := 53) hx hb dX5_takeOff_53 (lv_at hl 0 rfl) ?_
  refine lv_iadd (pc := 55) hx hb dX5_takeOff_55 ?_
  refine lv_isub (pc := 56) hx hb dX5_takeOff_56 ?_
  refine mx_iast (x := ((ink) (((tr) - (1)) * (8) + z) - (gShare ((ink) (((tr) - (1)) * (8) + z)) ((q * cv)) (nI (10000)) + (((ink) (((tr) - (1)) * (8) + z)) / (nI (100)))))) (pc := 57) hx hb hK hP hD hS 6 w6 (((tr) - (1)) * (8) + z) (by omega) (by decide) dX5_takeOff_57 (fun H locs G hP hD hS w6 ho => ?_)
  have w5 := (ho 5 (by decide)).trans w5
  have w6 : G[6]? = some (a 6, .inl (cI, 40, .inl (upd (ink) (((tr) - (1)) * (8) + z) (((ink) (((tr) - (1)) * (8) + z) - (gShare ((ink) (((tr) - (1)) * (8) + z)) ((q * cv)) (nI (10000)) + (((ink) (((tr) - (1)) * (8) + z)) / (nI (100))))))))) := w6
  have hk := gk_step hk ho (by decide)
  clear ho
  refine lv_aload_n (pc := 58) hx hb dX5_takeOff_58 rfl (lv_at hl 3 rfl) ?_
  refine lv_dup (pc := 59) hx hb dX5_takeOff_59 rfl ?_
  refine va_get (ci := 5) (C := RX5) (T := TX5) (N := 6) (pc := 60) hx hb hts hiX5 hown hK hP 5 w5 rfl 4 (by decide) (hts (.fieldLink RX5 29 "InkPress$Train" "onPaper" "I") (by decide +kernel)) (fun _ h9 => h9) rfl dX5_takeOff_60 ?_
  refine lv_iload (pc := 63) hx hb dX5_takeOff_63 (lv_at hl 1 rfl) ?_
  refine lv_iadd (pc := 65) hx hb dX5_takeOff_65 ?_
  refine mx_put (ci := 5) (v := .int ((pap + gShare ((ink) (((tr) - (1)) * (8) + z)) ((q * cv)) (nI (10000))))) (ty := .int) (C := RX5) (T := TX5) (N := 6) (pc := 66) hx hb hts hiX5 tyX5 tyX5_ok nmX5 hown hK hP hD hS 5 w5 rfl 4 (by decide) (hts (.fieldLink RX5 29 "InkPress$Train" "onPaper" "I") (by decide +kernel)) (fun _ h9 => h9) rfl (by decide +kernel) rfl rfl (Nat.le_of_ble_eq_true rfl) dX5_takeOff_66 (fun H locs G hP hD hS w5 ho => ?_)
  have w6 := (ho 6 (by decide)).trans w6
  have w5 : G[5]? = some (a 5, .inr (5, [.ref (a 6), .int (nI (tz)), .int (nI (tr)), .int (fed), .int ((pap + gShare ((ink) (((tr) - (1)) * (8) + z)) ((q * cv)) (nI (10000)))), .int (bar)])) := w5
  have hk := gk_step hk ho (by decide)
  clear ho
  refine lv_aload_n (pc := 69) hx hb dX5_takeOff_69 rfl (lv_at hl 3 rfl) ?_
  refine lv_dup (pc := 70) hx hb dX5_takeOff_70 rfl ?_
  refine va_get (ci := 5) (C := RX5) (T := TX5) (N := 6) (pc := 71) hx hb hts hiX5 hown hK hP 5 w5 rfl 5 (by decide) (hts (.fieldLink RX5 32 "InkPress$Train" "onBars" "I") (by decide +kernel)) (fun _ h9 => h9) rfl dX5_takeOff_71 ?_
  refine lv_iload (pc := 74) hx hb dX5_takeOff_74 (lv_at hl 0 rfl) ?_
  refine lv_iadd (pc := 76) hx hb dX5_takeOff_76 ?_
  refine mx_put (ci := 5) (v := .int ((bar + (((ink) (((tr) - (1)) * (8) + z)) / (nI (100)))))) (ty := .int) (C := RX5) (T := TX5) (N := 6) (pc := 77) hx hb hts hiX5 tyX5 tyX5_ok nmX5 hown hK hP hD hS 5 w5 rfl 5 (by decide) (hts (.fieldLink RX5 32 "InkPress$Train" "onBars" "I") (by decide +kernel)) (fun _ h9 => h9) rfl (by decide +kernel) rfl rfl (Nat.le_of_ble_eq_true rfl) dX5_takeOff_77 (fun H locs G hP hD hS w5 ho => ?_)
  have w6 := (ho 6 (by decide)).trans w6
  have w5 : G[5]? = some (a 5, .inr (5, [.ref (a 6), .int (nI (tz)), .int (nI (tr)), .int (fed), .int ((pap + gShare ((ink) (((tr) - (1)) * (8) + z)) ((q * cv)) (nI (10000)))), .int ((bar + (((ink) (((tr) - (1)) * (8) + z)) / (nI (100)))))])) := w5
  have hk := gk_step hk ho (by decide)
  clear ho
  refine lv_iload (pc := 80) hx hb dX5_takeOff_80 (lv_at hl 0 rfl) ?_
  exact hret _ _ _ _ _ _ hP hD hS rfl ⟨w5, w6, hk⟩ dX5_takeOff_82
set_option maxHeartbeats 4000000 in
set_option maxRecDepth 100000 in
theorem k_X5_inkOn {l : Launch} {D : va_G} {cI cZ : ClassId} {A : Nat → Prop} {g a : Nat → Nat} {G0 : va_W} {ink : Nat → Int32} {tz : Nat} {tr : Nat} {fed : Int32} {pap : Int32} {bar : Int32} (hD : va_D A G0) (w5 : G0[5]? = some (a 5, .inr (5, [.ref (a 6), .int (nI (tz)), .int (nI (tr)), .int (fed), .int (pap), .int (bar)]))) (w6 : G0[6]? = some (a 6, .inl (cI, 40, .inl (ink)))) : gMi l D cI cZ A g yX5_inkOn wsX5_inkOn ({ frames := 0, cells := 0, slots := 0, locals := 0 }) [.ref (a 5)] G0 (gOn 40 0 (nI 0) ink) (fun G1 => G1 = G0) := by
  refine gof_i (cc := cX5_inkOn) (maxL := 3) (by decide) rfl (Nat.le_of_ble_eq_true rfl) hD ?_
  intro p e s m args below meth c Q hx hb hml hts hown hK hN hZ hP hS hret ls hl
  have hown : s.vm.findClass RX5 = some m.cls := hown
  have hl : lv_has ls 3 [(0, .ref (a 5))] := hl
  obtain ⟨locs, elocs⟩ : ∃ q : List Loc, q = [] := ⟨_, rfl⟩
  rw [← elocs] at hS ⊢
  obtain ⟨H, eH⟩ : ∃ q : Heap, q = s.heap := ⟨_, rfl⟩
  have hP : va_P D vwCl G0 H := eH ▸ hP
  have hS : va_S A s.heap H locs := by rw [eH]; exact hS
  rw [← eH]
  clear elocs eH
  have hiX5 : ∀ w ∈ u_ws RX5 TX5 6, w ∈ wsX5_inkOn := by decide +kernel
  have hk : ∀ k, k ∉ ([] : List Nat) → G0[k]? = G0[k]? := fun _ _ => rfl
  refine lv_iconst (v := nI (0)) (pc := 0) hx hb dX5_inkOn_0 (by decide) ?_
  refine lv_istore_n (lv' := [(1, .int (nI (0))), (0, .ref (a 5))]) (pc := 1) hx hb dX5_inkOn_1 rfl hl (by decide) rfl (fun ls hl => ?_)
  refine lv_iconst (v := nI (0)) (pc := 2) hx hb dX5_inkOn_2 (by decide) ?_
  refine lv_istore_n (lv' := [(2, .int (nI (0))), (1, .int (nI (0))), (0, .ref (a 5))]) (pc := 3) hx hb dX5_inkOn_3 rfl hl (by decide) rfl (fun ls hl => ?_)
  have LP : ∀ (k : Nat) (i : Nat) (acc : Int32), i + k = 40 → ∀ (H : Heap) (locs : List Loc) (ls : Array Slot), va_P D vwCl G0 H → va_D A G0 → va_S A s.heap H locs → (∀ j, j ∉ ([] : List Nat) → G0[j]? = G0[j]?) → G0[5]? = some (a 5, .inr (5, [.ref (a 6), .int (nI (tz)), .int (nI (tr)), .int (fed), .int (pap), .int (bar)])) → G0[6]? = some (a 6, .inl (cI, 40, .inl (ink))) → lv_has ls 3 [(0, .ref (a 5)), (1, .int (acc)), (2, .int (nI (i)))] → (∀ (H : Heap) (locs : List Loc) (ls : Array Slot), va_P D vwCl G0 H → va_D A G0 → va_S A s.heap H locs → (∀ j, j ∉ ([] : List Nat) → G0[j]? = G0[j]?) → G0[5]? = some (a 5, .inr (5, [.ref (a 6), .int (nI (tz)), .int (nI (tr)), .int (fed), .int (pap), .int (bar)])) → G0[6]? = some (a 6, .inl (cI, 40, .inl (ink))) → lv_has ls 3 [(0, .ref (a 5)), (1, .int (gOn k i acc ink))] → W p l e ({ frames := 0, cells := 0, slots := 0, locals := 0 } : Room) s m args below meth c H locs 0 0 Q (F0 m 28 ls [])) → W p l e ({ frames := 0, cells := 0, slots := 0, locals := 0 } : Room) s m args below meth c H locs 0 0 Q (F0 m 4 ls []) := by
    intro k
    induction k with
    | zero =>
      intro i acc hi H locs ls hP hD hS hk w5 w6 hl hcont
      refine lv_iload_n (pc := 4) hx hb dX5_inkOn_4 rfl (lv_at hl 2 rfl) ?_
      refine lv_aload_n (pc := 5) hx hb dX5_inkOn_5 rfl (lv_at hl 0 rfl) ?_
      refine va_get (ci := 5) (C := RX5) (T := TX5) (N := 6) (pc := 6) hx hb hts hiX5 hown hK hP 5 w5 rfl 0 (by decide) (hts (.fieldLink RX5 9 "InkPress$Train" "ink" "[I") (by decide +kernel)) (fun _ h9 => h9) rfl dX5_inkOn_6 ?_
      refine va_alen (v := nI 40) (pc := 9) hx hb hK hP 6 0 w6 rfl rfl dX5_inkOn_9 ?_
      refine mx_cge (tgt := 28) (pc := 10) hx hb (by omega) (by omega) dX5_inkOn_10 (by decide) (fun c10 => ?_) (fun c10 => absurd c10 (by omega))
      exact hcont H locs ls hP hD hS hk w5 w6 (lv_sub hl [0, 1] rfl)
    | succ k ih =>
      intro i acc hi H locs ls hP hD hS hk w5 w6 hl hcont
      refine lv_iload_n (pc := 4) hx hb dX5_inkOn_4 rfl (lv_at hl 2 rfl) ?_
      refine lv_aload_n (pc := 5) hx hb dX5_inkOn_5 rfl (lv_at hl 0 rfl) ?_
      refine va_get (ci := 5) (C := RX5) (T := TX5) (N := 6) (pc := 6) hx hb hts hiX5 hown hK hP 5 w5 rfl 0 (by decide) (hts (.fieldLink RX5 9 "InkPress$Train" "ink" "[I") (by decide +kernel)) (fun _ h9 => h9) rfl dX5_inkOn_6 ?_
      refine va_alen (v := nI 40) (pc := 9) hx hb hK hP 6 0 w6 rfl rfl dX5_inkOn_9 ?_
      refine mx_cge (tgt := 28) (pc := 10) hx hb (by omega) (by omega) dX5_inkOn_10 (by decide) (fun c10 => absurd c10 (by omega)) (fun c10 => ?_)
      refine lv_iload_n (pc := 13) hx hb dX5_inkOn_13 rfl (lv_at hl 1 rfl) ?_
      refine lv_aload_n (pc := 14) hx hb dX5_inkOn_14 rfl (lv_at hl 0 rfl) ?_
      refine va_get (ci := 5) (C := RX5) (T := TX5) (N := 6) (pc := 15) hx hb hts hiX5 hown hK hP 5 w5 rfl 0 (by decide) (hts (.fieldLink RX5 9 "InkPress$Train" "ink" "[I") (by decide +kernel)) (fun _ h9 => h9) rfl dX5_inkOn_15 ?_
      refine lv_iload_n (pc := 18) hx hb dX5_inkOn_18 rfl (lv_at hl 2 rfl) ?_
      refine mx_iald (pc := 19) hx hb hK hP 6 w6 (i) (by omega) (by decide) dX5_inkOn_19 ?_
      refine lv_iadd (pc := 20) hx hb dX5_inkOn_20 ?_
      refine lv_istore_n (lv' := [(1, .int ((acc + (ink) (i)))), (0, .ref (a 5)), (2, .int (nI (i)))]) (pc := 21) hx hb dX5_inkOn_21 rfl hl (by decide) rfl (fun ls hl => ?_)
      refine lv_iinc (v := nI (i + 1)) (lv' := [(2, .int (nI (i + 1))), (1, .int ((acc + (ink) (i)))), (0, .ref (a 5))]) (pc := 22) hx hb dX5_inkOn_22 hl (k := 2) rfl (mx_inc1 _) (by decide) rfl (fun ls hl => ?_)
      refine lv_goto (tgt := 4) (pc := 25) hx hb dX5_inkOn_25 (by decide) ?_
      exact ih (i + 1) ((acc + (ink) (i))) (by omega) H locs ls hP hD hS hk w5 w6 (lv_sub hl [2, 1, 0] rfl) hcont
  refine LP 40 (0) (nI 0) (by omega)  H locs ls hP hD hS hk w5 w6 (lv_sub hl [2, 1, 0] rfl) (fun H locs ls hP hD hS hk w5 w6 hl => ?_)
  refine lv_iload_n (pc := 28) hx hb dX5_inkOn_28 rfl (lv_at hl 1 rfl) ?_
  exact hret _ _ _ _ _ _ hP hD hS rfl rfl dX5_inkOn_29
set_option maxHeartbeats 4000000 in
set_option maxRecDepth 100000 in
theorem k_X5_restart {l : Launch} {D : va_G} {cI cZ : ClassId} {A : Nat → Prop} {g a : Nat → Nat} {G0 : va_W} {ink : Nat → Int32} {tz : Nat} {tr : Nat} {fed : Int32} {pap : Int32} {bar : Int32} {n : Nat} {r : Nat} (hD : va_D A G0) (w5 : G0[5]? = some (a 5, .inr (5, [.ref (a 6), .int (nI (tz)), .int (nI (tr)), .int (fed), .int (pap), .int (bar)]))) (w6 : G0[6]? = some (a 6, .inl (cI, 40, .inl (ink)))) : gMv l D cI cZ A g yX5_restart wsX5_restart ({ frames := 0, cells := 0, slots := 0, locals := 0 }) [.ref (a 5), .int (nI (n)), .int (nI (r))] G0 (fun G1 => G1[5]? = some (a 5, .inr (5, [.ref (a 6), .int (nI (n)), .int (nI (r)), .int (nI (0)), .int (nI (0)), .int (nI (0))])) ∧ G1[6]? = some (a 6, .inl (cI, 40, .inl (gClr 40 0 ink))) ∧ ∀ k, k ∉ [5, 6] → G1[k]? = G0[k]?) := by
  refine gof_v (cc := cX5_restart) (maxL := 4) (by decide) rfl (Nat.le_of_ble_eq_true rfl) hD ?_
  intro p e s m args below meth c Q hx hb hml hts hown hK hN hZ hP hS hret ls hl
  have hown : s.vm.findClass RX5 = some m.cls := hown
  have hl : lv_has ls 4 [(0, .ref (a 5)), (1, .int (nI (n))), (2, .int (nI (r)))] := hl
  obtain ⟨locs, elocs⟩ : ∃ q : List Loc, q = [] := ⟨_, rfl⟩
  rw [← elocs] at hS ⊢
  obtain ⟨H, eH⟩ : ∃ q : Heap, q = s.heap := ⟨_, rfl⟩
  have hP : va_P D vwCl G0 H := eH ▸ hP
  have hS : va_S A s.heap H locs := by rw [eH]; exact hS
  rw [← eH]
  clear elocs eH
  have hiX5 : ∀ w ∈ u_ws RX5 TX5 6, w ∈ wsX5_restart := by decide +kernel
  have hk : ∀ k, k ∉ [5, 6] → G0[k]? = G0[k]? := fun _ _ => rfl
  refine lv_aload_n (pc := 0) hx hb dX5_restart_0 rfl (lv_at hl 0 rfl) ?_
  refine lv_iload_n (pc := 1) hx hb dX5_restart_1 rfl (lv_at hl 1 rfl) ?_
  refine mx_put (ci := 5) (v := .int (nI (n))) (ty := .int) (C := RX5) (T := TX5) (N := 6) (pc := 2) hx hb hts hiX5 tyX5 tyX5_ok nmX5 hown hK hP hD hS 5 w5 rfl 1 (by decide) (hts (.fieldLink RX5 19 "InkPress$Train" "zones" "I") (by decide +kernel)) (fun _ h9 => h9) rfl (by decide +kernel) rfl rfl (Nat.le_of_ble_eq_true rfl) dX5_restart_2 (fun H locs G hP hD hS w5 ho => ?_)
  have w6 := (ho 6 (by decide)).trans w6
  have w5 : G[5]? = some (a 5, .inr (5, [.ref (a 6), .int (nI (n)), .int (nI (tr)), .int (fed), .int (pap), .int (bar)])) := w5
  have hk := gk_step hk ho (by decide)
  clear ho
  refine lv_aload_n (pc := 5) hx hb dX5_restart_5 rfl (lv_at hl 0 rfl) ?_
  refine lv_iload_n (pc := 6) hx hb dX5_restart_6 rfl (lv_at hl 2 rfl) ?_
  refine mx_put (ci := 5) (v := .int (nI (r))) (ty := .int) (C := RX5) (T := TX5) (N := 6) (pc := 7) hx hb hts hiX5 tyX5 tyX5_ok nmX5 hown hK hP hD hS 5 w5 rfl 2 (by decide) (hts (.fieldLink RX5 23 "InkPress$Train" "rollers" "I") (by decide +kernel)) (fun _ h9 => h9) rfl (by decide +kernel) rfl rfl (Nat.le_of_ble_eq_true rfl) dX5_restart_7 (fun H locs G hP hD hS w5 ho => ?_)
  have w6 := (ho 6 (by decide)).trans w6
  have w5 : G[5]? = some (a 5, .inr (5, [.ref (a 6), .int (nI (n)), .int (nI (r)), .int (fed), .int (pap), .int (bar)])) := w5
  have hk := gk_step hk ho (by decide)
  clear ho
  refine lv_aload_n (pc := 10) hx hb dX5_restart_10 rfl (lv_at hl 0 rfl) ?_
  refine lv_iconst (v := nI (0)) (pc := 11) hx hb dX5_restart_11 (by decide) ?_
  refine mx_put (ci := 5) (v := .int (nI (0))) (ty := .int) (C := RX5) (T := TX5) (N := 6) (pc := 12) hx hb hts hiX5 tyX5 tyX5_ok nmX5 hown hK hP hD hS 5 w5 rfl 3 (by decide) (hts (.fieldLink RX5 26 "InkPress$Train" "fed" "I") (by decide +kernel)) (fun _ h9 => h9) rfl (by decide +kernel) rfl rfl (Nat.le_of_ble_eq_true rfl) dX5_restart_12 (fun H locs G hP hD hS w5 ho => ?_)
  have w6 := (ho 6 (by decide)).trans w6
  have w5 : G[5]? = some (a 5, .inr (5, [.ref (a 6), .int (nI (n)), .int (nI (r)), .int (nI (0)), .int (pap), .int (bar)])) := w5
  have hk := gk_step hk ho (by decide)
  clear ho
  refine lv_aload_n (pc := 15) hx hb dX5_restart_15 rfl (lv_at hl 0 rfl) ?_
  refine lv_iconst (v := nI (0)) (pc := 16) hx hb dX5_restart_16 (by decide) ?_
  refine mx_put (ci := 5) (v := .int (nI (0))) (ty := .int) (C := RX5) (T := TX5) (N := 6) (pc := 17) hx hb hts hiX5 tyX5 tyX5_ok nmX5 hown hK hP hD hS 5 w5 rfl 4 (by decide) (hts (.fieldLink RX5 29 "InkPress$Train" "onPaper" "I") (by decide +kernel)) (fun _ h9 => h9) rfl (by decide +kernel) rfl rfl (Nat.le_of_ble_eq_true rfl) dX5_restart_17 (fun H locs G hP hD hS w5 ho => ?_)
  have w6 := (ho 6 (by decide)).trans w6
  have w5 : G[5]? = some (a 5, .inr (5, [.ref (a 6), .int (nI (n)), .int (nI (r)), .int (nI (0)), .int (nI (0)), .int (bar)])) := w5
  have hk := gk_step hk ho (by decide)
  clear ho
  refine lv_aload_n (pc := 20) hx hb dX5_restart_20 rfl (lv_at hl 0 rfl) ?_
  refine lv_iconst (v := nI (0)) (pc := 21) hx hb dX5_restart_21 (by decide) ?_
  refine mx_put (ci := 5) (v := .int (nI (0))) (ty := .int) (C := RX5) (T := TX5) (N := 6) (pc := 22) hx hb hts hiX5 tyX5 tyX5_ok nmX5 hown hK hP hD hS 5 w5 rfl 5 (by decide) (hts (.fieldLink RX5 32 "InkPress$Train" "onBars" "I") (by decide +kernel)) (fun _ h9 => h9) rfl (by decide +kernel) rfl rfl (Nat.le_of_ble_eq_true rfl) dX5_restart_22 (fun H locs G hP hD hS w5 ho => ?_)
  have w6 := (ho 6 (by decide)).trans w6
  have w5 : G[5]? = some (a 5, .inr (5, [.ref (a 6), .int (nI (n)), .int (nI (r)), .int (nI (0)), .int (nI (0)), .int (nI (0))])) := w5
  have hk := gk_step hk ho (by decide)
  clear ho
  refine lv_iconst (v := nI (0)) (pc := 25) hx hb dX5_restart_25 (by decide) ?_
  refine lv_istore_n (lv' := [(3, .int (nI (0))), (0, .ref (a 5)), (1, .int (nI (n))), (2, .int (nI (r)))]) (pc := 26) hx hb dX5_restart_26 rfl hl (by decide) rfl (fun ls hl => ?_)
  have LP : ∀ (k : Nat) (i : Nat) (ink : Nat → Int32), i + k = 40 → ∀ (G : va_W) (H : Heap) (locs : List Loc) (ls : Array Slot), va_P D vwCl G H → va_D A G → va_S A s.heap H locs → (∀ j, j ∉ [5, 6] → G[j]? = G0[j]?) → G[5]? = some (a 5, .inr (5, [.ref (a 6), .int (nI (n)), .int (nI (r)), .int (nI (0)), .int (nI (0)), .int (nI (0))])) → G[6]? = some (a 6, .inl (cI, 40, .inl (ink))) → lv_has ls 4 [(0, .ref (a 5)), (3, .int (nI (i)))] → (∀ (G : va_W) (H : Heap) (locs : List Loc) (ls : Array Slot), va_P D vwCl G H → va_D A G → va_S A s.heap H locs → (∀ j, j ∉ [5, 6] → G[j]? = G0[j]?) → G[5]? = some (a 5, .inr (5, [.ref (a 6), .int (nI (n)), .int (nI (r)), .int (nI (0)), .int (nI (0)), .int (nI (0))])) → G[6]? = some (a 6, .inl (cI, 40, .inl (gClr k i ink))) → lv_has ls 4 [(0, .ref (a 5))] → W p l e ({ frames := 0, cells := 0, slots := 0, locals := 0 } : Room) s m args below meth c H locs 0 0 Q (F0 m 49 ls [])) → W p l e ({ frames := 0, cells := 0, slots := 0, locals := 0 } : Room) s m args below meth c H locs 0 0 Q (F0 m 27 ls []) := by
    intro k
    induction k with
    | zero =>
      intro i ink hi G H locs ls hP hD hS hk w5 w6 hl hcont
      refine lv_iload_n (pc := 27) hx hb dX5_restart_27 rfl (lv_at hl 1 rfl) ?_
      refine lv_aload_n (pc := 28) hx hb dX5_restart_28 rfl (lv_at hl 0 rfl) ?_
      refine va_get (ci := 5) (C := RX5) (T := TX5) (N := 6) (pc := 29) hx hb hts hiX5 hown hK hP 5 w5 rfl 0 (by decide) (hts (.fieldLink RX5 9 "InkPress$Train" "ink" "[I") (by decide +kernel)) (fun _ h9 => h9) rfl dX5_restart_29 ?_
      refine va_alen (v := nI 40) (pc := 32) hx hb hK hP 6 0 w6 rfl rfl dX5_restart_32 ?_
      refine mx_cge (tgt := 49) (pc := 33) hx hb (by omega) (by omega) dX5_restart_33 (by decide) (fun c33 => ?_) (fun c33 => absurd c33 (by omega))
      exact hcont G H locs ls hP hD hS hk w5 w6 (lv_sub hl [0] rfl)
    | succ k ih =>
      intro i ink hi G H locs ls hP hD hS hk w5 w6 hl hcont
      refine lv_iload_n (pc := 27) hx hb dX5_restart_27 rfl (lv_at hl 1 rfl) ?_
      refine lv_aload_n (pc := 28) hx hb dX5_restart_28 rfl (lv_at hl 0 rfl) ?_
      refine va_get (ci := 5) (C := RX5) (T := TX5) (N := 6) (pc := 29) hx hb hts hiX5 hown hK hP 5 w5 rfl 0 (by decide) (hts (.fieldLink RX5 9 "InkPress$Train" "ink" "[I") (by decide +kernel)) (fun _ h9 => h9) rfl dX5_restart_29 ?_
      refine va_alen (v := nI 40) (pc := 32) hx hb hK hP 6 0 w6 rfl rfl dX5_restart_32 ?_
      refine mx_cge (tgt := 49) (pc := 33) hx hb (by omega) (by omega) dX5_restart_33 (by decide) (fun c33 => absurd c33 (by omega)) (fun c33 => ?_)
      refine lv_aload_n (pc := 36) hx hb dX5_restart_36 rfl (lv_at hl 0 rfl) ?_
      refine va_get (ci := 5) (C := RX5) (T := TX5) (N := 6) (pc := 37) hx hb hts hiX5 hown hK hP 5 w5 rfl 0 (by decide) (hts (.fieldLink RX5 9 "InkPress$Train" "ink" "[I") (by decide +kernel)) (fun _ h9 => h9) rfl dX5_restart_37 ?_
      refine lv_iload_n (pc := 40) hx hb dX5_restart_40 rfl (lv_at hl 1 rfl) ?_
      refine lv_iconst (v := nI (0)) (pc := 41) hx hb dX5_restart_41 (by decide) ?_
      refine mx_iast (x := nI (0)) (pc := 42) hx hb hK hP hD hS 6 w6 (i) (by omega) (by decide) dX5_restart_42 (fun H locs G hP hD hS w6 ho => ?_)
      have w5 := (ho 5 (by decide)).trans w5
      have w6 : G[6]? = some (a 6, .inl (cI, 40, .inl (upd (ink) (i) (nI (0))))) := w6
      have hk := gk_step hk ho (by decide)
      clear ho
      refine lv_iinc (v := nI (i + 1)) (lv' := [(3, .int (nI (i + 1))), (0, .ref (a 5))]) (pc := 43) hx hb dX5_restart_43 hl (k := 1) rfl (mx_inc1 _) (by decide) rfl (fun ls hl => ?_)
      refine lv_goto (tgt := 27) (pc := 46) hx hb dX5_restart_46 (by decide) ?_
      exact ih (i + 1) (upd (ink) (i) (nI (0))) (by omega) G H locs ls hP hD hS hk w5 w6 (lv_sub hl [1, 0] rfl) hcont
  refine LP 40 (0) (ink) (by omega) G H locs ls hP hD hS hk w5 w6 (lv_sub hl [1, 0] rfl) (fun G H locs ls hP hD hS hk w5 w6 hl => ?_)
  have w6 : G[6]? = some (a 6, .inl (cI, 40, .inl (gClr (40) (0) (ink)))) := w6
  exact hret _ _ _ _ _ hP hD hS ⟨w5, w6, hk⟩ dX5_restart_49
set_option maxHeartbeats 4000000 in
set_option maxRecDepth 100000 in
theorem k_X5_passOn {l : Launch} {D : va_G} {cI cZ : ClassId} {A : Nat → Prop} {g a : Nat → Nat} {G0 : va_W} {ink : Nat → Int32} {tz : Nat} {tr : Nat} {fed : Int32} {pap : Int32} {bar : Int32} {q : Int32} (hD : va_D A G0) (w5 : G0[5]? = some (a 5, .inr (5, [.ref (a 6), .int (nI (tz)), .int (nI (tr)), .int (fed), .int (pap), .int (bar)]))) (w6 : G0[6]? = some (a 6, .inl (cI, 40, .inl (ink)))) (hz8 : tz ≤ 8) (hr1 : 1 ≤ tr) (hr5 : tr ≤ 5) : gMv l D cI cZ A g yX5_passOn wsX5_passOn ({ frames := 1, cells := 0, slots := 0, locals := 22 }) [.ref (a 5), .int (q)] G0 (fun G1 => G1[6]? = some (a 6, .inl (cI, 40, .inl (gPr q tz (tr - 1) 0 ink))) ∧ ∀ k, k ∉ [6] → G1[k]? = G0[k]?) := by
  refine gof_v (cc := cX5_passOn) (maxL := 6) (by decide) rfl (Nat.le_of_ble_eq_true rfl) hD ?_
  intro p e s m args below meth c Q hx hb hml hts hown hK hN hZ hP hS hret ls hl
  have hown : s.vm.findClass RX5 = some m.cls := hown
  have hl : lv_has ls 6 [(0, .ref (a 5)), (1, .int (q))] := hl
  obtain ⟨locs, elocs⟩ : ∃ q : List Loc, q = [] := ⟨_, rfl⟩
  rw [← elocs] at hS ⊢
  obtain ⟨H, eH⟩ : ∃ q : Heap, q = s.heap := ⟨_, rfl⟩
  have hP : va_P D vwCl G0 H := eH ▸ hP
  have hS : va_S A s.heap H locs := by rw [eH]; exact hS
  rw [← eH]
  clear elocs eH
  have hiX5 : ∀ w ∈ u_ws RX5 TX5 6, w ∈ wsX5_passOn := by decide +kernel
  have hk : ∀ k, k ∉ [6] → G0[k]? = G0[k]? := fun _ _ => rfl
  refine lv_iconst (v := nI (0)) (pc := 0) hx hb dX5_passOn_0 (by decide) ?_
  refine lv_istore_n (lv' := [(2, .int (nI (0))), (0, .ref (a 5)), (1, .int (q))]) (pc := 1) hx hb dX5_passOn_1 rfl hl (by decide) rfl (fun ls hl => ?_)
  have LP : ∀ (k : Nat) (r : Nat) (ink : Nat → Int32), r + 1 + k = tr → ∀ (G : va_W) (H : Heap) (locs : List Loc) (ls : Array Slot), va_P D vwCl G H → va_D A G → va_S A s.heap H locs → (∀ j, j ∉ [6] → G[j]? = G0[j]?) → G[5]? = some (a 5, .inr (5, [.ref (a 6), .int (nI (tz)), .int (nI (tr)), .int (fed), .int (pap), .int (bar)])) → G[6]? = some (a 6, .inl (cI, 40, .inl (ink))) → lv_has ls 6 [(0, .ref (a 5)), (1, .int (q)), (2, .int (nI (r)))] → (∀ (G : va_W) (H : Heap) (locs : List Loc) (ls : Array Slot), va_P D vwCl G H → va_D A G → va_S A s.heap H locs → (∀ j, j ∉ [6] → G[j]? = G0[j]?) → G[5]? = some (a 5, .inr (5, [.ref (a 6), .int (nI (tz)), .int (nI (tr)), .int (fed), .int (pap), .int (bar)])) → G[6]? = some (a 6, .inl (cI, 40, .inl (gPr q tz k r ink))) → lv_has ls 6 [(0, .ref (a 5))] → W p l e ({ frames := 1, cells := 0, slots := 0, locals := 22 } : Room) s m args below meth c H locs 0 0 Q (F0 m 84 ls [])) → W p l e ({ frames := 1, cells := 0, slots := 0, locals := 22 } : Room) s m args below meth c H locs 0 0 Q (F0 m 2 ls []) := by
    intro k
    induction k with
    | zero =>
      intro r ink hr G H locs ls hP hD hS hk w5 w6 hl hcont
      refine lv_iload_n (pc := 2) hx hb dX5_passOn_2 rfl (lv_at hl 2 rfl) ?_
      refine lv_iconst (v := nI (1)) (pc := 3) hx hb dX5_passOn_3 (by decide) ?_
      refine mx_iadd (pc := 4) hx hb dX5_passOn_4 ?_
      refine lv_aload_n (pc := 5) hx hb dX5_passOn_5 rfl (lv_at hl 0 rfl) ?_
      refine va_get (ci := 5) (C := RX5) (T := TX5) (N := 6) (pc := 6) hx hb hts hiX5 hown hK hP 5 w5 rfl 2 (by decide) (hts (.fieldLink RX5 23 "InkPress$Train" "rollers" "I") (by decide +kernel)) (fun _ h9 => h9) rfl dX5_passOn_6 ?_
      refine mx_cge (tgt := 84) (pc := 9) hx hb (by omega) (by omega) dX5_passOn_9 (by decide) (fun c9 => ?_) (fun c9 => absurd c9 (by omega))
      exact hcont G H locs ls hP hD hS hk w5 w6 (lv_sub hl [0] rfl)
    | succ k ih =>
      intro r ink hr G H locs ls hP hD hS hk w5 w6 hl hcont
      refine lv_iload_n (pc := 2) hx hb dX5_passOn_2 rfl (lv_at hl 2 rfl) ?_
      refine lv_iconst (v := nI (1)) (pc := 3) hx hb dX5_passOn_3 (by decide) ?_
      refine mx_iadd (pc := 4) hx hb dX5_passOn_4 ?_
      refine lv_aload_n (pc := 5) hx hb dX5_passOn_5 rfl (lv_at hl 0 rfl) ?_
      refine va_get (ci := 5) (C := RX5) (T := TX5) (N := 6) (pc := 6) hx hb hts hiX5 hown hK hP 5 w5 rfl 2 (by decide) (hts (.fieldLink RX5 23 "InkPress$Train" "rollers" "I") (by decide +kernel)) (fun _ h9 => h9) rfl dX5_passOn_6 ?_
      refine mx_cge (tgt := 84) (pc := 9) hx hb (by omega) (by omega) dX5_passOn_9 (by decide) (fun c9 => absurd c9 (by omega)) (fun c9 => ?_)
      refine lv_iconst (v := nI (0)) (pc := 12) hx hb dX5_passOn_12 (by decide) ?_
      refine lv_istore_n (lv' := [(3, .int (nI (0))), (0, .ref (a 5)), (1, .int (q)), (2, .int (nI (r)))]) (pc := 13) hx hb dX5_passOn_13 rfl hl (by decide) rfl (fun ls hl => ?_)
      have LZ : ∀ (j : Nat) (z : Nat) (ink : Nat → Int32), z + j = tz → ∀ (G : va_W) (H : Heap) (locs : List Loc) (ls : Array Slot), va_P D vwCl G H → va_D A G → va_S A s.heap H locs → (∀ j, j ∉ [6] → G[j]? = G0[j]?) → G[5]? = some (a 5, .inr (5, [.ref (a 6), .int (nI (tz)), .int (nI (tr)), .int (fed), .int (pap), .int (bar)])) → G[6]? = some (a 6, .inl (cI, 40, .inl (ink))) → lv_has ls 6 [(0, .ref (a 5)), (1, .int (q)), (2, .int (nI (r))), (3, .int (nI (z)))] → (∀ (G : va_W) (H : Heap) (locs : List Loc) (ls : Array Slot), va_P D vwCl G H → va_D A G → va_S A s.heap H locs → (∀ j, j ∉ [6] → G[j]? = G0[j]?) → G[5]? = some (a 5, .inr (5, [.ref (a 6), .int (nI (tz)), .int (nI (tr)), .int (fed), .int (pap), .int (bar)])) → G[6]? = some (a 6, .inl (cI, 40, .inl (gPz q r j z ink))) → lv_has ls 6 [(0, .ref (a 5)), (1, .int (q)), (2, .int (nI (r)))] → W p l e ({ frames := 1, cells := 0, slots := 0, locals := 22 } : Room) s m args below meth c H locs 0 0 Q (F0 m 78 ls [])) → W p l e ({ frames := 1, cells := 0, slots := 0, locals := 22 } : Room) s m args below meth c H locs 0 0 Q (F0 m 14 ls []) := by
        intro j
        induction j with
        | zero =>
          intro z ink hz G H locs ls hP hD hS hk w5 w6 hl hcont
          refine lv_iload_n (pc := 14) hx hb dX5_passOn_14 rfl (lv_at hl 3 rfl) ?_
          refine lv_aload_n (pc := 15) hx hb dX5_passOn_15 rfl (lv_at hl 0 rfl) ?_
          refine va_get (ci := 5) (C := RX5) (T := TX5) (N := 6) (pc := 16) hx hb hts hiX5 hown hK hP 5 w5 rfl 1 (by decide) (hts (.fieldLink RX5 19 "InkPress$Train" "zones" "I") (by decide +kernel)) (fun _ h9 => h9) rfl dX5_passOn_16 ?_
          refine mx_cge (tgt := 78) (pc := 19) hx hb (by omega) (by omega) dX5_passOn_19 (by decide) (fun c19 => ?_) (fun c19 => absurd c19 (by omega))
          exact hcont G H locs ls hP hD hS hk w5 w6 (lv_sub hl [0, 1, 2] rfl)
        | succ j ih =>
          intro z ink hz G H locs ls hP hD hS hk w5 w6 hl hcont
          refine lv_iload_n (pc := 14) hx hb dX5_passOn_14 rfl (lv_at hl 3 rfl) ?_
          refine lv_aload_n (pc := 15) hx hb dX5_passOn_15 rfl (lv_at hl 0 rfl) ?_
          refine va_get (ci := 5) (C := RX5) (T := TX5) (N := 6) (pc := 16) hx hb hts hiX5 hown hK hP 5 w5 rfl 1 (by decide) (hts (.fieldLink RX5 19 "InkPress$Train" "zones" "I") (by decide +kernel)) (fun _ h9 => h9) rfl dX5_passOn_16 ?_
          refine mx_cge (tgt := 78) (pc := 19) hx hb (by omega) (by omega) dX5_passOn_19 (by decide) (fun c19 => absurd c19 (by omega)) (fun c19 => ?_)
          refine lv_iload_n (pc := 22) hx hb dX5_passOn_22 rfl (lv_at hl 2 rfl) ?_
          refine lv_bipush (v := nI (8)) (pc := 23) hx hb dX5_passOn_23 (by decide) ?_
          refine mx_imul (pc := 25) hx hb dX5_passOn_25 ?_
          refine lv_iload_n (pc := 26) hx hb dX5_passOn_26 rfl (lv_at hl 3 rfl) ?_
          refine mx_iadd (pc := 27) hx hb dX5_passOn_27 ?_
          refine lv_istore (lv' := [(4, .int (nI ((r) * (8) + z))), (0, .ref (a 5)), (1, .int (q)), (2, .int (nI (r))), (3, .int (nI (z)))]) (pc := 28) hx hb dX5_passOn_28 hl (by decide) rfl (fun ls hl => ?_)
          refine lv_aload_n (pc := 30) hx hb dX5_passOn_30 rfl (lv_at hl 1 rfl) ?_
          refine va_get (ci := 5) (C := RX5) (T := TX5) (N := 6) (pc := 31) hx hb hts hiX5 hown hK hP 5 w5 rfl 0 (by decide) (hts (.fieldLink RX5 9 "InkPress$Train" "ink" "[I") (by decide +kernel)) (fun _ h9 => h9) rfl dX5_passOn_31 ?_
          refine lv_iload (pc := 34) hx hb dX5_passOn_34 (lv_at hl 0 rfl) ?_
          refine mx_iald (pc := 36) hx hb hK hP 6 w6 ((r) * (8) + z) (by omega) (by decide) dX5_passOn_36 ?_
          refine lv_iload_n (pc := 37) hx hb dX5_passOn_37 rfl (lv_at hl 2 rfl) ?_
          refine lv_bipush (v := nI (100)) (pc := 38) hx hb dX5_passOn_38 (by decide) ?_
          refine mx_cSi (As := [.int ((ink) ((r) * (8) + z)), .int (q), .int (nI (100))]) (rest := []) (pc := 40) ⟨hx, hb, hml, hown, hts⟩ (k_X5_share (a := a) (x := (ink) ((r) * (8) + z)) (q := q) (n := nI (100)) hD  (by decide)) (va_cwS 3 hts gX5_passOn_X5_share rfl rfl rfl (by decide +kernel) ⟨Nat.le_of_ble_eq_true rfl, Nat.le_of_ble_eq_true rfl⟩) hK hN hZ hP hS rfl hl.1 rfl (Nat.le_of_ble_eq_true rfl) dX5_passOn_40 ⟨Nat.zero_le _, Nat.zero_le _⟩ (fun G' H locs hP hD hS hB => ?_)
          rw [hB] at hP hD
          clear hB G'
          refine lv_istore (lv' := [(5, .int (gShare ((ink) ((r) * (8) + z)) (q) (nI (100)))), (4, .int (nI ((r) * (8) + z))), (0, .ref (a 5)), (1, .int (q)), (2, .int (nI (r))), (3, .int (nI (z)))]) (pc := 43) hx hb dX5_passOn_43 hl (by decide) rfl (fun ls hl => ?_)
          refine lv_aload_n (pc := 45) hx hb dX5_passOn_45 rfl (lv_at hl 2 rfl) ?_
          refine va_get (ci := 5) (C := RX5) (T := TX5) (N := 6) (pc := 46) hx hb hts hiX5 hown hK hP 5 w5 rfl 0 (by decide) (hts (.fieldLink RX5 9 "InkPress$Train" "ink" "[I") (by decide +kernel)) (fun _ h9 => h9) rfl dX5_passOn_46 ?_
          refine lv_iload (pc := 49) hx hb dX5_passOn_49 (lv_at hl 1 rfl) ?_
          refine lv_dup2_11 (pc := 51) hx hb dX5_passOn_51 rfl rfl ?_
          refine mx_iald (pc := 52) hx hb hK hP 6 w6 ((r) * (8) + z) (by omega) (by decide) dX5_passOn_52 ?_
          refine lv_iload (pc := 53) hx hb dX5_passOn_53 (lv_at hl 0 rfl) ?_
          refine lv_isub (pc := 55) hx hb dX5_passOn_55 ?_
          refine mx_iast (x := ((ink) ((r) * (8) + z) - gShare ((ink) ((r) * (8) + z)) (q) (nI (100)))) (pc := 56) hx hb hK hP hD hS 6 w6 ((r) * (8) + z) (by omega) (by decide) dX5_passOn_56 (fun H locs G hP hD hS w6 ho => ?_)
          have w5 := (ho 5 (by decide)).trans w5
          have w6 : G[6]? = some (a 6, .inl (cI, 40, .inl (upd (ink) ((r) * (8) + z) (((ink) ((r) * (8) + z) - gShare ((ink) ((r) * (8) + z)) (q) (nI (100))))))) := w6
          have hk := gk_step hk ho (by decide)
          clear ho
          refine lv_aload_n (pc := 57) hx hb dX5_passOn_57 rfl (lv_at hl 2 rfl) ?_
          refine va_get (ci := 5) (C := RX5) (T := TX5) (N := 6) (pc := 58) hx hb hts hiX5 hown hK hP 5 w5 rfl 0 (by decide) (hts (.fieldLink RX5 9 "InkPress$Train" "ink" "[I") (by decide +kernel)) (fun _ h9 => h9) rfl dX5_passOn_58 ?_
          refine lv_iload (pc := 61) hx hb dX5_passOn_61 (lv_at hl 1 rfl) ?_
          refine lv_bipush (v := nI (8)) (pc := 63) hx hb dX5_passOn_63 (by decide) ?_
          refine mx_iadd (pc := 65) hx hb dX5_passOn_65 ?_
          refine lv_dup2_11 (pc := 66) hx hb dX5_passOn_66 rfl rfl ?_
          refine mx_iald (pc := 67) hx hb hK hP 6 w6 ((r) * (8) + z + 8) (by omega) (by decide) dX5_passOn_67 ?_
          refine lv_iload (pc := 68) hx hb dX5_passOn_68 (lv_at hl 0 rfl) ?_
          refine lv_iadd (pc := 70) hx hb dX5_passOn_70 ?_
          refine mx_iast (x := ((upd (ink) ((r) * (8) + z) (((ink) ((r) * (8) + z) - gShare ((ink) ((r) * (8) + z)) (q) (nI (100))))) ((r) * (8) + z + 8) + gShare ((ink) ((r) * (8) + z)) (q) (nI (100)))) (pc := 71) hx hb hK hP hD hS 6 w6 ((r) * (8) + z + 8) (by omega) (by decide) dX5_passOn_71 (fun H locs G hP hD hS w6 ho => ?_)
          have w5 := (ho 5 (by decide)).trans w5
          have w6 : G[6]? = some (a 6, .inl (cI, 40, .inl (upd (upd (ink) ((r) * (8) + z) (((ink) ((r) * (8) + z) - gShare ((ink) ((r) * (8) + z)) (q) (nI (100))))) ((r) * (8) + z + 8) (((upd (ink) ((r) * (8) + z) (((ink) ((r) * (8) + z) - gShare ((ink) ((r) * (8) + z)) (q) (nI (100))))) ((r) * (8) + z + 8) + gShare ((ink) ((r) * (8) + z)) (q) (nI (100))))))) := w6
          have hk := gk_step hk ho (by decide)
          clear ho
          refine lv_iinc (v := nI (z + 1)) (lv' := [(3, .int (nI (z + 1))), (5, .int (gShare ((ink) ((r) * (8) + z)) (q) (nI (100)))), (4, .int (nI ((r) * (8) + z))), (0, .ref (a 5)), (1, .int (q)), (2, .int (nI (r)))]) (pc := 72) hx hb dX5_passOn_72 hl (k := 5) rfl (mx_inc1 _) (by decide) rfl (fun ls hl => ?_)
          refine lv_goto (tgt := 14) (pc := 75) hx hb dX5_passOn_75 (by decide) ?_
          exact ih (z + 1) (gP1 q r z ink) (by omega) G H locs ls hP hD hS hk w5 w6 (lv_sub hl [3, 4, 5, 0] rfl) hcont
      refine LZ tz (0) (ink) (by omega) G H locs ls hP hD hS hk w5 w6 (lv_sub hl [1, 2, 3, 0] rfl) (fun G H locs ls hP hD hS hk w5 w6 hl => ?_)
      have w6 : G[6]? = some (a 6, .inl (cI, 40, .inl (gPz q r (tz) (0) (ink)))) := w6
      refine lv_iinc (v := nI (r + 1)) (lv' := [(2, .int (nI (r + 1))), (0, .ref (a 5)), (1, .int (q))]) (pc := 78) hx hb dX5_passOn_78 hl (k := 2) rfl (mx_inc1 _) (by decide) rfl (fun ls hl => ?_)
      refine lv_goto (tgt := 2) (pc := 81) hx hb dX5_passOn_81 (by decide) ?_
      exact ih (r + 1) (gPz q r (tz) (0) (ink)) (by omega) G H locs ls hP hD hS hk w5 w6 (lv_sub hl [1, 2, 0] rfl) hcont
  refine LP (tr - 1) (0) (ink) (by omega) G0 H locs ls hP hD hS hk w5 w6 (lv_sub hl [1, 2, 0] rfl) (fun G H locs ls hP hD hS hk w5 w6 hl => ?_)
  have w6 : G[6]? = some (a 6, .inl (cI, 40, .inl (gPr q tz ((tr - 1)) (0) (ink)))) := w6
  exact hret _ _ _ _ _ hP hD hS ⟨w6, hk⟩ dX5_passOn_84
set_option maxHeartbeats 4000000 in
set_option maxRecDepth 100000 in
theorem k_X5_driftAside {l : Launch} {D : va_G} {cI cZ : ClassId} {A : Nat → Prop} {g a : Nat → Nat} {G0 : va_W} {ink : Nat → Int32} {tz : Nat} {tr : Nat} {fed : Int32} {pap : Int32} {bar : Int32} {q : Int32} (hD : va_D A G0) (w5 : G0[5]? = some (a 5, .inr (5, [.ref (a 6), .int (nI (tz)), .int (nI (tr)), .int (fed), .int (pap), .int (bar)]))) (w6 : G0[6]? = some (a 6, .inl (cI, 40, .inl (ink)))) (hz1 : 1 ≤ tz) (hz8 : tz ≤ 8) (hr5 : tr ≤ 5) : gMv l D cI cZ A g yX5_driftAside wsX5_driftAside ({ frames := 1, cells := 0, slots := 0, locals := 22 }) [.ref (a 5), .int (q)] G0 (fun G1 => G1[6]? = some (a 6, .inl (cI, 40, .inl (gDr q tz tr 0 ink))) ∧ ∀ k, k ∉ [6] → G1[k]? = G0[k]?) := by
  refine gof_v (cc := cX5_driftAside) (maxL := 7) (by decide) rfl (Nat.le_of_ble_eq_true rfl) hD ?_
  intro p e s m args below meth c Q hx hb hml hts hown hK hN hZ hP hS hret ls hl
  have hown : s.vm.findClass RX5 = some m.cls := hown
  have hl : lv_has ls 7 [(0, .ref (a 5)), (1, .int (q))] := hl
  obtain ⟨locs, elocs⟩ : ∃ q : List Loc, q = [] := ⟨_, rfl⟩
  rw [← elocs] at hS ⊢
  obtain ⟨H, eH⟩ : ∃ q : Heap, q = s.heap := ⟨_, rfl⟩
  have hP : va_P D vwCl G0 H := eH ▸ hP
  have hS : va_S A s.heap H locs := by rw [eH]; exact hS
  rw [← eH]
  clear elocs eH
  have hiX5 : ∀ w ∈ u_ws RX5 TX5 6, w ∈ wsX5_driftAside := by decide +kernel
  have hk : ∀ k, k ∉ [6] → G0[k]? = G0[k]? := fun _ _ => rfl
  refine lv_iconst (v := nI (0)) (pc := 0) hx hb dX5_driftAside_0 (by decide) ?_
  refine lv_istore_n (lv' := [(2, .int (nI (0))), (0, .ref (a 5)), (1, .int (q))]) (pc := 1) hx hb dX5_driftAside_1 rfl hl (by decide) rfl (fun ls hl => ?_)
  have LP : ∀ (k : Nat) (r : Nat) (ink : Nat → Int32), r + k = tr → ∀ (G : va_W) (H : Heap) (locs : List Loc) (ls : Array Slot), va_P D vwCl G H → va_D A G → va_S A s.heap H locs → (∀ j, j ∉ [6] → G[j]? = G0[j]?) → G[5]? = some (a 5, .inr (5, [.ref (a 6), .int (nI (tz)), .int (nI (tr)), .int (fed), .int (pap), .int (bar)])) → G[6]? = some (a 6, .inl (cI, 40, .inl (ink))) → lv_has ls 7 [(0, .ref (a 5)), (1, .int (q)), (2, .int (nI (r)))] → (∀ (G : va_W) (H : Heap) (locs : List Loc) (ls : Array Slot), va_P D vwCl G H → va_D A G → va_S A s.heap H locs → (∀ j, j ∉ [6] → G[j]? = G0[j]?) → G[5]? = some (a 5, .inr (5, [.ref (a 6), .int (nI (tz)), .int (nI (tr)), .int (fed), .int (pap), .int (bar)])) → G[6]? = some (a 6, .inl (cI, 40, .inl (gDr q tz k r ink))) → lv_has ls 7 [(0, .ref (a 5))] → W p l e ({ frames := 1, cells := 0, slots := 0, locals := 22 } : Room) s m args below meth c H locs 0 0 Q (F0 m 112 ls [])) → W p l e ({ frames := 1, cells := 0, slots := 0, locals := 22 } : Room) s m args below meth c H locs 0 0 Q (F0 m 2 ls []) := by
    intro k
    induction k with
    | zero =>
      intro r ink hr G H locs ls hP hD hS hk w5 w6 hl hcont
      refine lv_iload_n (pc := 2) hx hb dX5_driftAside_2 rfl (lv_at hl 2 rfl) ?_
      refine lv_aload_n (pc := 3) hx hb dX5_driftAside_3 rfl (lv_at hl 0 rfl) ?_
      refine va_get (ci := 5) (C := RX5) (T := TX5) (N := 6) (pc := 4) hx hb hts hiX5 hown hK hP 5 w5 rfl 2 (by decide) (hts (.fieldLink RX5 23 "InkPress$Train" "rollers" "I") (by decide +kernel)) (fun _ h9 => h9) rfl dX5_driftAside_4 ?_
      refine mx_cge (tgt := 112) (pc := 7) hx hb (by omega) (by omega) dX5_driftAside_7 (by decide) (fun c7 => ?_) (fun c7 => absurd c7 (by omega))
      exact hcont G H locs ls hP hD hS hk w5 w6 (lv_sub hl [0] rfl)
    | succ k ih =>
      intro r ink hr G H locs ls hP hD hS hk w5 w6 hl hcont
      refine lv_iload_n (pc := 2) hx hb dX5_driftAside_2 rfl (lv_at hl 2 rfl) ?_
      refine lv_aload_n (pc := 3) hx hb dX5_driftAside_3 rfl (lv_at hl 0 rfl) ?_
      refine va_get (ci := 5) (C := RX5) (T := TX5) (N := 6) (pc := 4) hx hb hts hiX5 hown hK hP 5 w5 rfl 2 (by decide) (hts (.fieldLink RX5 23 "InkPress$Train" "rollers" "I") (by decide +kernel)) (fun _ h9 => h9) rfl dX5_driftAside_4 ?_
      refine mx_cge (tgt := 112) (pc := 7) hx hb (by omega) (by omega) dX5_driftAside_7 (by decide) (fun c7 => absurd c7 (by omega)) (fun c7 => ?_)
      refine lv_iload_n (pc := 10) hx hb dX5_driftAside_10 rfl (lv_at hl 2 rfl) ?_
      refine lv_bipush (v := nI (8)) (pc := 11) hx hb dX5_driftAside_11 (by decide) ?_
      refine mx_imul (pc := 13) hx hb dX5_driftAside_13 ?_
      refine lv_istore_n (lv' := [(3, .int (nI ((r) * (8)))), (0, .ref (a 5)), (1, .int (q)), (2, .int (nI (r)))]) (pc := 14) hx hb dX5_driftAside_14 rfl hl (by decide) rfl (fun ls hl => ?_)
      refine lv_aload_n (pc := 15) hx hb dX5_driftAside_15 rfl (lv_at hl 1 rfl) ?_
      refine va_get (ci := 5) (C := RX5) (T := TX5) (N := 6) (pc := 16) hx hb hts hiX5 hown hK hP 5 w5 rfl 0 (by decide) (hts (.fieldLink RX5 9 "InkPress$Train" "ink" "[I") (by decide +kernel)) (fun _ h9 => h9) rfl dX5_driftAside_16 ?_
      refine lv_iload_n (pc := 19) hx hb dX5_driftAside_19 rfl (lv_at hl 0 rfl) ?_
      refine mx_iald (pc := 20) hx hb hK hP 6 w6 ((r) * (8)) (by omega) (by decide) dX5_driftAside_20 ?_
      refine lv_iload_n (pc := 21) hx hb dX5_driftAside_21 rfl (lv_at hl 2 rfl) ?_
      refine lv_sipush (v := nI (200)) (pc := 22) hx hb dX5_driftAside_22 (by decide) ?_
      refine mx_cSi (As := [.int ((ink) ((r) * (8))), .int (q), .int (nI (200))]) (rest := []) (pc := 25) ⟨hx, hb, hml, hown, hts⟩ (k_X5_share (a := a) (x := (ink) ((r) * (8))) (q := q) (n := nI (200)) hD  (by decide)) (va_cwS 3 hts gX5_driftAside_X5_share rfl rfl rfl (by decide +kernel) ⟨Nat.le_of_ble_eq_true rfl, Nat.le_of_ble_eq_true rfl⟩) hK hN hZ hP hS rfl hl.1 rfl (Nat.le_of_ble_eq_true rfl) dX5_driftAside_25 ⟨Nat.zero_le _, Nat.zero_le _⟩ (fun G' H locs hP hD hS hB => ?_)
      rw [hB] at hP hD
      clear hB G'
      refine lv_istore (lv' := [(4, .int (gShare ((ink) ((r) * (8))) (q) (nI (200)))), (3, .int (nI ((r) * (8)))), (0, .ref (a 5)), (1, .int (q)), (2, .int (nI (r)))]) (pc := 28) hx hb dX5_driftAside_28 hl (by decide) rfl (fun ls hl => ?_)
      refine lv_iconst (v := nI (1)) (pc := 30) hx hb dX5_driftAside_30 (by decide) ?_
      refine lv_istore (lv' := [(5, .int (nI (1))), (4, .int (gShare ((ink) ((r) * (8))) (q) (nI (200)))), (3, .int (nI ((r) * (8)))), (0, .ref (a 5)), (1, .int (q)), (2, .int (nI (r)))]) (pc := 31) hx hb dX5_driftAside_31 hl (by decide) rfl (fun ls hl => ?_)
      have LZ : ∀ (j : Nat) (z : Nat) (ink : Nat → Int32) (left : Int32), z + j = tz ∧ 1 ≤ z → ∀ (G : va_W) (H : Heap) (locs : List Loc) (ls : Array Slot), va_P D vwCl G H → va_D A G → va_S A s.heap H locs → (∀ j, j ∉ [6] → G[j]? = G0[j]?) → G[5]? = some (a 5, .inr (5, [.ref (a 6), .int (nI (tz)), .int (nI (tr)), .int (fed), .int (pap), .int (bar)])) → G[6]? = some (a 6, .inl (cI, 40, .inl (ink))) → lv_has ls 7 [(0, .ref (a 5)), (1, .int (q)), (2, .int (nI (r))), (3, .int (nI (r * 8))), (4, .int (left)), (5, .int (nI (z)))] → (∀ (G : va_W) (H : Heap) (locs : List Loc) (ls : Array Slot), va_P D vwCl G H → va_D A G → va_S A s.heap H locs → (∀ j, j ∉ [6] → G[j]? = G0[j]?) → G[5]? = some (a 5, .inr (5, [.ref (a 6), .int (nI (tz)), .int (nI (tr)), .int (fed), .int (pap), .int (bar)])) → G[6]? = some (a 6, .inl (cI, 40, .inl (gDz q (r * 8) j z ink left))) → lv_has ls 7 [(0, .ref (a 5)), (1, .int (q)), (2, .int (nI (r)))] → W p l e ({ frames := 1, cells := 0, slots := 0, locals := 22 } : Room) s m args below meth c H locs 0 0 Q (F0 m 106 ls [])) → W p l e ({ frames := 1, cells := 0, slots := 0, locals := 22 } : Room) s m args below meth c H locs 0 0 Q (F0 m 33 ls []) := by
        intro j
        induction j with
        | zero =>
          intro z ink left hz G H locs ls hP hD hS hk w5 w6 hl hcont
          refine lv_iload (pc := 33) hx hb dX5_driftAside_33 (lv_at hl 5 rfl) ?_
          refine lv_aload_n (pc := 35) hx hb dX5_driftAside_35 rfl (lv_at hl 0 rfl) ?_
          refine va_get (ci := 5) (C := RX5) (T := TX5) (N := 6) (pc := 36) hx hb hts hiX5 hown hK hP 5 w5 rfl 1 (by decide) (hts (.fieldLink RX5 19 "InkPress$Train" "zones" "I") (by decide +kernel)) (fun _ h9 => h9) rfl dX5_driftAside_36 ?_
          refine mx_cge (tgt := 106) (pc := 39) hx hb (by omega) (by omega) dX5_driftAside_39 (by decide) (fun c39 => ?_) (fun c39 => absurd c39 (by omega))
          exact hcont G H locs ls hP hD hS hk w5 w6 (lv_sub hl [0, 1, 2] rfl)
        | succ j ih =>
          intro z ink left hz G H locs ls hP hD hS hk w5 w6 hl hcont
          refine lv_iload (pc := 33) hx hb dX5_driftAside_33 (lv_at hl 5 rfl) ?_
          refine lv_aload_n (pc := 35) hx hb dX5_driftAside_35 rfl (lv_at hl 0 rfl) ?_
          refine va_get (ci := 5) (C := RX5) (T := TX5) (N := 6) (pc := 36) hx hb hts hiX5 hown hK hP 5 w5 rfl 1 (by decide) (hts (.fieldLink RX5 19 "InkPress$Train" "zones" "I") (by decide +kernel)) (fun _ h9 => h9) rfl dX5_driftAside_36 ?_
          refine mx_cge (tgt := 106) (pc := 39) hx hb (by omega) (by omega) dX5_driftAside_39 (by decide) (fun c39 => absurd c39 (by omega)) (fun c39 => ?_)
          refine lv_aload_n (pc := 42) hx hb dX5_driftAside_42 rfl (lv_at hl 0 rfl) ?_
          refine va_get (ci := 5) (C := RX5) (T := TX5) (N := 6) (pc := 43) hx hb hts hiX5 hown hK hP 5 w5 rfl 0 (by decide) (hts (.fieldLink RX5 9 "InkPress$Train" "ink" "[I") (by decide +kernel)) (fun _ h9 => h9) rfl dX5_driftAside_43 ?_
          refine lv_iload_n (pc := 46) hx hb dX5_driftAside_46 rfl (lv_at hl 3 rfl) ?_
          refine lv_iload (pc := 47) hx hb dX5_driftAside_47 (lv_at hl 5 rfl) ?_
          refine mx_iadd (pc := 49) hx hb dX5_driftAside_49 ?_
          refine mx_iald (pc := 50) hx hb hK hP 6 w6 (r * 8 + z) (by omega) (by decide) dX5_driftAside_50 ?_
          refine lv_iload_n (pc := 51) hx hb dX5_driftAside_51 rfl (lv_at hl 1 rfl) ?_
          refine lv_sipush (v := nI (200)) (pc := 52) hx hb dX5_driftAside_52 (by decide) ?_
          refine mx_cSi (As := [.int ((ink) (r * 8 + z)), .int (q), .int (nI (200))]) (rest := []) (pc := 55) ⟨hx, hb, hml, hown, hts⟩ (k_X5_share (a := a) (x := (ink) (r * 8 + z)) (q := q) (n := nI (200)) hD  (by decide)) (va_cwS 3 hts gX5_driftAside_X5_share rfl rfl rfl (by decide +kernel) ⟨Nat.le_of_ble_eq_true rfl, Nat.le_of_ble_eq_true rfl⟩) hK hN hZ hP hS rfl hl.1 rfl (Nat.le_of_ble_eq_true rfl) dX5_driftAside_55 ⟨Nat.zero_le _, Nat.zero_le _⟩ (fun G' H locs hP hD hS hB => ?_)
          rw [hB] at hP hD
          clear hB G'
          refine lv_istore (lv' := [(6, .int (gShare ((ink) (r * 8 + z)) (q) (nI (200)))), (0, .ref (a 5)), (1, .int (q)), (2, .int (nI (r))), (3, .int (nI (r * 8))), (4, .int (left)), (5, .int (nI (z)))]) (pc := 58) hx hb dX5_driftAside_58 hl (by decide) rfl (fun ls hl => ?_)
          refine lv_aload_n (pc := 60) hx hb dX5_driftAside_60 rfl (lv_at hl 1 rfl) ?_
          refine va_get (ci := 5) (C := RX5) (T := TX5) (N := 6) (pc := 61) hx hb hts hiX5 hown hK hP 5 w5 rfl 0 (by decide) (hts (.fieldLink RX5 9 "InkPress$Train" "ink" "[I") (by decide +kernel)) (fun _ h9 => h9) rfl dX5_driftAside_61 ?_
          refine lv_iload_n (pc := 64) hx hb dX5_driftAside_64 rfl (lv_at hl 4 rfl) ?_
          refine lv_iload (pc := 65) hx hb dX5_driftAside_65 (lv_at hl 6 rfl) ?_
          refine mx_iadd (pc := 67) hx hb dX5_driftAside_67 ?_
          refine lv_iconst (v := nI (1)) (pc := 68) hx hb dX5_driftAside_68 (by decide) ?_
          refine mx_isub (pc := 69) hx hb (by omega) dX5_driftAside_69 ?_
          refine lv_dup2_11 (pc := 70) hx hb dX5_driftAside_70 rfl rfl ?_
          refine mx_iald (pc := 71) hx hb hK hP 6 w6 ((r * 8 + z) - (1)) (by omega) (by decide) dX5_driftAside_71 ?_
          refine lv_iload (pc := 72) hx hb dX5_driftAside_72 (lv_at hl 0 rfl) ?_
          refine lv_iload (pc := 74) hx hb dX5_driftAside_74 (lv_at hl 5 rfl) ?_
          refine lv_isub (pc := 76) hx hb dX5_driftAside_76 ?_
          refine lv_iadd (pc := 77) hx hb dX5_driftAside_77 ?_
          refine mx_iast (x := ((ink) ((r * 8 + z) - (1)) + (gShare ((ink) (r * 8 + z)) (q) (nI (200)) - left))) (pc := 78) hx hb hK hP hD hS 6 w6 ((r * 8 + z) - (1)) (by omega) (by decide) dX5_driftAside_78 (fun H locs G hP hD hS w6 ho => ?_)
          have w5 := (ho 5 (by decide)).trans w5
          have w6 : G[6]? = some (a 6, .inl (cI, 40, .inl (upd (ink) ((r * 8 + z) - (1)) (((ink) ((r * 8 + z) - (1)) + (gShare ((ink) (r * 8 + z)) (q) (nI (200)) - left)))))) := w6
          have hk := gk_step hk ho (by decide)
          clear ho
          refine lv_aload_n (pc := 79) hx hb dX5_driftAside_79 rfl (lv_at hl 1 rfl) ?_
          refine va_get (ci := 5) (C := RX5) (T := TX5) (N := 6) (pc := 80) hx hb hts hiX5 hown hK hP 5 w5 rfl 0 (by decide) (hts (.fieldLink RX5 9 "InkPress$Train" "ink" "[I") (by decide +kernel)) (fun _ h9 => h9) rfl dX5_driftAside_80 ?_
          refine lv_iload_n (pc := 83) hx hb dX5_driftAside_83 rfl (lv_at hl 4 rfl) ?_
          refine lv_iload (pc := 84) hx hb dX5_driftAside_84 (lv_at hl 6 rfl) ?_
          refine mx_iadd (pc := 86) hx hb dX5_driftAside_86 ?_
          refine lv_dup2_11 (pc := 87) hx hb dX5_driftAside_87 rfl rfl ?_
          refine mx_iald (pc := 88) hx hb hK hP 6 w6 (r * 8 + z) (by omega) (by decide) dX5_driftAside_88 ?_
          refine lv_iload (pc := 89) hx hb dX5_driftAside_89 (lv_at hl 5 rfl) ?_
          refine lv_iload (pc := 91) hx hb dX5_driftAside_91 (lv_at hl 0 rfl) ?_
          refine lv_isub (pc := 93) hx hb dX5_driftAside_93 ?_
          refine lv_iadd (pc := 94) hx hb dX5_driftAside_94 ?_
          refine mx_iast (x := ((upd (ink) ((r * 8 + z) - (1)) (((ink) ((r * 8 + z) - (1)) + (gShare ((ink) (r * 8 + z)) (q) (nI (200)) - left)))) (r * 8 + z) + (left - gShare ((ink) (r * 8 + z)) (q) (nI (200))))) (pc := 95) hx hb hK hP hD hS 6 w6 (r * 8 + z) (by omega) (by decide) dX5_driftAside_95 (fun H locs G hP hD hS w6 ho => ?_)
          have w5 := (ho 5 (by decide)).trans w5
          have w6 : G[6]? = some (a 6, .inl (cI, 40, .inl (upd (upd (ink) ((r * 8 + z) - (1)) (((ink) ((r * 8 + z) - (1)) + (gShare ((ink) (r * 8 + z)) (q) (nI (200)) - left)))) (r * 8 + z) (((upd (ink) ((r * 8 + z) - (1)) (((ink) ((r * 8 + z) - (1)) + (gShare ((ink) (r * 8 + z)) (q) (nI (200)) - left)))) (r * 8 + z) + (left - gShare ((ink) (r * 8 + z)) (q) (nI (200)))))))) := w6
          have hk := gk_step hk ho (by decide)
          clear ho
          refine lv_iload (pc := 96) hx hb dX5_driftAside_96 (lv_at hl 0 rfl) ?_
          refine lv_istore (lv' := [(4, .int (gShare ((ink) (r * 8 + z)) (q) (nI (200)))), (6, .int (gShare ((ink) (r * 8 + z)) (q) (nI (200)))), (0, .ref (a 5)), (1, .int (q)), (2, .int (nI (r))), (3, .int (nI (r * 8))), (5, .int (nI (z)))]) (pc := 98) hx hb dX5_driftAside_98 hl (by decide) rfl (fun ls hl => ?_)
          refine lv_iinc (v := nI (z + 1)) (lv' := [(5, .int (nI (z + 1))), (4, .int (gShare ((ink) (r * 8 + z)) (q) (nI (200)))), (6, .int (gShare ((ink) (r * 8 + z)) (q) (nI (200)))), (0, .ref (a 5)), (1, .int (q)), (2, .int (nI (r))), (3, .int (nI (r * 8)))]) (pc := 100) hx hb dX5_driftAside_100 hl (k := 6) rfl (mx_inc1 _) (by decide) rfl (fun ls hl => ?_)
          refine lv_goto (tgt := 33) (pc := 103) hx hb dX5_driftAside_103 (by decide) ?_
          exact ih (z + 1) (gD1 q (r * 8) z ink left) (gShare (ink (r * 8 + z)) q (nI 200)) (by omega) G H locs ls hP hD hS hk w5 w6 (lv_sub hl [3, 4, 5, 6, 1, 0] rfl) hcont
      refine LZ (tz - 1) (1) (ink) (gShare ((ink) ((r) * (8))) (q) (nI (200))) (by omega) G H locs ls hP hD hS hk w5 w6 (lv_sub hl [3, 4, 5, 2, 1, 0] rfl) (fun G H locs ls hP hD hS hk w5 w6 hl => ?_)
      have w6 : G[6]? = some (a 6, .inl (cI, 40, .inl (gDz q (r * 8) ((tz - 1)) (1) (ink) (gShare ((ink) ((r) * (8))) (q) (nI (200)))))) := w6
      refine lv_iinc (v := nI (r + 1)) (lv' := [(2, .int (nI (r + 1))), (0, .ref (a 5)), (1, .int (q))]) (pc := 106) hx hb dX5_driftAside_106 hl (k := 2) rfl (mx_inc1 _) (by decide) rfl (fun ls hl => ?_)
      refine lv_goto (tgt := 2) (pc := 109) hx hb dX5_driftAside_109 (by decide) ?_
      exact ih (r + 1) (gDz q (r * 8) ((tz - 1)) (1) (ink) (gShare ((ink) ((r) * (8))) (q) (nI (200)))) (by omega) G H locs ls hP hD hS hk w5 w6 (lv_sub hl [1, 2, 0] rfl) hcont
  refine LP tr (0) (ink) (by omega) G0 H locs ls hP hD hS hk w5 w6 (lv_sub hl [1, 2, 0] rfl) (fun G H locs ls hP hD hS hk w5 w6 hl => ?_)
  have w6 : G[6]? = some (a 6, .inl (cI, 40, .inl (gDr q tz (tr) (0) (ink)))) := w6
  exact hret _ _ _ _ _ hP hD hS ⟨w6, hk⟩ dX5_driftAside_112
end
section
/-! the log of sheets, the past jobs -/
def gLd (sc z : Nat) (den : Nat → Int32) : Int32 := if sc = 0 then nI 0 else den ((sc - 1) * 8 + z)
theorem gLd_0 {sc z : Nat} {den : Nat → Int32} (h : sc = 0) : gLd sc z den = nI 0 := if_pos h
theorem gLd_1 {sc z : Nat} {den : Nat → Int32} (h : 0 < sc) : gLd sc z den = den ((sc - 1) * 8 + z) := if_neg (by omega)
def gJg (b : Bool) (g : Int32) : Int32 := match b with | true => g + nI 1 | false => g
def gJr (b : Bool) (r : Int32) : Int32 := match b with | true => r + nI 1 | false => nI 0
def gJs (r ho n ss : Int32) : Int32 := if ss = -6 ∧ ho ≤ r then n else ss
theorem gJs_1 {r ho n ss : Int32} (h : ¬ ss = -6) : gJs r ho n ss = ss := if_neg (fun q => h q.1)
theorem gJs_2 {r ho n ss : Int32} (h : r < ho) : gJs r ho n ss = ss := if_neg (fun q => Int32.not_le.mpr h q.2)
theorem gJs_3 {r ho n ss : Int32} (h : ss = -6) (h2 : ¬ r < ho) : gJs r ho n ss = n := if_pos ⟨h, Int32.not_lt.mp h2⟩
theorem gDe_t {c : Prop} [Decidable c] (h : c) : nI 1 = gB (decide c) := by simp [gB, h]; rfl
theorem gDe_f {c : Prop} [Decidable c] (h : ¬ c) : nI 0 = gB (decide c) := by simp [gB, h]; rfl
theorem gNI_pos {n : Nat} (h : 0 < n) (h2 : n < 2 ^ 31) : 0 < nI n := by
  have := nI_lt h h2
  rw [nI_0] at this
  exact this
def gKl (pn : Nat) (X XX : Int64) : Int64 := (nI pn).toInt64 * XX - X * X
def gKey (pn : Nat) (X Y XX XY : Int64) (c : Int32) : Int32 :=
  if gKl pn X XX = 0 then (if pn = 0 then nI 0 else (Y / (nI pn).toInt64).toInt32) else gHeld ((Y * XX - X * XY + c.toInt64 * ((nI pn).toInt64 * XY - X * Y)) / gKl pn X XX) (nI 0) (nI 100)
theorem gKey_n {pn : Nat} {X Y XX XY : Int64} {c : Int32} (h : ¬ (nI pn).toInt64 * XX - X * X = 0) : gKey pn X Y XX XY c = gHeld ((Y * XX - X * XY + c.toInt64 * ((nI pn).toInt64 * XY - X * Y)) / ((nI pn).toInt64 * XX - X * X)) (nI 0) (nI 100) := if_neg h
theorem gKey_0 {pn : Nat} {X Y XX XY : Int64} {c : Int32} (h : (nI pn).toInt64 * XX - X * X = 0) (h2 : pn = 0) : gKey pn X Y XX XY c = nI 0 := (if_pos h).trans (if_pos h2)
theorem gKey_z {pn : Nat} {X Y XX XY : Int64} {c : Int32} (h : (nI pn).toInt64 * XX - X * X = 0) (h2 : 0 < pn) : gKey pn X Y XX XY c = (Y / (nI pn).toInt64).toInt32 := (if_pos h).trans (if_neg (by omega))
set_option maxHeartbeats 4000000 in
set_option maxRecDepth 100000 in
theorem k_X4_restart {l : Launch} {D : va_G} {cI cZ : ClassId} {A : Nat → Prop} {g a : Nat → Nat} {G0 : va_W} {den : Nat → Int32} {go : Nat → Bool} {sc : Nat} {sg : Int32} {sr : Int32} {ss : Int32} (hD : va_D A G0) (w7 : G0[7]? = some (a 7, .inr (4, [.ref (a 8), .ref (a 9), .int (nI (sc)), .int (sg), .int (sr), .int (ss)]))) (w8 : G0[8]? = some (a 8, .inl (cI, 8000, .inl (den)))) (w9 : G0[9]? = some (a 9, .inl (cZ, 1000, .inl (fun j => gB ((go) j))))) : gMv l D cI cZ A g yX4_restart wsX4_restart ({ frames := 0, cells := 0, slots := 0, locals := 0 }) [.ref (a 7)] G0 (fun G1 => G1[7]? = some (a 7, .inr (4, [.ref (a 8), .ref (a 9), .int (nI (0)), .int (nI (0)), .int (nI (0)), .int ((-6))])) ∧ ∀ k, k ∉ [7] → G1[k]? = G0[k]?) := by
  refine gof_v (cc := cX4_restart) (maxL := 1) (by decide) rfl (Nat.le_of_ble_eq_true rfl) hD ?_
  intro p e s m args below meth c Q hx hb hml hts hown hK hN hZ hP hS hret ls hl
  have hown : s.vm.findClass RX4 = some m.cls := hown
  have hl : lv_has ls 1 [(0, .ref (a 7))] := hl
  obtain ⟨locs, elocs⟩ : ∃ q : List Loc, q = [] := ⟨_, rfl⟩
  rw [← elocs] at hS ⊢
  obtain ⟨H, eH⟩ : ∃ q : Heap, q = s.heap := ⟨_, rfl⟩
  have hP : va_P D vwCl G0 H := eH ▸ hP
  have hS : va_S A s.heap H locs := by rw [eH]; exact hS
  rw [← eH]
  clear elocs eH
  have hiX4 : ∀ w ∈ u_ws RX4 TX4 6, w ∈ wsX4_restart := by decide +kernel
  have hk : ∀ k, k ∉ [7] → G0[k]? = G0[k]? := fun _ _ => rfl
  refine lv_aload_n (pc := 0) hx hb dX4_restart_0 rfl (lv_at hl 0 rfl) ?_
  refine lv_iconst (v := nI (0)) (pc := 1) hx hb dX4_restart_1 (by decide) ?_
  refine mx_put (ci := 4) (v := .int (nI (0))) (ty := .int) (C := RX4) (T := TX4) (N := 6) (pc := 2) hx hb hts hiX4 tyX4 tyX4_ok nmX4 hown hK hP hD hS 7 w7 rfl 2 (by decide) (hts (.fieldLink RX4 22 "InkPress$SheetLog" "count" "I") (by decide +kernel)) (fun _ h9 => h9) rfl (by decide +kernel) rfl rfl (Nat.le_of_ble_eq_true rfl) dX4_restart_2 (fun H locs G hP hD hS w7 ho => ?_)
  have w8 := (ho 8 (by decide)).trans w8
  have w9 := (ho 9 (by decide)).trans w9
  have w7 : G[7]? = some (a 7, .inr (4, [.ref (a 8), .ref (a 9), .int (nI (0)), .int (sg), .int (sr), .int (ss)])) := w7
  have hk := gk_step hk ho (by decide)
  clear ho
  refine lv_aload_n (pc := 5) hx hb dX4_restart_5 rfl (lv_at hl 0 rfl) ?_
  refine lv_iconst (v := nI (0)) (pc := 6) hx hb dX4_restart_6 (by decide) ?_
  refine mx_put (ci := 4) (v := .int (nI (0))) (ty := .int) (C := RX4) (T := TX4) (N := 6) (pc := 7) hx hb hts hiX4 tyX4 tyX4_ok nmX4 hown hK hP hD hS 7 w7 rfl 3 (by decide) (hts (.fieldLink RX4 26 "InkPress$SheetLog" "goodCount" "I") (by decide +kernel)) (fun _ h9 => h9) rfl (by decide +kernel) rfl rfl (Nat.le_of_ble_eq_true rfl) dX4_restart_7 (fun H locs G hP hD hS w7 ho => ?_)
  have w8 := (ho 8 (by decide)).trans w8
  have w9 := (ho 9 (by decide)).trans w9
  have w7 : G[7]? = some (a 7, .inr (4, [.ref (a 8), .ref (a 9), .int (nI (0)), .int (nI (0)), .int (sr), .int (ss)])) := w7
  have hk := gk_step hk ho (by decide)
  clear ho
  refine lv_aload_n (pc := 10) hx hb dX4_restart_10 rfl (lv_at hl 0 rfl) ?_
  refine lv_iconst (v := nI (0)) (pc := 11) hx hb dX4_restart_11 (by decide) ?_
  refine mx_put (ci := 4) (v := .int (nI (0))) (ty := .int) (C := RX4) (T := TX4) (N := 6) (pc := 12) hx hb hts hiX4 tyX4 tyX4_ok nmX4 hown hK hP hD hS 7 w7 rfl 4 (by decide) (hts (.fieldLink RX4 29 "InkPress$SheetLog" "goodInARow" "I") (by decide +kernel)) (fun _ h9 => h9) rfl (by decide +kernel) rfl rfl (Nat.le_of_ble_eq_true rfl) dX4_restart_12 (fun H locs G hP hD hS w7 ho => ?_)
  have w8 := (ho 8 (by decide)).trans w8
  have w9 := (ho 9 (by decide)).trans w9
  have w7 : G[7]? = some (a 7, .inr (4, [.ref (a 8), .ref (a 9), .int (nI (0)), .int (nI (0)), .int (nI (0)), .int (ss)])) := w7
  have hk := gk_step hk ho (by decide)
  clear ho
  refine lv_aload_n (pc := 15) hx hb dX4_restart_15 rfl (lv_at hl 0 rfl) ?_
  refine lv_bipush (v := (-6)) (pc := 16) hx hb dX4_restart_16 (by decide) ?_
  refine mx_put (ci := 4) (v := .int ((-6))) (ty := .int) (C := RX4) (T := TX4) (N := 6) (pc := 18) hx hb hts hiX4 tyX4 tyX4_ok nmX4 hown hK hP hD hS 7 w7 rfl 5 (by decide) (hts (.fieldLink RX4 32 "InkPress$SheetLog" "start" "I") (by decide +kernel)) (fun _ h9 => h9) rfl (by decide +kernel) rfl rfl (Nat.le_of_ble_eq_true rfl) dX4_restart_18 (fun H locs G hP hD hS w7 ho => ?_)
  have w8 := (ho 8 (by decide)).trans w8
  have w9 := (ho 9 (by decide)).trans w9
  have w7 : G[7]? = some (a 7, .inr (4, [.ref (a 8), .ref (a 9), .int (nI (0)), .int (nI (0)), .int (nI (0)), .int ((-6))])) := w7
  have hk := gk_step hk ho (by decide)
  clear ho
  exact hret _ _ _ _ _ hP hD hS ⟨w7, hk⟩ dX4_restart_21
set_option maxHeartbeats 4000000 in
set_option maxRecDepth 100000 in
theorem k_X4_has {l : Launch} {D : va_G} {cI cZ : ClassId} {A : Nat → Prop} {g a : Nat → Nat} {G0 : va_W} {den : Nat → Int32} {go : Nat → Bool} {sc : Nat} {sg : Int32} {sr : Int32} {ss : Int32} {x : Int32} (hD : va_D A G0) (w7 : G0[7]? = some (a 7, .inr (4, [.ref (a 8), .ref (a 9), .int (nI (sc)), .int (sg), .int (sr), .int (ss)]))) (w8 : G0[8]? = some (a 8, .inl (cI, 8000, .inl (den)))) (w9 : G0[9]? = some (a 9, .inl (cZ, 1000, .inl (fun j => gB ((go) j))))) : gMi l D cI cZ A g yX4_has wsX4_has ({ frames := 0, cells := 0, slots := 0, locals := 0 }) [.ref (a 7), .int (x)] G0 (gB (gWi x (nI 1) (nI sc))) (fun G1 => G1 = G0) := by
  refine gof_z (cc := cX4_has) (maxL := 2) (by decide) rfl (Nat.le_of_ble_eq_true rfl) hD ?_
  intro p e s m args below meth c Q hx hb hml hts hown hK hN hZ hP hS hret ls hl
  have hown : s.vm.findClass RX4 = some m.cls := hown
  have hl : lv_has ls 2 [(0, .ref (a 7)), (1, .int (x))] := hl
  obtain ⟨locs, elocs⟩ : ∃ q : List Loc, q = [] := ⟨_, rfl⟩
  rw [← elocs] at hS ⊢
  obtain ⟨H, eH⟩ : ∃ q : Heap, q = s.heap := ⟨_, rfl⟩
  have hP : va_P D vwCl G0 H := eH ▸ hP
  have hS : va_S A s.heap H locs := by rw [eH]; exact hS
  rw [← eH]
  clear elocs eH
  have hiX4 : ∀ w ∈ u_ws RX4 TX4 6, w ∈ wsX4_has := by decide +kernel
  have hk : ∀ k, k ∉ ([] : List Nat) → G0[k]? = G0[k]? := fun _ _ => rfl
  refine lv_iload_n (pc := 0) hx hb dX4_has_0 rfl (lv_at hl 1 rfl) ?_
  refine lv_iconst (v := nI (1)) (pc := 1) hx hb dX4_has_1 (by decide) ?_
  refine lv_icmp_lt (tgt := 17) (pc := 2) hx hb dX4_has_2 (by decide) (fun c2 => ?_) (fun c2 => ?_)
  · skip
    refine lv_iconst (v := nI (0)) (pc := 17) hx hb dX4_has_17 (by decide) ?_
    exact hret _ _ _ _ _ _ hP hD hS rfl (by first | exact gWi_lt c2 | exact gWi_gt c10 | exact gWi_in c2 c10) rfl dX4_has_18
  · skip
    refine lv_iload_n (pc := 5) hx hb dX4_has_5 rfl (lv_at hl 1 rfl) ?_
    refine lv_aload_n (pc := 6) hx hb dX4_has_6 rfl (lv_at hl 0 rfl) ?_
    refine va_get (ci := 4) (C := RX4) (T := TX4) (N := 6) (pc := 7) hx hb hts hiX4 hown hK hP 7 w7 rfl 2 (by decide) (hts (.fieldLink RX4 22 "InkPress$SheetLog" "count" "I") (by decide +kernel)) (fun _ h9 => h9) rfl dX4_has_7 ?_
    refine lv_icmp_gt (tgt := 17) (pc := 10) hx hb dX4_has_10 (by decide) (fun c10 => ?_) (fun c10 => ?_)
    · skip
      refine lv_iconst (v := nI (0)) (pc := 17) hx hb dX4_has_17 (by decide) ?_
      exact hret _ _ _ _ _ _ hP hD hS rfl (by first | exact gWi_lt c2 | exact gWi_gt c10 | exact gWi_in c2 c10) rfl dX4_has_18
    · skip
      refine lv_iconst (v := nI (1)) (pc := 13) hx hb dX4_has_13 (by decide) ?_
      refine lv_goto (tgt := 18) (pc := 14) hx hb dX4_has_14 (by decide) ?_
      exact hret _ _ _ _ _ _ hP hD hS rfl (by first | exact gWi_lt c2 | exact gWi_gt c10 | exact gWi_in c2 c10) rfl dX4_has_18
set_option maxHeartbeats 4000000 in
set_option maxRecDepth 100000 in
theorem k_X4_begin {l : Launch} {D : va_G} {cI cZ : ClassId} {A : Nat → Prop} {g a : Nat → Nat} {G0 : va_W} {den : Nat → Int32} {go : Nat → Bool} {sc : Nat} {sg : Int32} {sr : Int32} {ss : Int32} (hD : va_D A G0) (w7 : G0[7]? = some (a 7, .inr (4, [.ref (a 8), .ref (a 9), .int (nI (sc)), .int (sg), .int (sr), .int (ss)]))) (w8 : G0[8]? = some (a 8, .inl (cI, 8000, .inl (den)))) (w9 : G0[9]? = some (a 9, .inl (cZ, 1000, .inl (fun j => gB ((go) j))))) : gMv l D cI cZ A g yX4_begin wsX4_begin ({ frames := 0, cells := 0, slots := 0, locals := 0 }) [.ref (a 7)] G0 (fun G1 => G1[7]? = some (a 7, .inr (4, [.ref (a 8), .ref (a 9), .int (nI (sc + 1)), .int (sg), .int (sr), .int (ss)])) ∧ ∀ k, k ∉ [7] → G1[k]? = G0[k]?) := by
  refine gof_v (cc := cX4_begin) (maxL := 1) (by decide) rfl (Nat.le_of_ble_eq_true rfl) hD ?_
  intro p e s m args below meth c Q hx hb hml hts hown hK hN hZ hP hS hret ls hl
  have hown : s.vm.findClass RX4 = some m.cls := hown
  have hl : lv_has ls 1 [(0, .ref (a 7))] := hl
  obtain ⟨locs, elocs⟩ : ∃ q : List Loc, q = [] := ⟨_, rfl⟩
  rw [← elocs] at hS ⊢
  obtain ⟨H, eH⟩ : ∃ q : Heap, q = s.heap := ⟨_, rfl⟩
  have hP : va_P D vwCl G0 H := eH ▸ hP
  have hS : va_S A s.heap H locs := by rw [eH]; exact hS
  rw [← eH]
  clear elocs eH
  have hiX4 : ∀ w ∈ u_ws RX4 TX4 6, w ∈ wsX4_begin := by decide +kernel
  have hk : ∀ k, k ∉ [7] → G0[k]? = G0[k]? := fun _ _ => rfl
  refine lv_aload_n (pc := 0) hx hb dX4_begin_0 rfl (lv_at hl 0 rfl) ?_
  refine lv_dup (pc := 1) hx hb dX4_begin_1 rfl ?_
  refine va_get (ci := 4) (C := RX4) (T := TX4) (N := 6) (pc := 2) hx hb hts hiX4 hown hK hP 7 w7 rfl 2 (by decide) (hts (.fieldLink RX4 22 "InkPress$SheetLog" "count" "I") (by decide +kernel)) (fun _ h9 => h9) rfl dX4_begin_2 ?_
  refine lv_iconst (v := nI (1)) (pc := 5) hx hb dX4_begin_5 (by decide) ?_
  refine mx_iadd (pc := 6) hx hb dX4_begin_6 ?_
  refine mx_put (ci := 4) (v := .int (nI (sc + 1))) (ty := .int) (C := RX4) (T := TX4) (N := 6) (pc := 7) hx hb hts hiX4 tyX4 tyX4_ok nmX4 hown hK hP hD hS 7 w7 rfl 2 (by decide) (hts (.fieldLink RX4 22 "InkPress$SheetLog" "count" "I") (by decide +kernel)) (fun _ h9 => h9) rfl (by decide +kernel) rfl rfl (Nat.le_of_ble_eq_true rfl) dX4_begin_7 (fun H locs G hP hD hS w7 ho => ?_)
  have w8 := (ho 8 (by decide)).trans w8
  have w9 := (ho 9 (by decide)).trans w9
  have w7 : G[7]? = some (a 7, .inr (4, [.ref (a 8), .ref (a 9), .int (nI (sc + 1)), .int (sg), .int (sr), .int (ss)])) := w7
  have hk := gk_step hk ho (by decide)
  clear ho
  exact hret _ _ _ _ _ hP hD hS ⟨w7, hk⟩ dX4_begin_10
set_option maxHeartbeats 4000000 in
set_option maxRecDepth 100000 in
theorem k_X4_note {l : Launch} {D : va_G} {cI cZ : ClassId} {A : Nat → Prop} {g a : Nat → Nat} {G0 : va_W} {den : Nat → Int32} {go : Nat → Bool} {sc : Nat} {sg : Int32} {sr : Int32} {ss : Int32} {z : Nat} {x : Int32} (hD : va_D A G0) (w7 : G0[7]? = some (a 7, .inr (4, [.ref (a 8), .ref (a 9), .int (nI (sc)), .int (sg), .int (sr), .int (ss)]))) (w8 : G0[8]? = some (a 8, .inl (cI, 8000, .inl (den)))) (w9 : G0[9]? = some (a 9, .inl (cZ, 1000, .inl (fun j => gB ((go) j))))) (h1 : 1 ≤ sc) (h2 : sc ≤ 1000) (hz : z < 8) : gMv l D cI cZ A g yX4_note wsX4_note ({ frames := 0, cells := 0, slots := 0, locals := 0 }) [.ref (a 7), .int (nI (z)), .int (x)] G0 (fun G1 => G1[8]? = some (a 8, .inl (cI, 8000, .inl (upd den ((sc - 1) * 8 + z) x))) ∧ ∀ k, k ∉ [8] → G1[k]? = G0[k]?) := by
  refine gof_v (cc := cX4_note) (maxL := 3) (by decide) rfl (Nat.le_of_ble_eq_true rfl) hD ?_
  intro p e s m args below meth c Q hx hb hml hts hown hK hN hZ hP hS hret ls hl
  have hown : s.vm.findClass RX4 = some m.cls := hown
  have hl : lv_has ls 3 [(0, .ref (a 7)), (1, .int (nI (z))), (2, .int (x))] := hl
  obtain ⟨locs, elocs⟩ : ∃ q : List Loc, q = [] := ⟨_, rfl⟩
  rw [← elocs] at hS ⊢
  obtain ⟨H, eH⟩ : ∃ q : Heap, q = s.heap := ⟨_, rfl⟩
  have hP : va_P D vwCl G0 H := eH ▸ hP
  have hS : va_S A s.heap H locs := by rw [eH]; exact hS
  rw [← eH]
  clear elocs eH
  have hiX4 : ∀ w ∈ u_ws RX4 TX4 6, w ∈ wsX4_note := by decide +kernel
  have hk : ∀ k, k ∉ [8] → G0[k]? = G0[k]? := fun _ _ => rfl
  refine lv_aload_n (pc := 0) hx hb dX4_note_0 rfl (lv_at hl 0 rfl) ?_
  refine va_get (ci := 4) (C := RX4) (T := TX4) (N := 6) (pc := 1) hx hb hts hiX4 hown hK hP 7 w7 rfl 0 (by decide) (hts (.fieldLink RX4 9 "InkPress$SheetLog" "densities" "[I") (by decide +kernel)) (fun _ h9 => h9) rfl dX4_note_1 ?_
  refine lv_aload_n (pc := 4) hx hb dX4_note_4 rfl (lv_at hl 0 rfl) ?_
  refine va_get (ci := 4) (C := RX4) (T := TX4) (N := 6) (pc := 5) hx hb hts hiX4 hown hK hP 7 w7 rfl 2 (by decide) (hts (.fieldLink RX4 22 "InkPress$SheetLog" "count" "I") (by decide +kernel)) (fun _ h9 => h9) rfl dX4_note_5 ?_
  refine lv_iconst (v := nI (1)) (pc := 8) hx hb dX4_note_8 (by decide) ?_
  refine mx_isub (pc := 9) hx hb h1 dX4_note_9 ?_
  refine lv_bipush (v := nI (8)) (pc := 10) hx hb dX4_note_10 (by decide) ?_
  refine mx_imul (pc := 12) hx hb dX4_note_12 ?_
  refine lv_iload_n (pc := 13) hx hb dX4_note_13 rfl (lv_at hl 1 rfl) ?_
  refine mx_iadd (pc := 14) hx hb dX4_note_14 ?_
  refine lv_iload_n (pc := 15) hx hb dX4_note_15 rfl (lv_at hl 2 rfl) ?_
  refine mx_iast (x := x) (pc := 16) hx hb hK hP hD hS 8 w8 (((sc) - (1)) * (8) + z) (by omega) (by decide) dX4_note_16 (fun H locs G hP hD hS w8 ho => ?_)
  have w7 := (ho 7 (by decide)).trans w7
  have w9 := (ho 9 (by decide)).trans w9
  have w8 : G[8]? = some (a 8, .inl (cI, 8000, .inl (upd (den) (((sc) - (1)) * (8) + z) (x)))) := w8
  have hk := gk_step hk ho (by decide)
  clear ho
  exact hret _ _ _ _ _ hP hD hS ⟨w8, hk⟩ dX4_note_17
set_option maxHeartbeats 4000000 in
set_option maxRecDepth 100000 in
theorem k_X4_wasGood {l : Launch} {D : va_G} {cI cZ : ClassId} {A : Nat → Prop} {g a : Nat → Nat} {G0 : va_W} {den : Nat → Int32} {go : Nat → Bool} {sc : Nat} {sg : Int32} {sr : Int32} {ss : Int32} {n : Nat} (hD : va_D A G0) (w7 : G0[7]? = some (a 7, .inr (4, [.ref (a 8), .ref (a 9), .int (nI (sc)), .int (sg), .int (sr), .int (ss)]))) (w8 : G0[8]? = some (a 8, .inl (cI, 8000, .inl (den)))) (w9 : G0[9]? = some (a 9, .inl (cZ, 1000, .inl (fun j => gB ((go) j))))) (h1 : 1 ≤ n) (h2 : n ≤ 1000) : gMi l D cI cZ A g yX4_wasGood wsX4_wasGood ({ frames := 0, cells := 0, slots := 0, locals := 0 }) [.ref (a 7), .int (nI (n))] G0 (gB (go (n - 1))) (fun G1 => G1 = G0) := by
  refine gof_z (cc := cX4_wasGood) (maxL := 2) (by decide) rfl (Nat.le_of_ble_eq_true rfl) hD ?_
  intro p e s m args below meth c Q hx hb hml hts hown hK hN hZ hP hS hret ls hl
  have hown : s.vm.findClass RX4 = some m.cls := hown
  have hl : lv_has ls 2 [(0, .ref (a 7)), (1, .int (nI (n)))] := hl
  obtain ⟨locs, elocs⟩ : ∃ q : List Loc, q = [] := ⟨_, rfl⟩
  rw [← elocs] at hS ⊢
  obtain ⟨H, eH⟩ : ∃ q : Heap, q = s.heap := ⟨_, rfl⟩
  have hP : va_P D vwCl G0 H := eH ▸ hP
  have hS : va_S A s.heap H locs := by rw [eH]; exact hS
  rw [← eH]
  clear elocs eH
  have hiX4 : ∀ w ∈ u_ws RX4 TX4 6, w ∈ wsX4_wasGood := by decide +kernel
  have hk : ∀ k, k ∉ ([] : List Nat) → G0[k]? = G0[k]? := fun _ _ => rfl
  refine lv_aload_n (pc := 0) hx hb dX4_wasGood_0 rfl (lv_at hl 0 rfl) ?_
  refine va_get (ci := 4) (C := RX4) (T := TX4) (N := 6) (pc := 1) hx hb hts hiX4 hown hK hP 7 w7 rfl 1 (by decide) (hts (.fieldLink RX4 15 "InkPress$SheetLog" "good" "[Z") (by decide +kernel)) (fun _ h9 => h9) rfl dX4_wasGood_1 ?_
  refine lv_iload_n (pc := 4) hx hb dX4_wasGood_4 rfl (lv_at hl 1 rfl) ?_
  refine lv_iconst (v := nI (1)) (pc := 5) hx hb dX4_wasGood_5 (by decide) ?_
  refine mx_isub (pc := 6) hx hb h1 dX4_wasGood_6 ?_
  refine mx_zald (pc := 7) hx hb hK hP 9 w9 ((n) - (1)) (by omega) (by decide) dX4_wasGood_7 ?_
  exact hret _ _ _ _ _ _ hP hD hS (gB_nar _) rfl rfl dX4_wasGood_8
set_option maxHeartbeats 4000000 in
set_option maxRecDepth 100000 in
theorem k_X4_densityOn {l : Launch} {D : va_G} {cI cZ : ClassId} {A : Nat → Prop} {g a : Nat → Nat} {G0 : va_W} {den : Nat → Int32} {go : Nat → Bool} {sc : Nat} {sg : Int32} {sr : Int32} {ss : Int32} {n : Nat} {z : Nat} (hD : va_D A G0) (w7 : G0[7]? = some (a 7, .inr (4, [.ref (a 8), .ref (a 9), .int (nI (sc)), .int (sg), .int (sr), .int (ss)]))) (w8 : G0[8]? = some (a 8, .inl (cI, 8000, .inl (den)))) (w9 : G0[9]? = some (a 9, .inl (cZ, 1000, .inl (fun j => gB ((go) j))))) (h1 : 1 ≤ n) (h2 : n ≤ 1000) (hz : z < 8) : gMi l D cI cZ A g yX4_densityOn wsX4_densityOn ({ frames := 0, cells := 0, slots := 0, locals := 0 }) [.ref (a 7), .int (nI (n)), .int (nI (z))] G0 (den ((n - 1) * 8 + z)) (fun G1 => G1 = G0) := by
  refine gof_i (cc := cX4_densityOn) (maxL := 3) (by decide) rfl (Nat.le_of_ble_eq_true rfl) hD ?_
  intro p e s m args below meth c Q hx hb hml hts hown hK hN hZ hP hS hret ls hl
  have hown : s.vm.findClass RX4 = some m.cls := hown
  have hl : lv_has ls 3 [(0, .ref (a 7)), (1, .int (nI (n))), (2, .int (nI (z)))] := hl
  obtain ⟨locs, elocs⟩ : ∃ q : List Loc, q = [] := ⟨_, rfl⟩
  rw [← elocs] at hS ⊢
  obtain ⟨H, eH⟩ : ∃ q : Heap, q = s.heap := ⟨_, rfl⟩
  have hP : va_P D vwCl G0 H := eH ▸ hP
  have hS : va_S A s.heap H locs := by rw [eH]; exact hS
  rw [← eH]
  clear elocs eH
  have hiX4 : ∀ w ∈ u_ws RX4 TX4 6, w ∈ wsX4_densityOn := by decide +kernel
  have hk : ∀ k, k ∉ ([] : List Nat) → G0[k]? = G0[k]? := fun _ _ => rfl
  refine lv_aload_n (pc := 0) hx hb dX4_densityOn_0 rfl (lv_at hl 0 rfl) ?_
  refine va_get (ci := 4) (C := RX4) (T := TX4) (N := 6) (pc := 1) hx hb hts hiX4 hown hK hP 7 w7 rfl 0 (by decide) (hts (.fieldLink RX4 9 "InkPress$SheetLog" "densities" "[I") (by decide +kernel)) (fun _ h9 => h9) rfl dX4_densityOn_1 ?_
  refine lv_iload_n (pc := 4) hx hb dX4_densityOn_4 rfl (lv_at hl 1 rfl) ?_
  refine lv_iconst (v := nI (1)) (pc := 5) hx hb dX4_densityOn_5 (by decide) ?_
  refine mx_isub (pc := 6) hx hb h1 dX4_densityOn_6 ?_
  refine lv_bipush (v := nI (8)) (pc := 7) hx hb dX4_densityOn_7 (by decide) ?_
  refine mx_imul (pc := 9) hx hb dX4_densityOn_9 ?_
  refine lv_iload_n (pc := 10) hx hb dX4_densityOn_10 rfl (lv_at hl 2 rfl) ?_
  refine mx_iadd (pc := 11) hx hb dX4_densityOn_11 ?_
  refine mx_iald (pc := 12) hx hb hK hP 8 w8 (((n) - (1)) * (8) + z) (by omega) (by decide) dX4_densityOn_12 ?_
  exact hret _ _ _ _ _ _ hP hD hS rfl rfl dX4_densityOn_13
set_option maxHeartbeats 4000000 in
set_option maxRecDepth 100000 in
theorem k_X4_latestDensity {l : Launch} {D : va_G} {cI cZ : ClassId} {A : Nat → Prop} {g a : Nat → Nat} {G0 : va_W} {den : Nat → Int32} {go : Nat → Bool} {sc : Nat} {sg : Int32} {sr : Int32} {ss : Int32} {z : Nat} (hD : va_D A G0) (w7 : G0[7]? = some (a 7, .inr (4, [.ref (a 8), .ref (a 9), .int (nI (sc)), .int (sg), .int (sr), .int (ss)]))) (w8 : G0[8]? = some (a 8, .inl (cI, 8000, .inl (den)))) (w9 : G0[9]? = some (a 9, .inl (cZ, 1000, .inl (fun j => gB ((go) j))))) (h2 : sc ≤ 1000) (hz : z < 8) : gMi l D cI cZ A g yX4_latestDensity wsX4_latestDensity ({ frames := 1, cells := 0, slots := 0, locals := 22 }) [.ref (a 7), .int (nI (z))] G0 (gLd sc z den) (fun G1 => G1 = G0) := by
  refine gof_i (cc := cX4_latestDensity) (maxL := 2) (by decide) rfl (Nat.le_of_ble_eq_true rfl) hD ?_
  intro p e s m args below meth c Q hx hb hml hts hown hK hN hZ hP hS hret ls hl
  have hown : s.vm.findClass RX4 = some m.cls := hown
  have hl : lv_has ls 2 [(0, .ref (a 7)), (1, .int (nI (z)))] := hl
  obtain ⟨locs, elocs⟩ : ∃ q : List Loc, q = [] := ⟨_, rfl⟩
  rw [← elocs] at hS ⊢
  obtain ⟨H, eH⟩ : ∃ q : Heap, q = s.heap := ⟨_, rfl⟩
  have hP : va_P D vwCl G0 H := eH ▸ hP
  have hS : va_S A s.heap H locs := by rw [eH]; exact hS
  rw [← eH]
  clear elocs eH
  have hiX4 : ∀ w ∈ u_ws RX4 TX4 6, w ∈ wsX4_latestDensity := by decide +kernel
  have hk : ∀ k, k ∉ ([] : List Nat) → G0[k]? = G0[k]? := fun _ _ => rfl
  refine lv_aload_n (pc := 0) hx hb dX4_latestDensity_0 rfl (lv_at hl 0 rfl) ?_
  refine va_get (ci := 4) (C := RX4) (T := TX4) (N := 6) (pc := 1) hx hb hts hiX4 hown hK hP 7 w7 rfl 2 (by decide) (hts (.fieldLink RX4 22 "InkPress$SheetLog" "count" "I") (by decide +kernel)) (fun _ h9 => h9) rfl dX4_latestDensity_1 ?_
  refine mx_nle (tgt := 19) (pc := 4) hx hb (by omega) dX4_latestDensity_4 (by decide) (fun c4 => ?_) (fun c4 => ?_)
  · skip
    refine lv_iconst (v := nI (0)) (pc := 19) hx hb dX4_latestDensity_19 (by decide) ?_
    exact hret _ _ _ _ _ _ hP hD hS (by first | exact (gLd_0 c4).symm | exact (gLd_1 c4).symm) rfl dX4_latestDensity_20
  · skip
    refine lv_aload_n (pc := 7) hx hb dX4_latestDensity_7 rfl (lv_at hl 0 rfl) ?_
    refine lv_aload_n (pc := 8) hx hb dX4_latestDensity_8 rfl (lv_at hl 0 rfl) ?_
    refine va_get (ci := 4) (C := RX4) (T := TX4) (N := 6) (pc := 9) hx hb hts hiX4 hown hK hP 7 w7 rfl 2 (by decide) (hts (.fieldLink RX4 22 "InkPress$SheetLog" "count" "I") (by decide +kernel)) (fun _ h9 => h9) rfl dX4_latestDensity_9 ?_
    refine lv_iload_n (pc := 12) hx hb dX4_latestDensity_12 rfl (lv_at hl 1 rfl) ?_
    refine mx_cVi (As := [.int (nI (sc)), .int (nI (z))]) (rest := []) (pc := 13) ⟨hx, hb, hml, hown, hts⟩ (k_X4_densityOn (a := a) (den := den) (go := go) (sc := sc) (sg := sg) (sr := sr) (ss := ss) (n := sc) (z := z) hD w7 w8 w9 (by omega) (by omega) (by omega)) (cwV 2 hts gX4_latestDensity_X4_densityOn rfl rfl rfl (by decide +kernel) ⟨Nat.le_of_ble_eq_true rfl, Nat.le_of_ble_eq_true rfl⟩) 7 rfl rfl w7 hK hN hZ hP hS rfl hl.1 rfl (Nat.le_of_ble_eq_true rfl) dX4_latestDensity_13 ⟨Nat.zero_le _, Nat.zero_le _⟩ (fun G' H locs hP hD hS hB => ?_)
    rw [hB] at hP hD
    clear hB G'
    refine lv_goto (tgt := 20) (pc := 16) hx hb dX4_latestDensity_16 (by decide) ?_
    exact hret _ _ _ _ _ _ hP hD hS (by first | exact (gLd_0 c4).symm | exact (gLd_1 c4).symm) rfl dX4_latestDensity_20
set_option maxHeartbeats 4000000 in
set_option maxRecDepth 100000 in
theorem k_X4_judge {l : Launch} {D : va_G} {cI cZ : ClassId} {A : Nat → Prop} {g a : Nat → Nat} {G0 : va_W} {den : Nat → Int32} {go : Nat → Bool} {sc : Nat} {sg : Int32} {sr : Int32} {ss : Int32} {b : Bool} {ho : Int32} (hD : va_D A G0) (w7 : G0[7]? = some (a 7, .inr (4, [.ref (a 8), .ref (a 9), .int (nI (sc)), .int (sg), .int (sr), .int (ss)]))) (w8 : G0[8]? = some (a 8, .inl (cI, 8000, .inl (den)))) (w9 : G0[9]? = some (a 9, .inl (cZ, 1000, .inl (fun j => gB ((go) j))))) (h1 : 1 ≤ sc) (h2 : sc ≤ 1000) : gMv l D cI cZ A g yX4_judge wsX4_judge ({ frames := 0, cells := 0, slots := 0, locals := 0 }) [.ref (a 7), .int (gB (b)), .int (ho)] G0 (fun G1 => G1[7]? = some (a 7, .inr (4, [.ref (a 8), .ref (a 9), .int (nI (sc)), .int (gJg b sg), .int (gJr b sr), .int (gJs (gJr b sr) ho (nI sc) ss)])) ∧ G1[9]? = some (a 9, .inl (cZ, 1000, .inl (fun j => gB ((vf_upd go (sc - 1) b) j)))) ∧ ∀ k, k ∉ [7, 9] → G1[k]? = G0[k]?) := by
  refine gof_v (cc := cX4_judge) (maxL := 3) (by decide) rfl (Nat.le_of_ble_eq_true rfl) hD ?_
  intro p e s m args below meth c Q hx hb hml hts hown hK hN hZ hP hS hret ls hl
  have hown : s.vm.findClass RX4 = some m.cls := hown
  have hl : lv_has ls 3 [(0, .ref (a 7)), (1, .int (gB (b))), (2, .int (ho))] := hl
  obtain ⟨locs, elocs⟩ : ∃ q : List Loc, q = [] := ⟨_, rfl⟩
  rw [← elocs] at hS ⊢
  obtain ⟨H, eH⟩ : ∃ q : Heap, q = s.heap := ⟨_, rfl⟩
  have hP : va_P D vwCl G0 H := eH ▸ hP
  have hS : va_S A s.heap H locs := by rw [eH]; exact hS
  rw [← eH]
  clear elocs eH
  have hiX4 : ∀ w ∈ u_ws RX4 TX4 6, w ∈ wsX4_judge := by decide +kernel
  have hk : ∀ k, k ∉ [7, 9] → G0[k]? = G0[k]? := fun _ _ => rfl
  cases b
  · skip
    refine lv_aload_n (pc := 0) hx hb dX4_judge_0 rfl (lv_at hl 0 rfl) ?_
    refine va_get (ci := 4) (C := RX4) (T := TX4) (N := 6) (pc := 1) hx hb hts hiX4 hown hK hP 7 w7 rfl 1 (by decide) (hts (.fieldLink RX4 15 "InkPress$SheetLog" "good" "[Z") (by decide +kernel)) (fun _ h9 => h9) rfl dX4_judge_1 ?_
    refine lv_aload_n (pc := 4) hx hb dX4_judge_4 rfl (lv_at hl 0 rfl) ?_
    refine va_get (ci := 4) (C := RX4) (T := TX4) (N := 6) (pc := 5) hx hb hts hiX4 hown hK hP 7 w7 rfl 2 (by decide) (hts (.fieldLink RX4 22 "InkPress$SheetLog" "count" "I") (by decide +kernel)) (fun _ h9 => h9) rfl dX4_judge_5 ?_
    refine lv_iconst (v := nI (1)) (pc := 8) hx hb dX4_judge_8 (by decide) ?_
    refine mx_isub (pc := 9) hx hb h1 dX4_judge_9 ?_
    refine lv_iload_n (pc := 10) hx hb dX4_judge_10 rfl (lv_at hl 1 rfl) ?_
    refine mx_zast (x := gB (false)) (pc := 11) hx hb hK hP hD hS 9 w9 ((sc) - (1)) (by omega) (by decide) (gB_vnar _) dX4_judge_11 (fun H locs G hP hD hS w9 ho => ?_)
    rw [gUpdB] at w9
    have w7 := (ho 7 (by decide)).trans w7
    have w8 := (ho 8 (by decide)).trans w8
    have w9 : G[9]? = some (a 9, .inl (cZ, 1000, .inl (fun j => gB ((vf_upd (go) ((sc) - (1)) (false)) j)))) := w9
    have hk := gk_step hk ho (by decide)
    clear ho
    refine lv_aload_n (pc := 12) hx hb dX4_judge_12 rfl (lv_at hl 0 rfl) ?_
    refine lv_iload_n (pc := 13) hx hb dX4_judge_13 rfl (lv_at hl 1 rfl) ?_
    refine mx_beq (tgt := 26) (pc := 14) hx hb dX4_judge_14 (by decide) (fun c14 => ?_) (fun c14 => absurd c14 (by decide))
    refine lv_iconst (v := nI (0)) (pc := 26) hx hb dX4_judge_26 (by decide) ?_
    refine mx_put (ci := 4) (v := .int (nI (0))) (ty := .int) (C := RX4) (T := TX4) (N := 6) (pc := 27) hx hb hts hiX4 tyX4 tyX4_ok nmX4 hown hK hP hD hS 7 w7 rfl 4 (by decide) (hts (.fieldLink RX4 29 "InkPress$SheetLog" "goodInARow" "I") (by decide +kernel)) (fun _ h9 => h9) rfl (by decide +kernel) rfl rfl (Nat.le_of_ble_eq_true rfl) dX4_judge_27 (fun H locs G hP hD hS w7 ho => ?_)
    have w8 := (ho 8 (by decide)).trans w8
    have w9 := (ho 9 (by decide)).trans w9
    have w7 : G[7]? = some (a 7, .inr (4, [.ref (a 8), .ref (a 9), .int (nI (sc)), .int (sg), .int (nI (0)), .int (ss)])) := w7
    have hk := gk_step hk ho (by decide)
    clear ho
    refine lv_iload_n (pc := 30) hx hb dX4_judge_30 rfl (lv_at hl 1 rfl) ?_
    refine mx_beq (tgt := 44) (pc := 31) hx hb dX4_judge_31 (by decide) (fun c31 => ?_) (fun c31 => absurd c31 (by decide))
    refine lv_aload_n (pc := 44) hx hb dX4_judge_44 rfl (lv_at hl 0 rfl) ?_
    refine va_get (ci := 4) (C := RX4) (T := TX4) (N := 6) (pc := 45) hx hb hts hiX4 hown hK hP 7 w7 rfl 5 (by decide) (hts (.fieldLink RX4 32 "InkPress$SheetLog" "start" "I") (by decide +kernel)) (fun _ h9 => h9) rfl dX4_judge_45 ?_
    refine lv_bipush (v := (-6)) (pc := 48) hx hb dX4_judge_48 (by decide) ?_
    refine lv_icmp_ne (tgt := 69) (pc := 50) hx hb dX4_judge_50 (by decide) (fun c50 => ?_) (fun c50 => ?_)
    · skip
      exact hret _ _ _ _ _ hP hD hS ⟨(by first | (have q9 : gJs (gJr false sr) ho (nI sc) ss = ss := gJs_1 c50; rw [q9]; exact w7) | (have q9 : gJs (gJr false sr) ho (nI sc) ss = ss := gJs_2 c58; rw [q9]; exact w7) | (have q9 : gJs (gJr false sr) ho (nI sc) ss = nI sc := gJs_3 c50 c58; rw [q9]; exact w7)), w9, hk⟩ dX4_judge_69
    · skip
      refine lv_aload_n (pc := 53) hx hb dX4_judge_53 rfl (lv_at hl 0 rfl) ?_
      refine va_get (ci := 4) (C := RX4) (T := TX4) (N := 6) (pc := 54) hx hb hts hiX4 hown hK hP 7 w7 rfl 4 (by decide) (hts (.fieldLink RX4 29 "InkPress$SheetLog" "goodInARow" "I") (by decide +kernel)) (fun _ h9 => h9) rfl dX4_judge_54 ?_
      refine lv_iload_n (pc := 57) hx hb dX4_judge_57 rfl (lv_at hl 2 rfl) ?_
      refine lv_icmp_lt (tgt := 69) (pc := 58) hx hb dX4_judge_58 (by decide) (fun c58 => ?_) (fun c58 => ?_)
      · skip
        exact hret _ _ _ _ _ hP hD hS ⟨(by first | (have q9 : gJs (gJr false sr) ho (nI sc) ss = ss := gJs_1 c50; rw [q9]; exact w7) | (have q9 : gJs (gJr false sr) ho (nI sc) ss = ss := gJs_2 c58; rw [q9]; exact w7) | (have q9 : gJs (gJr false sr) ho (nI sc) ss = nI sc := gJs_3 c50 c58; rw [q9]; exact w7)), w9, hk⟩ dX4_judge_69
      · skip
        refine lv_aload_n (pc := 61) hx hb dX4_judge_61 rfl (lv_at hl 0 rfl) ?_
        refine lv_aload_n (pc := 62) hx hb dX4_judge_62 rfl (lv_at hl 0 rfl) ?_
        refine va_get (ci := 4) (C := RX4) (T := TX4) (N := 6) (pc := 63) hx hb hts hiX4 hown hK hP 7 w7 rfl 2 (by decide) (hts (.fieldLink RX4 22 "InkPress$SheetLog" "count" "I") (by decide +kernel)) (fun _ h9 => h9) rfl dX4_judge_63 ?_
        refine mx_put (ci := 4) (v := .int (nI (sc))) (ty := .int) (C := RX4) (T := TX4) (N := 6) (pc := 66) hx hb hts hiX4 tyX4 tyX4_ok nmX4 hown hK hP hD hS 7 w7 rfl 5 (by decide) (hts (.fieldLink RX4 32 "InkPress$SheetLog" "start" "I") (by decide +kernel)) (fun _ h9 => h9) rfl (by decide +kernel) rfl rfl (Nat.le_of_ble_eq_true rfl) dX4_judge_66 (fun H locs G hP hD hS w7 ho => ?_)
        have w8 := (ho 8 (by decide)).trans w8
        have w9 := (ho 9 (by decide)).trans w9
        have w7 : G[7]? = some (a 7, .inr (4, [.ref (a 8), .ref (a 9), .int (nI (sc)), .int (sg), .int (nI (0)), .int (nI (sc))])) := w7
        have hk := gk_step hk ho (by decide)
        clear ho
        exact hret _ _ _ _ _ hP hD hS ⟨(by first | (have q9 : gJs (gJr false sr) ho (nI sc) ss = ss := gJs_1 c50; rw [q9]; exact w7) | (have q9 : gJs (gJr false sr) ho (nI sc) ss = ss := gJs_2 c58; rw [q9]; exact w7) | (have q9 : gJs (gJr false sr) ho (nI sc) ss = nI sc := gJs_3 c50 c58; rw [q9]; exact w7)), w9, hk⟩ dX4_judge_69
  · skip
    refine lv_aload_n (pc := 0) hx hb dX4_judge_0 rfl (lv_at hl 0 rfl) ?_
    refine va_get (ci := 4) (C := RX4) (T := TX4) (N := 6) (pc := 1) hx hb hts hiX4 hown hK hP 7 w7 rfl 1 (by decide) (hts (.fieldLink RX4 15 "InkPress$SheetLog" "good" "[Z") (by decide +kernel)) (fun _ h9 => h9) rfl dX4_judge_1 ?_
    refine lv_aload_n (pc := 4) hx hb dX4_judge_4 rfl (lv_at hl 0 rfl) ?_
    refine va_get (ci := 4) (C := RX4) (T := TX4) (N := 6) (pc := 5) hx hb hts hiX4 hown hK hP 7 w7 rfl 2 (by decide) (hts (.fieldLink RX4 22 "InkPress$SheetLog" "count" "I") (by decide +kernel)) (fun _ h9 => h9) rfl dX4_judge_5 ?_
    refine lv_iconst (v := nI (1)) (pc := 8) hx hb dX4_judge_8 (by decide) ?_
    refine mx_isub (pc := 9) hx hb h1 dX4_judge_9 ?_
    refine lv_iload_n (pc := 10) hx hb dX4_judge_10 rfl (lv_at hl 1 rfl) ?_
    refine mx_zast (x := gB (true)) (pc := 11) hx hb hK hP hD hS 9 w9 ((sc) - (1)) (by omega) (by decide) (gB_vnar _) dX4_judge_11 (fun H locs G hP hD hS w9 ho => ?_)
    rw [gUpdB] at w9
    have w7 := (ho 7 (by decide)).trans w7
    have w8 := (ho 8 (by decide)).trans w8
    have w9 : G[9]? = some (a 9, .inl (cZ, 1000, .inl (fun j => gB ((vf_upd (go) ((sc) - (1)) (true)) j)))) := w9
    have hk := gk_step hk ho (by decide)
    clear ho
    refine lv_aload_n (pc := 12) hx hb dX4_judge_12 rfl (lv_at hl 0 rfl) ?_
    refine lv_iload_n (pc := 13) hx hb dX4_judge_13 rfl (lv_at hl 1 rfl) ?_
    refine mx_beq (tgt := 26) (pc := 14) hx hb dX4_judge_14 (by decide) (fun c14 => absurd c14 (by decide)) (fun c14 => ?_)
    refine lv_aload_n (pc := 17) hx hb dX4_judge_17 rfl (lv_at hl 0 rfl) ?_
    refine va_get (ci := 4) (C := RX4) (T := TX4) (N := 6) (pc := 18) hx hb hts hiX4 hown hK hP 7 w7 rfl 4 (by decide) (hts (.fieldLink RX4 29 "InkPress$SheetLog" "goodInARow" "I") (by decide +kernel)) (fun _ h9 => h9) rfl dX4_judge_18 ?_
    refine lv_iconst (v := nI (1)) (pc := 21) hx hb dX4_judge_21 (by decide) ?_
    refine lv_iadd (pc := 22) hx hb dX4_judge_22 ?_
    refine lv_goto (tgt := 27) (pc := 23) hx hb dX4_judge_23 (by decide) ?_
    refine mx_put (ci := 4) (v := .int ((sr + nI (1)))) (ty := .int) (C := RX4) (T := TX4) (N := 6) (pc := 27) hx hb hts hiX4 tyX4 tyX4_ok nmX4 hown hK hP hD hS 7 w7 rfl 4 (by decide) (hts (.fieldLink RX4 29 "InkPress$SheetLog" "goodInARow" "I") (by decide +kernel)) (fun _ h9 => h9) rfl (by decide +kernel) rfl rfl (Nat.le_of_ble_eq_true rfl) dX4_judge_27 (fun H locs G hP hD hS w7 ho => ?_)
    have w8 := (ho 8 (by decide)).trans w8
    have w9 := (ho 9 (by decide)).trans w9
    have w7 : G[7]? = some (a 7, .inr (4, [.ref (a 8), .ref (a 9), .int (nI (sc)), .int (sg), .int ((sr + nI (1))), .int (ss)])) := w7
    have hk := gk_step hk ho (by decide)
    clear ho
    refine lv_iload_n (pc := 30) hx hb dX4_judge_30 rfl (lv_at hl 1 rfl) ?_
    refine mx_beq (tgt := 44) (pc := 31) hx hb dX4_judge_31 (by decide) (fun c31 => absurd c31 (by decide)) (fun c31 => ?_)
    refine lv_aload_n (pc := 34) hx hb dX4_judge_34 rfl (lv_at hl 0 rfl) ?_
    refine lv_dup (pc := 35) hx hb dX4_judge_35 rfl ?_
    refine va_get (ci := 4) (C := RX4) (T := TX4) (N := 6) (pc := 36) hx hb hts hiX4 hown hK hP 7 w7 rfl 3 (by decide) (hts (.fieldLink RX4 26 "InkPress$SheetLog" "goodCount" "I") (by decide +kernel)) (fun _ h9 => h9) rfl dX4_judge_36 ?_
    refine lv_iconst (v := nI (1)) (pc := 39) hx hb dX4_judge_39 (by decide) ?_
    refine lv_iadd (pc := 40) hx hb dX4_judge_40 ?_
    refine mx_put (ci := 4) (v := .int ((sg + nI (1)))) (ty := .int) (C := RX4) (T := TX4) (N := 6) (pc := 41) hx hb hts hiX4 tyX4 tyX4_ok nmX4 hown hK hP hD hS 7 w7 rfl 3 (by decide) (hts (.fieldLink RX4 26 "InkPress$SheetLog" "goodCount" "I") (by decide +kernel)) (fun _ h9 => h9) rfl (by decide +kernel) rfl rfl (Nat.le_of_ble_eq_true rfl) dX4_judge_41 (fun H locs G hP hD hS w7 ho => ?_)
    have w8 := (ho 8 (by decide)).trans w8
    have w9 := (ho 9 (by decide)).trans w9
    have w7 : G[7]? = some (a 7, .inr (4, [.ref (a 8), .ref (a 9), .int (nI (sc)), .int ((sg + nI (1))), .int ((sr + nI (1))), .int (ss)])) := w7
    have hk := gk_step hk ho (by decide)
    clear ho
    refine lv_aload_n (pc := 44) hx hb dX4_judge_44 rfl (lv_at hl 0 rfl) ?_
    refine va_get (ci := 4) (C := RX4) (T := TX4) (N := 6) (pc := 45) hx hb hts hiX4 hown hK hP 7 w7 rfl 5 (by decide) (hts (.fieldLink RX4 32 "InkPress$SheetLog" "start" "I") (by decide +kernel)) (fun _ h9 => h9) rfl dX4_judge_45 ?_
    refine lv_bipush (v := (-6)) (pc := 48) hx hb dX4_judge_48 (by decide) ?_
    refine lv_icmp_ne (tgt := 69) (pc := 50) hx hb dX4_judge_50 (by decide) (fun c50 => ?_) (fun c50 => ?_)
    · skip
      exact hret _ _ _ _ _ hP hD hS ⟨(by first | (have q9 : gJs (gJr true sr) ho (nI sc) ss = ss := gJs_1 c50; rw [q9]; exact w7) | (have q9 : gJs (gJr true sr) ho (nI sc) ss = ss := gJs_2 c58; rw [q9]; exact w7) | (have q9 : gJs (gJr true sr) ho (nI sc) ss = nI sc := gJs_3 c50 c58; rw [q9]; exact w7)), w9, hk⟩ dX4_judge_69
    · skip
      refine lv_aload_n (pc := 53) hx hb dX4_judge_53 rfl (lv_at hl 0 rfl) ?_
      refine va_get (ci := 4) (C := RX4) (T := TX4) (N := 6) (pc := 54) hx hb hts hiX4 hown hK hP 7 w7 rfl 4 (by decide) (hts (.fieldLink RX4 29 "InkPress$SheetLog" "goodInARow" "I") (by decide +kernel)) (fun _ h9 => h9) rfl dX4_judge_54 ?_
      refine lv_iload_n (pc := 57) hx hb dX4_judge_57 rfl (lv_at hl 2 rfl) ?_
      refine lv_icmp_lt (tgt := 69) (pc := 58) hx hb dX4_judge_58 (by decide) (fun c58 => ?_) (fun c58 => ?_)
      · skip
        exact hret _ _ _ _ _ hP hD hS ⟨(by first | (have q9 : gJs (gJr true sr) ho (nI sc) ss = ss := gJs_1 c50; rw [q9]; exact w7) | (have q9 : gJs (gJr true sr) ho (nI sc) ss = ss := gJs_2 c58; rw [q9]; exact w7) | (have q9 : gJs (gJr true sr) ho (nI sc) ss = nI sc := gJs_3 c50 c58; rw [q9]; exact w7)), w9, hk⟩ dX4_judge_69
      · skip
        refine lv_aload_n (pc := 61) hx hb dX4_judge_61 rfl (lv_at hl 0 rfl) ?_
        refine lv_aload_n (pc := 62) hx hb dX4_judge_62 rfl (lv_at hl 0 rfl) ?_
        refine va_get (ci := 4) (C := RX4) (T := TX4) (N := 6) (pc := 63) hx hb hts hiX4 hown hK hP 7 w7 rfl 2 (by decide) (hts (.fieldLink RX4 22 "InkPress$SheetLog" "count" "I") (by decide +kernel)) (fun _ h9 => h9) rfl dX4_judge_63 ?_
        refine mx_put (ci := 4) (v := .int (nI (sc))) (ty := .int) (C := RX4) (T := TX4) (N := 6) (pc := 66) hx hb hts hiX4 tyX4 tyX4_ok nmX4 hown hK hP hD hS 7 w7 rfl 5 (by decide) (hts (.fieldLink RX4 32 "InkPress$SheetLog" "start" "I") (by decide +kernel)) (fun _ h9 => h9) rfl (by decide +kernel) rfl rfl (Nat.le_of_ble_eq_true rfl) dX4_judge_66 (fun H locs G hP hD hS w7 ho => ?_)
        have w8 := (ho 8 (by decide)).trans w8
        have w9 := (ho 9 (by decide)).trans w9
        have w7 : G[7]? = some (a 7, .inr (4, [.ref (a 8), .ref (a 9), .int (nI (sc)), .int ((sg + nI (1))), .int ((sr + nI (1))), .int (nI (sc))])) := w7
        have hk := gk_step hk ho (by decide)
        clear ho
        exact hret _ _ _ _ _ hP hD hS ⟨(by first | (have q9 : gJs (gJr true sr) ho (nI sc) ss = ss := gJs_1 c50; rw [q9]; exact w7) | (have q9 : gJs (gJr true sr) ho (nI sc) ss = ss := gJs_2 c58; rw [q9]; exact w7) | (have q9 : gJs (gJr true sr) ho (nI sc) ss = nI sc := gJs_3 c50 c58; rw [q9]; exact w7)), w9, hk⟩ dX4_judge_69
set_option maxHeartbeats 4000000 in
set_option maxRecDepth 100000 in
theorem k_X2_isEmpty {l : Launch} {D : va_G} {cI cZ : ClassId} {A : Nat → Prop} {g a : Nat → Nat} {G0 : va_W} {pn : Nat} {pX : Int64} {pY : Int64} {pXX : Int64} {pXY : Int64} (hD : va_D A G0) (w10 : G0[10]? = some (a 10, .inr (2, [.int (nI (pn)), .long (pX), .long (pY), .long (pXX), .long (pXY)]))) (hp : pn ≤ 30) : gMi l D cI cZ A g yX2_isEmpty wsX2_isEmpty ({ frames := 0, cells := 0, slots := 0, locals := 0 }) [.ref (a 10)] G0 (gB (decide (pn = 0))) (fun G1 => G1 = G0) := by
  refine gof_z (cc := cX2_isEmpty) (maxL := 1) (by decide) rfl (Nat.le_of_ble_eq_true rfl) hD ?_
  intro p e s m args below meth c Q hx hb hml hts hown hK hN hZ hP hS hret ls hl
  have hown : s.vm.findClass RX2 = some m.cls := hown
  have hl : lv_has ls 1 [(0, .ref (a 10))] := hl
  obtain ⟨locs, elocs⟩ : ∃ q : List Loc, q = [] := ⟨_, rfl⟩
  rw [← elocs] at hS ⊢
  obtain ⟨H, eH⟩ : ∃ q : Heap, q = s.heap := ⟨_, rfl⟩
  have hP : va_P D vwCl G0 H := eH ▸ hP
  have hS : va_S A s.heap H locs := by rw [eH]; exact hS
  rw [← eH]
  clear elocs eH
  have hiX2 : ∀ w ∈ u_ws RX2 TX2 5, w ∈ wsX2_isEmpty := by decide +kernel
  have hk : ∀ k, k ∉ ([] : List Nat) → G0[k]? = G0[k]? := fun _ _ => rfl
  refine lv_aload_n (pc := 0) hx hb dX2_isEmpty_0 rfl (lv_at hl 0 rfl) ?_
  refine va_get (ci := 2) (C := RX2) (T := TX2) (N := 5) (pc := 1) hx hb hts hiX2 hown hK hP 10 w10 rfl 0 (by decide) (hts (.fieldLink RX2 9 "InkPress$PastJobs" "count" "I") (by decide +kernel)) (fun _ h9 => h9) rfl dX2_isEmpty_1 ?_
  refine mx_nne (tgt := 11) (pc := 4) hx hb (by omega) dX2_isEmpty_4 (by decide) (fun c4 => ?_) (fun c4 => ?_)
  · skip
    refine lv_iconst (v := nI (0)) (pc := 11) hx hb dX2_isEmpty_11 (by decide) ?_
    exact hret _ _ _ _ _ _ hP hD hS rfl (by first | exact gDe_f c4 | exact gDe_t c4) rfl dX2_isEmpty_12
  · skip
    refine lv_iconst (v := nI (1)) (pc := 7) hx hb dX2_isEmpty_7 (by decide) ?_
    refine lv_goto (tgt := 12) (pc := 8) hx hb dX2_isEmpty_8 (by decide) ?_
    exact hret _ _ _ _ _ _ hP hD hS rfl (by first | exact gDe_f c4 | exact gDe_t c4) rfl dX2_isEmpty_12
set_option maxHeartbeats 4000000 in
set_option maxRecDepth 100000 in
theorem k_X2_isFull {l : Launch} {D : va_G} {cI cZ : ClassId} {A : Nat → Prop} {g a : Nat → Nat} {G0 : va_W} {pn : Nat} {pX : Int64} {pY : Int64} {pXX : Int64} {pXY : Int64} (hD : va_D A G0) (w10 : G0[10]? = some (a 10, .inr (2, [.int (nI (pn)), .long (pX), .long (pY), .long (pXX), .long (pXY)]))) (hp : pn ≤ 30) : gMi l D cI cZ A g yX2_isFull wsX2_isFull ({ frames := 0, cells := 0, slots := 0, locals := 0 }) [.ref (a 10)] G0 (gB (decide (30 ≤ pn))) (fun G1 => G1 = G0) := by
  refine gof_z (cc := cX2_isFull) (maxL := 1) (by decide) rfl (Nat.le_of_ble_eq_true rfl) hD ?_
  intro p e s m args below meth c Q hx hb hml hts hown hK hN hZ hP hS hret ls hl
  have hown : s.vm.findClass RX2 = some m.cls := hown
  have hl : lv_has ls 1 [(0, .ref (a 10))] := hl
  obtain ⟨locs, elocs⟩ : ∃ q : List Loc, q = [] := ⟨_, rfl⟩
  rw [← elocs] at hS ⊢
  obtain ⟨H, eH⟩ : ∃ q : Heap, q = s.heap := ⟨_, rfl⟩
  have hP : va_P D vwCl G0 H := eH ▸ hP
  have hS : va_S A s.heap H locs := by rw [eH]; exact hS
  rw [← eH]
  clear elocs eH
  have hiX2 : ∀ w ∈ u_ws RX2 TX2 5, w ∈ wsX2_isFull := by decide +kernel
  have hk : ∀ k, k ∉ ([] : List Nat) → G0[k]? = G0[k]? := fun _ _ => rfl
  refine lv_aload_n (pc := 0) hx hb dX2_isFull_0 rfl (lv_at hl 0 rfl) ?_
  refine va_get (ci := 2) (C := RX2) (T := TX2) (N := 5) (pc := 1) hx hb hts hiX2 hown hK hP 10 w10 rfl 0 (by decide) (hts (.fieldLink RX2 9 "InkPress$PastJobs" "count" "I") (by decide +kernel)) (fun _ h9 => h9) rfl dX2_isFull_1 ?_
  refine lv_bipush (v := nI (30)) (pc := 4) hx hb dX2_isFull_4 (by decide) ?_
  refine mx_clt (tgt := 13) (pc := 6) hx hb (by omega) (by omega) dX2_isFull_6 (by decide) (fun c6 => ?_) (fun c6 => ?_)
  · skip
    refine lv_iconst (v := nI (0)) (pc := 13) hx hb dX2_isFull_13 (by decide) ?_
    exact hret _ _ _ _ _ _ hP hD hS rfl (by first | exact gDe_f (Nat.not_le.mpr c6) | exact gDe_t c6) rfl dX2_isFull_14
  · skip
    refine lv_iconst (v := nI (1)) (pc := 9) hx hb dX2_isFull_9 (by decide) ?_
    refine lv_goto (tgt := 14) (pc := 10) hx hb dX2_isFull_10 (by decide) ?_
    exact hret _ _ _ _ _ _ hP hD hS rfl (by first | exact gDe_f (Nat.not_le.mpr c6) | exact gDe_t c6) rfl dX2_isFull_14
set_option maxHeartbeats 4000000 in
set_option maxRecDepth 100000 in
theorem k_X2_add {l : Launch} {D : va_G} {cI cZ : ClassId} {A : Nat → Prop} {g a : Nat → Nat} {G0 : va_W} {pn : Nat} {pX : Int64} {pY : Int64} {pXX : Int64} {pXY : Int64} {cv : Int32} {ky : Int32} (hD : va_D A G0) (w10 : G0[10]? = some (a 10, .inr (2, [.int (nI (pn)), .long (pX), .long (pY), .long (pXX), .long (pXY)]))) : gMi l D cI cZ A g yX2_add wsX2_add ({ frames := 0, cells := 0, slots := 0, locals := 0 }) [.ref (a 10), .int (cv), .int (ky)] G0 (nI (pn + 1)) (fun G1 => G1[10]? = some (a 10, .inr (2, [.int (nI (pn + 1)), .long ((pX + (cv).toInt64)), .long ((pY + (ky).toInt64)), .long ((pXX + ((cv * cv)).toInt64)), .long ((pXY + ((cv * ky)).toInt64))])) ∧ ∀ k, k ∉ [10] → G1[k]? = G0[k]?) := by
  refine gof_i (cc := cX2_add) (maxL := 3) (by decide) rfl (Nat.le_of_ble_eq_true rfl) hD ?_
  intro p e s m args below meth c Q hx hb hml hts hown hK hN hZ hP hS hret ls hl
  have hown : s.vm.findClass RX2 = some m.cls := hown
  have hl : lv_has ls 3 [(0, .ref (a 10)), (1, .int (cv)), (2, .int (ky))] := hl
  obtain ⟨locs, elocs⟩ : ∃ q : List Loc, q = [] := ⟨_, rfl⟩
  rw [← elocs] at hS ⊢
  obtain ⟨H, eH⟩ : ∃ q : Heap, q = s.heap := ⟨_, rfl⟩
  have hP : va_P D vwCl G0 H := eH ▸ hP
  have hS : va_S A s.heap H locs := by rw [eH]; exact hS
  rw [← eH]
  clear elocs eH
  have hiX2 : ∀ w ∈ u_ws RX2 TX2 5, w ∈ wsX2_add := by decide +kernel
  have hk : ∀ k, k ∉ [10] → G0[k]? = G0[k]? := fun _ _ => rfl
  refine lv_aload_n (pc := 0) hx hb dX2_add_0 rfl (lv_at hl 0 rfl) ?_
  refine lv_dup (pc := 1) hx hb dX2_add_1 rfl ?_
  refine va_get (ci := 2) (C := RX2) (T := TX2) (N := 5) (pc := 2) hx hb hts hiX2 hown hK hP 10 w10 rfl 0 (by decide) (hts (.fieldLink RX2 9 "InkPress$PastJobs" "count" "I") (by decide +kernel)) (fun _ h9 => h9) rfl dX2_add_2 ?_
  refine lv_iconst (v := nI (1)) (pc := 5) hx hb dX2_add_5 (by decide) ?_
  refine mx_iadd (pc := 6) hx hb dX2_add_6 ?_
  refine mx_put (ci := 2) (v := .int (nI (pn + 1))) (ty := .int) (C := RX2) (T := TX2) (N := 5) (pc := 7) hx hb hts hiX2 tyX2 tyX2_ok nmX2 hown hK hP hD hS 10 w10 rfl 0 (by decide) (hts (.fieldLink RX2 9 "InkPress$PastJobs" "count" "I") (by decide +kernel)) (fun _ h9 => h9) rfl (by decide +kernel) rfl rfl (Nat.le_of_ble_eq_true rfl) dX2_add_7 (fun H locs G hP hD hS w10 ho => ?_)
  have w10 : G[10]? = some (a 10, .inr (2, [.int (nI (pn + 1)), .long (pX), .long (pY), .long (pXX), .long (pXY)])) := w10
  have hk := gk_step hk ho (by decide)
  clear ho
  refine lv_aload_n (pc := 10) hx hb dX2_add_10 rfl (lv_at hl 0 rfl) ?_
  refine lv_dup (pc := 11) hx hb dX2_add_11 rfl ?_
  refine va_get (ci := 2) (C := RX2) (T := TX2) (N := 5) (pc := 12) hx hb hts hiX2 hown hK hP 10 w10 rfl 1 (by decide) (hts (.fieldLink RX2 15 "InkPress$PastJobs" "covers" "J") (by decide +kernel)) (fun _ h9 => h9) rfl dX2_add_12 ?_
  refine lv_iload_n (pc := 15) hx hb dX2_add_15 rfl (lv_at hl 1 rfl) ?_
  refine lv_i2l (v := (cv).toInt64) (pc := 16) hx hb dX2_add_16 rfl ?_
  refine lv_ladd (pc := 17) hx hb dX2_add_17 ?_
  refine mx_put (ci := 2) (v := .long ((pX + (cv).toInt64))) (ty := .long) (C := RX2) (T := TX2) (N := 5) (pc := 18) hx hb hts hiX2 tyX2 tyX2_ok nmX2 hown hK hP hD hS 10 w10 rfl 1 (by decide) (hts (.fieldLink RX2 15 "InkPress$PastJobs" "covers" "J") (by decide +kernel)) (fun _ h9 => h9) rfl (by decide +kernel) rfl rfl (Nat.le_of_ble_eq_true rfl) dX2_add_18 (fun H locs G hP hD hS w10 ho => ?_)
  have w10 : G[10]? = some (a 10, .inr (2, [.int (nI (pn + 1)), .long ((pX + (cv).toInt64)), .long (pY), .long (pXX), .long (pXY)])) := w10
  have hk := gk_step hk ho (by decide)
  clear ho
  refine lv_aload_n (pc := 21) hx hb dX2_add_21 rfl (lv_at hl 0 rfl) ?_
  refine lv_dup (pc := 22) hx hb dX2_add_22 rfl ?_
  refine va_get (ci := 2) (C := RX2) (T := TX2) (N := 5) (pc := 23) hx hb hts hiX2 hown hK hP 10 w10 rfl 2 (by decide) (hts (.fieldLink RX2 19 "InkPress$PastJobs" "keys" "J") (by decide +kernel)) (fun _ h9 => h9) rfl dX2_add_23 ?_
  refine lv_iload_n (pc := 26) hx hb dX2_add_26 rfl (lv_at hl 2 rfl) ?_
  refine lv_i2l (v := (ky).toInt64) (pc := 27) hx hb dX2_add_27 rfl ?_
  refine lv_ladd (pc := 28) hx hb dX2_add_28 ?_
  refine mx_put (ci := 2) (v := .long ((pY + (ky).toInt64))) (ty := .long) (C := RX2) (T := TX2) (N := 5) (pc := 29) hx hb hts hiX2 tyX2 tyX2_ok nmX2 hown hK hP hD hS 10 w10 rfl 2 (by decide) (hts (.fieldLink RX2 19 "InkPress$PastJobs" "keys" "J") (by decide +kernel)) (fun _ h9 => h9) rfl (by decide +kernel) rfl rfl (Nat.le_of_ble_eq_true rfl) dX2_add_29 (fun H locs G hP hD hS w10 ho => ?_)
  have w10 : G[10]? = some (a 10, .inr (2, [.int (nI (pn + 1)), .long ((pX + (cv).toInt64)), .long ((pY + (ky).toInt64)), .long (pXX), .long (pXY)])) := w10
  have hk := gk_step hk ho (by decide)
  clear ho
  refine lv_aload_n (pc := 32) hx hb dX2_add_32 rfl (lv_at hl 0 rfl) ?_
  refine lv_dup (pc := 33) hx hb dX2_add_33 rfl ?_
  refine va_get (ci := 2) (C := RX2) (T := TX2) (N := 5) (pc := 34) hx hb hts hiX2 hown hK hP 10 w10 rfl 3 (by decide) (hts (.fieldLink RX2 22 "InkPress$PastJobs" "coversSquared" "J") (by decide +kernel)) (fun _ h9 => h9) rfl dX2_add_34 ?_
  refine lv_iload_n (pc := 37) hx hb dX2_add_37 rfl (lv_at hl 1 rfl) ?_
  refine lv_iload_n (pc := 38) hx hb dX2_add_38 rfl (lv_at hl 1 rfl) ?_
  refine lv_imul (pc := 39) hx hb dX2_add_39 ?_
  refine lv_i2l (v := ((cv * cv)).toInt64) (pc := 40) hx hb dX2_add_40 rfl ?_
  refine lv_ladd (pc := 41) hx hb dX2_add_41 ?_
  refine mx_put (ci := 2) (v := .long ((pXX + ((cv * cv)).toInt64))) (ty := .long) (C := RX2) (T := TX2) (N := 5) (pc := 42) hx hb hts hiX2 tyX2 tyX2_ok nmX2 hown hK hP hD hS 10 w10 rfl 3 (by decide) (hts (.fieldLink RX2 22 "InkPress$PastJobs" "coversSquared" "J") (by decide +kernel)) (fun _ h9 => h9) rfl (by decide +kernel) rfl rfl (Nat.le_of_ble_eq_true rfl) dX2_add_42 (fun H locs G hP hD hS w10 ho => ?_)
  have w10 : G[10]? = some (a 10, .inr (2, [.int (nI (pn + 1)), .long ((pX + (cv).toInt64)), .long ((pY + (ky).toInt64)), .long ((pXX + ((cv * cv)).toInt64)), .long (pXY)])) := w10
  have hk := gk_step hk ho (by decide)
  clear ho
  refine lv_aload_n (pc := 45) hx hb dX2_add_45 rfl (lv_at hl 0 rfl) ?_
  refine lv_dup (pc := 46) hx hb dX2_add_46 rfl ?_
  refine va_get (ci := 2) (C := RX2) (T := TX2) (N := 5) (pc := 47) hx hb hts hiX2 hown hK hP 10 w10 rfl 4 (by decide) (hts (.fieldLink RX2 25 "InkPress$PastJobs" "coversByKeys" "J") (by decide +kernel)) (fun _ h9 => h9) rfl dX2_add_47 ?_
  refine lv_iload_n (pc := 50) hx hb dX2_add_50 rfl (lv_at hl 1 rfl) ?_
  refine lv_iload_n (pc := 51) hx hb dX2_add_51 rfl (lv_at hl 2 rfl) ?_
  refine lv_imul (pc := 52) hx hb dX2_add_52 ?_
  refine lv_i2l (v := ((cv * ky)).toInt64) (pc := 53) hx hb dX2_add_53 rfl ?_
  refine lv_ladd (pc := 54) hx hb dX2_add_54 ?_
  refine mx_put (ci := 2) (v := .long ((pXY + ((cv * ky)).toInt64))) (ty := .long) (C := RX2) (T := TX2) (N := 5) (pc := 55) hx hb hts hiX2 tyX2 tyX2_ok nmX2 hown hK hP hD hS 10 w10 rfl 4 (by decide) (hts (.fieldLink RX2 25 "InkPress$PastJobs" "coversByKeys" "J") (by decide +kernel)) (fun _ h9 => h9) rfl (by decide +kernel) rfl rfl (Nat.le_of_ble_eq_true rfl) dX2_add_55 (fun H locs G hP hD hS w10 ho => ?_)
  have w10 : G[10]? = some (a 10, .inr (2, [.int (nI (pn + 1)), .long ((pX + (cv).toInt64)), .long ((pY + (ky).toInt64)), .long ((pXX + ((cv * cv)).toInt64)), .long ((pXY + ((cv * ky)).toInt64))])) := w10
  have hk := gk_step hk ho (by decide)
  clear ho
  refine lv_aload_n (pc := 58) hx hb dX2_add_58 rfl (lv_at hl 0 rfl) ?_
  refine va_get (ci := 2) (C := RX2) (T := TX2) (N := 5) (pc := 59) hx hb hts hiX2 hown hK hP 10 w10 rfl 0 (by decide) (hts (.fieldLink RX2 9 "InkPress$PastJobs" "count" "I") (by decide +kernel)) (fun _ h9 => h9) rfl dX2_add_59 ?_
  exact hret _ _ _ _ _ _ hP hD hS rfl ⟨w10, hk⟩ dX2_add_62
set_option maxHeartbeats 4000000 in
set_option maxRecDepth 100000 in
theorem k_X2_keyFor {l : Launch} {D : va_G} {cI cZ : ClassId} {A : Nat → Prop} {g a : Nat → Nat} {G0 : va_W} {pn : Nat} {pX : Int64} {pY : Int64} {pXX : Int64} {pXY : Int64} {cv : Int32} (hD : va_D A G0) (w10 : G0[10]? = some (a 10, .inr (2, [.int (nI (pn)), .long (pX), .long (pY), .long (pXX), .long (pXY)]))) (hp : pn ≤ 30) : gMi l D cI cZ A g yX2_keyFor wsX2_keyFor ({ frames := 2, cells := 0, slots := 0, locals := 40 }) [.ref (a 10), .int (cv)] G0 (gKey pn pX pY pXX pXY cv) (fun G1 => G1 = G0) := by
  refine gof_i (cc := cX2_keyFor) (maxL := 8) (by decide) rfl (Nat.le_of_ble_eq_true rfl) hD ?_
  intro p e s m args below meth c Q hx hb hml hts hown hK hN hZ hP hS hret ls hl
  have hown : s.vm.findClass RX2 = some m.cls := hown
  have hl : lv_has ls 8 [(0, .ref (a 10)), (1, .int (cv))] := hl
  obtain ⟨locs, elocs⟩ : ∃ q : List Loc, q = [] := ⟨_, rfl⟩
  rw [← elocs] at hS ⊢
  obtain ⟨H, eH⟩ : ∃ q : Heap, q = s.heap := ⟨_, rfl⟩
  have hP : va_P D vwCl G0 H := eH ▸ hP
  have hS : va_S A s.heap H locs := by rw [eH]; exact hS
  rw [← eH]
  clear elocs eH
  have hiX2 : ∀ w ∈ u_ws RX2 TX2 5, w ∈ wsX2_keyFor := by decide +kernel
  have hk : ∀ k, k ∉ ([] : List Nat) → G0[k]? = G0[k]? := fun _ _ => rfl
  refine lv_aload_n (pc := 0) hx hb dX2_keyFor_0 rfl (lv_at hl 0 rfl) ?_
  refine va_get (ci := 2) (C := RX2) (T := TX2) (N := 5) (pc := 1) hx hb hts hiX2 hown hK hP 10 w10 rfl 0 (by decide) (hts (.fieldLink RX2 9 "InkPress$PastJobs" "count" "I") (by decide +kernel)) (fun _ h9 => h9) rfl dX2_keyFor_1 ?_
  refine lv_i2l (v := (nI (pn)).toInt64) (pc := 4) hx hb dX2_keyFor_4 rfl ?_
  refine lv_aload_n (pc := 5) hx hb dX2_keyFor_5 rfl (lv_at hl 0 rfl) ?_
  refine va_get (ci := 2) (C := RX2) (T := TX2) (N := 5) (pc := 6) hx hb hts hiX2 hown hK hP 10 w10 rfl 3 (by decide) (hts (.fieldLink RX2 22 "InkPress$PastJobs" "coversSquared" "J") (by decide +kernel)) (fun _ h9 => h9) rfl dX2_keyFor_6 ?_
  refine lv_lmul (pc := 9) hx hb dX2_keyFor_9 ?_
  refine lv_aload_n (pc := 10) hx hb dX2_keyFor_10 rfl (lv_at hl 0 rfl) ?_
  refine va_get (ci := 2) (C := RX2) (T := TX2) (N := 5) (pc := 11) hx hb hts hiX2 hown hK hP 10 w10 rfl 1 (by decide) (hts (.fieldLink RX2 15 "InkPress$PastJobs" "covers" "J") (by decide +kernel)) (fun _ h9 => h9) rfl dX2_keyFor_11 ?_
  refine lv_aload_n (pc := 14) hx hb dX2_keyFor_14 rfl (lv_at hl 0 rfl) ?_
  refine va_get (ci := 2) (C := RX2) (T := TX2) (N := 5) (pc := 15) hx hb hts hiX2 hown hK hP 10 w10 rfl 1 (by decide) (hts (.fieldLink RX2 15 "InkPress$PastJobs" "covers" "J") (by decide +kernel)) (fun _ h9 => h9) rfl dX2_keyFor_15 ?_
  refine lv_lmul (pc := 18) hx hb dX2_keyFor_18 ?_
  refine lv_lsub (pc := 19) hx hb dX2_keyFor_19 ?_
  refine lv_lstore_n (lv' := [(2, .long ((((nI (pn)).toInt64 * pXX) - (pX * pX)))), (0, .ref (a 10)), (1, .int (cv))]) (pc := 20) hx hb dX2_keyFor_20 rfl hl (by decide) rfl (fun ls hl => ?_)
  refine lv_lload_n (pc := 21) hx hb dX2_keyFor_21 rfl (lv_at hl 0 rfl) ?_
  refine lv_lconst (v := 0) (pc := 22) hx hb dX2_keyFor_22 (by decide) ?_
  refine W.lcmp (pc := 23) hx hb dX2_keyFor_23 ?_
  refine lv_if_eq (tgt := 87) (pc := 24) hx hb dX2_keyFor_24 (by decide) (fun c24 => ?_) (fun c24 => ?_)
  · skip
    have c24 := lg_eq.mp c24
    refine lv_aload_n (pc := 87) hx hb dX2_keyFor_87 rfl (lv_at hl 1 rfl) ?_
    refine va_get (ci := 2) (C := RX2) (T := TX2) (N := 5) (pc := 88) hx hb hts hiX2 hown hK hP 10 w10 rfl 0 (by decide) (hts (.fieldLink RX2 9 "InkPress$PastJobs" "count" "I") (by decide +kernel)) (fun _ h9 => h9) rfl dX2_keyFor_88 ?_
    refine mx_nle (tgt := 108) (pc := 91) hx hb (by omega) dX2_keyFor_91 (by decide) (fun c91 => ?_) (fun c91 => ?_)
    · skip
      refine lv_iconst (v := nI (0)) (pc := 108) hx hb dX2_keyFor_108 (by decide) ?_
      exact hret _ _ _ _ _ _ hP hD hS (by first | exact (gKey_n c24).symm | exact (gKey_0 c24 c91).symm | exact (gKey_z c24 c91).symm) rfl dX2_keyFor_109
    · skip
      refine lv_aload_n (pc := 94) hx hb dX2_keyFor_94 rfl (lv_at hl 1 rfl) ?_
      refine va_get (ci := 2) (C := RX2) (T := TX2) (N := 5) (pc := 95) hx hb hts hiX2 hown hK hP 10 w10 rfl 2 (by decide) (hts (.fieldLink RX2 19 "InkPress$PastJobs" "keys" "J") (by decide +kernel)) (fun _ h9 => h9) rfl dX2_keyFor_95 ?_
      refine lv_aload_n (pc := 98) hx hb dX2_keyFor_98 rfl (lv_at hl 1 rfl) ?_
      refine va_get (ci := 2) (C := RX2) (T := TX2) (N := 5) (pc := 99) hx hb hts hiX2 hown hK hP 10 w10 rfl 0 (by decide) (hts (.fieldLink RX2 9 "InkPress$PastJobs" "count" "I") (by decide +kernel)) (fun _ h9 => h9) rfl dX2_keyFor_99 ?_
      refine lv_i2l (v := (nI (pn)).toInt64) (pc := 102) hx hb dX2_keyFor_102 rfl ?_
      refine lv_ldiv (pc := 103) hx hb dX2_keyFor_103 (gL_ne (gNI_pos c91 (by omega))) ?_
      refine lv_l2i (v := ((pY / (nI (pn)).toInt64)).toInt32) (pc := 104) hx hb dX2_keyFor_104 rfl ?_
      refine lv_goto (tgt := 109) (pc := 105) hx hb dX2_keyFor_105 (by decide) ?_
      exact hret _ _ _ _ _ _ hP hD hS (by first | exact (gKey_n c24).symm | exact (gKey_0 c24 c91).symm | exact (gKey_z c24 c91).symm) rfl dX2_keyFor_109
  · skip
    have c24 := fun z => c24 (lg_eq.mpr z)
    refine lv_aload_n (pc := 27) hx hb dX2_keyFor_27 rfl (lv_at hl 1 rfl) ?_
    refine va_get (ci := 2) (C := RX2) (T := TX2) (N := 5) (pc := 28) hx hb hts hiX2 hown hK hP 10 w10 rfl 2 (by decide) (hts (.fieldLink RX2 19 "InkPress$PastJobs" "keys" "J") (by decide +kernel)) (fun _ h9 => h9) rfl dX2_keyFor_28 ?_
    refine lv_aload_n (pc := 31) hx hb dX2_keyFor_31 rfl (lv_at hl 1 rfl) ?_
    refine va_get (ci := 2) (C := RX2) (T := TX2) (N := 5) (pc := 32) hx hb hts hiX2 hown hK hP 10 w10 rfl 3 (by decide) (hts (.fieldLink RX2 22 "InkPress$PastJobs" "coversSquared" "J") (by decide +kernel)) (fun _ h9 => h9) rfl dX2_keyFor_32 ?_
    refine lv_lmul (pc := 35) hx hb dX2_keyFor_35 ?_
    refine lv_aload_n (pc := 36) hx hb dX2_keyFor_36 rfl (lv_at hl 1 rfl) ?_
    refine va_get (ci := 2) (C := RX2) (T := TX2) (N := 5) (pc := 37) hx hb hts hiX2 hown hK hP 10 w10 rfl 1 (by decide) (hts (.fieldLink RX2 15 "InkPress$PastJobs" "covers" "J") (by decide +kernel)) (fun _ h9 => h9) rfl dX2_keyFor_37 ?_
    refine lv_aload_n (pc := 40) hx hb dX2_keyFor_40 rfl (lv_at hl 1 rfl) ?_
    refine va_get (ci := 2) (C := RX2) (T := TX2) (N := 5) (pc := 41) hx hb hts hiX2 hown hK hP 10 w10 rfl 4 (by decide) (hts (.fieldLink RX2 25 "InkPress$PastJobs" "coversByKeys" "J") (by decide +kernel)) (fun _ h9 => h9) rfl dX2_keyFor_41 ?_
    refine lv_lmul (pc := 44) hx hb dX2_keyFor_44 ?_
    refine lv_lsub (pc := 45) hx hb dX2_keyFor_45 ?_
    refine lv_lstore (lv' := [(4, .long (((pY * pXX) - (pX * pXY)))), (2, .long ((((nI (pn)).toInt64 * pXX) - (pX * pX)))), (0, .ref (a 10)), (1, .int (cv))]) (pc := 46) hx hb dX2_keyFor_46 hl (by decide) rfl (fun ls hl => ?_)
    refine lv_aload_n (pc := 48) hx hb dX2_keyFor_48 rfl (lv_at hl 2 rfl) ?_
    refine va_get (ci := 2) (C := RX2) (T := TX2) (N := 5) (pc := 49) hx hb hts hiX2 hown hK hP 10 w10 rfl 0 (by decide) (hts (.fieldLink RX2 9 "InkPress$PastJobs" "count" "I") (by decide +kernel)) (fun _ h9 => h9) rfl dX2_keyFor_49 ?_
    refine lv_i2l (v := (nI (pn)).toInt64) (pc := 52) hx hb dX2_keyFor_52 rfl ?_
    refine lv_aload_n (pc := 53) hx hb dX2_keyFor_53 rfl (lv_at hl 2 rfl) ?_
    refine va_get (ci := 2) (C := RX2) (T := TX2) (N := 5) (pc := 54) hx hb hts hiX2 hown hK hP 10 w10 rfl 4 (by decide) (hts (.fieldLink RX2 25 "InkPress$PastJobs" "coversByKeys" "J") (by decide +kernel)) (fun _ h9 => h9) rfl dX2_keyFor_54 ?_
    refine lv_lmul (pc := 57) hx hb dX2_keyFor_57 ?_
    refine lv_aload_n (pc := 58) hx hb dX2_keyFor_58 rfl (lv_at hl 2 rfl) ?_
    refine va_get (ci := 2) (C := RX2) (T := TX2) (N := 5) (pc := 59) hx hb hts hiX2 hown hK hP 10 w10 rfl 1 (by decide) (hts (.fieldLink RX2 15 "InkPress$PastJobs" "covers" "J") (by decide +kernel)) (fun _ h9 => h9) rfl dX2_keyFor_59 ?_
    refine lv_aload_n (pc := 62) hx hb dX2_keyFor_62 rfl (lv_at hl 2 rfl) ?_
    refine va_get (ci := 2) (C := RX2) (T := TX2) (N := 5) (pc := 63) hx hb hts hiX2 hown hK hP 10 w10 rfl 2 (by decide) (hts (.fieldLink RX2 19 "InkPress$PastJobs" "keys" "J") (by decide +kernel)) (fun _ h9 => h9) rfl dX2_keyFor_63 ?_
    refine lv_lmul (pc := 66) hx hb dX2_keyFor_66 ?_
    refine lv_lsub (pc := 67) hx hb dX2_keyFor_67 ?_
    refine lv_lstore (lv' := [(6, .long ((((nI (pn)).toInt64 * pXY) - (pX * pY)))), (4, .long (((pY * pXX) - (pX * pXY)))), (2, .long ((((nI (pn)).toInt64 * pXX) - (pX * pX)))), (0, .ref (a 10)), (1, .int (cv))]) (pc := 68) hx hb dX2_keyFor_68 hl (by decide) rfl (fun ls hl => ?_)
    refine lv_lload (pc := 70) hx hb dX2_keyFor_70 (lv_at hl 1 rfl) ?_
    refine lv_iload_n (pc := 72) hx hb dX2_keyFor_72 rfl (lv_at hl 4 rfl) ?_
    refine lv_i2l (v := (cv).toInt64) (pc := 73) hx hb dX2_keyFor_73 rfl ?_
    refine lv_lload (pc := 74) hx hb dX2_keyFor_74 (lv_at hl 0 rfl) ?_
    refine lv_lmul (pc := 76) hx hb dX2_keyFor_76 ?_
    refine lv_ladd (pc := 77) hx hb dX2_keyFor_77 ?_
    refine lv_lload_n (pc := 78) hx hb dX2_keyFor_78 rfl (lv_at hl 2 rfl) ?_
    refine lv_ldiv (pc := 79) hx hb dX2_keyFor_79 c24 ?_
    refine lv_iconst (v := nI (0)) (pc := 80) hx hb dX2_keyFor_80 (by decide) ?_
    refine lv_bipush (v := nI (100)) (pc := 81) hx hb dX2_keyFor_81 (by decide) ?_
    refine mx_cNi (As := [.long (((((pY * pXX) - (pX * pXY)) + ((cv).toInt64 * (((nI (pn)).toInt64 * pXY) - (pX * pY)))) / (((nI (pn)).toInt64 * pXX) - (pX * pX)))), .int (nI (0)), .int (nI (100))]) (rest := []) (pc := 83) ⟨hx, hb, hml, hown, hts⟩ (k_X7_held (a := a) (v := ((((pY * pXX) - (pX * pXY)) + ((cv).toInt64 * (((nI (pn)).toInt64 * pXY) - (pX * pY)))) / (((nI (pn)).toInt64 * pXX) - (pX * pX)))) (lo := nI (0)) (hi := nI (100)) hD  ) ⟨va_cnB (host := "InkPress") 3 hts gX2_keyFor_X7_held_n28 rfl rfl rfl (hN (.methodLinkNest "InkPress$PastJobs" 28 ⟨"InkPress", "held", "(JII)I"⟩ "InkPress") (by decide +kernel)) (hts (.initialized RX7) (by decide +kernel)) (by decide +kernel) ⟨Nat.le_of_ble_eq_true rfl, Nat.le_of_ble_eq_true rfl⟩, hts (.static yX7_held) (by decide +kernel), trivial⟩ hK hN hZ hP hS rfl hl.1 rfl (Nat.le_of_ble_eq_true rfl) dX2_keyFor_83 ⟨Nat.zero_le _, Nat.zero_le _⟩ (fun G' H locs hP hD hS hB => ?_)
    rw [hB] at hP hD
    clear hB G'
    exact hret _ _ _ _ _ _ hP hD hS (by first | exact (gKey_n c24).symm | exact (gKey_0 c24 c91).symm | exact (gKey_z c24 c91).symm) rfl dX2_keyFor_86
end
section
/-! the marks -/
def gSp (n : Nat) (m1 m2 m3 m4 m5 m6 m7 : Int64) : Int64 := (nI n).toInt64 * m5 - m1 * m1 - m2 * m2
def gStr (n : Nat) (m1 m2 m3 m4 m5 m6 m7 : Int64) : Int64 := (nI n).toInt64 * m6 - m1 * m3 - m2 * m4
def gTu (n : Nat) (m1 m2 m3 m4 m5 m6 m7 : Int64) : Int64 := (nI n).toInt64 * m7 - m1 * m4 + m2 * m3
def gAc (n : Nat) (m1 m2 m3 m4 m5 m6 m7 : Int64) : Int64 := m3 * gSp n m1 m2 m3 m4 m5 m6 m7 - gStr n m1 m2 m3 m4 m5 m6 m7 * m1 + gTu n m1 m2 m3 m4 m5 m6 m7 * m2
def gUp (n : Nat) (m1 m2 m3 m4 m5 m6 m7 : Int64) : Int64 := m4 * gSp n m1 m2 m3 m4 m5 m6 m7 - gStr n m1 m2 m3 m4 m5 m6 m7 * m2 - gTu n m1 m2 m3 m4 m5 m6 m7 * m1
def gTh (lo : Int64) (u : Int32) (md : Int64) : Int32 := if 0 < lo then (1000 * (u.toInt64 * lo - md) / lo).toInt32 else nI 0
theorem gTh_0 {lo : Int64} {u : Int32} {md : Int64} (h : lo ≤ 0) : gTh lo u md = nI 0 := if_neg (Int64.not_lt.mpr h)
theorem gTh_1 {lo : Int64} {u : Int32} {md : Int64} (h : 0 < lo) : gTh lo u md = (1000 * (u.toInt64 * lo - md) / lo).toInt32 := if_pos h
def gUpp (wh n : Nat) (m1 m2 m3 m4 m5 m6 m7 : Int64) : Int64 := match wh with
  | 0 => gStr n m1 m2 m3 m4 m5 m6 m7
  | 1 => gTu n m1 m2 m3 m4 m5 m6 m7
  | 2 => gAc n m1 m2 m3 m4 m5 m6 m7
  | _ => gUp n m1 m2 m3 m4 m5 m6 m7
def gLow (wh n : Nat) (m1 m2 m3 m4 m5 m6 m7 : Int64) : Int64 := match wh with
  | 0 => gSp n m1 m2 m3 m4 m5 m6 m7
  | 1 => gSp n m1 m2 m3 m4 m5 m6 m7
  | _ => gSp n m1 m2 m3 m4 m5 m6 m7 * (nI n).toInt64
set_option maxHeartbeats 4000000 in
set_option maxRecDepth 100000 in
theorem k_X1_has {l : Launch} {D : va_G} {cI cZ : ClassId} {A : Nat → Prop} {g a : Nat → Nat} {G0 : va_W} {mx : Nat → Int32} {my : Nat → Int32} {mdx : Nat → Int32} {mdy : Nat → Int32} {mn : Nat} {m1 : Int64} {m2 : Int64} {m3 : Int64} {m4 : Int64} {m5 : Int64} {m6 : Int64} {m7 : Int64} {x : Int32} (hD : va_D A G0) (w11 : G0[11]? = some (a 11, .inr (1, [.ref (a 12), .ref (a 13), .ref (a 14), .ref (a 15), .int (nI (mn)), .long (m1), .long (m2), .long (m3), .long (m4), .long (m5), .long (m6), .long (m7)]))) (w12 : G0[12]? = some (a 12, .inl (cI, 8, .inl (mx)))) (w13 : G0[13]? = some (a 13, .inl (cI, 8, .inl (my)))) (w14 : G0[14]? = some (a 14, .inl (cI, 8, .inl (mdx)))) (w15 : G0[15]? = some (a 15, .inl (cI, 8, .inl (mdy)))) : gMi l D cI cZ A g yX1_has wsX1_has ({ frames := 0, cells := 0, slots := 0, locals := 0 }) [.ref (a 11), .int (x)] G0 (gB (gHas x (nI mn))) (fun G1 => G1 = G0) := by
  refine gof_z (cc := cX1_has) (maxL := 2) (by decide) rfl (Nat.le_of_ble_eq_true rfl) hD ?_
  intro p e s m args below meth c Q hx hb hml hts hown hK hN hZ hP hS hret ls hl
  have hown : s.vm.findClass RX1 = some m.cls := hown
  have hl : lv_has ls 2 [(0, .ref (a 11)), (1, .int (x))] := hl
  obtain ⟨locs, elocs⟩ : ∃ q : List Loc, q = [] := ⟨_, rfl⟩
  rw [← elocs] at hS ⊢
  obtain ⟨H, eH⟩ : ∃ q : Heap, q = s.heap := ⟨_, rfl⟩
  have hP : va_P D vwCl G0 H := eH ▸ hP
  have hS : va_S A s.heap H locs := by rw [eH]; exact hS
  rw [← eH]
  clear elocs eH
  have hiX1 : ∀ w ∈ u_ws RX1 TX1 12, w ∈ wsX1_has := by decide +kernel
  have hk : ∀ k, k ∉ ([] : List Nat) → G0[k]? = G0[k]? := fun _ _ => rfl
  refine lv_iload_n (pc := 0) hx hb dX1_has_0 rfl (lv_at hl 1 rfl) ?_
  refine lv_if_lt (tgt := 16) (pc := 1) hx hb dX1_has_1 (by decide) (fun c1 => ?_) (fun c1 => ?_)
  · skip
    refine lv_iconst (v := nI (0)) (pc := 16) hx hb dX1_has_16 (by decide) ?_
    exact hret _ _ _ _ _ _ hP hD hS rfl (by first | exact gHas_lt c1 | exact gHas_ge c9 | exact gHas_in c1 c9) rfl dX1_has_17
  · skip
    refine lv_iload_n (pc := 4) hx hb dX1_has_4 rfl (lv_at hl 1 rfl) ?_
    refine lv_aload_n (pc := 5) hx hb dX1_has_5 rfl (lv_at hl 0 rfl) ?_
    refine va_get (ci := 1) (C := RX1) (T := TX1) (N := 12) (pc := 6) hx hb hts hiX1 hown hK hP 11 w11 rfl 4 (by decide) (hts (.fieldLink RX1 28 "InkPress$Marks" "count" "I") (by decide +kernel)) (fun _ h9 => h9) rfl dX1_has_6 ?_
    refine lv_icmp_ge (tgt := 16) (pc := 9) hx hb dX1_has_9 (by decide) (fun c9 => ?_) (fun c9 => ?_)
    · skip
      refine lv_iconst (v := nI (0)) (pc := 16) hx hb dX1_has_16 (by decide) ?_
      exact hret _ _ _ _ _ _ hP hD hS rfl (by first | exact gHas_lt c1 | exact gHas_ge c9 | exact gHas_in c1 c9) rfl dX1_has_17
    · skip
      refine lv_iconst (v := nI (1)) (pc := 12) hx hb dX1_has_12 (by decide) ?_
      refine lv_goto (tgt := 17) (pc := 13) hx hb dX1_has_13 (by decide) ?_
      exact hret _ _ _ _ _ _ hP hD hS rfl (by first | exact gHas_lt c1 | exact gHas_ge c9 | exact gHas_in c1 c9) rfl dX1_has_17
set_option maxHeartbeats 4000000 in
set_option maxRecDepth 100000 in
theorem k_X1_isFull {l : Launch} {D : va_G} {cI cZ : ClassId} {A : Nat → Prop} {g a : Nat → Nat} {G0 : va_W} {mx : Nat → Int32} {my : Nat → Int32} {mdx : Nat → Int32} {mdy : Nat → Int32} {mn : Nat} {m1 : Int64} {m2 : Int64} {m3 : Int64} {m4 : Int64} {m5 : Int64} {m6 : Int64} {m7 : Int64} (hD : va_D A G0) (w11 : G0[11]? = some (a 11, .inr (1, [.ref (a 12), .ref (a 13), .ref (a 14), .ref (a 15), .int (nI (mn)), .long (m1), .long (m2), .long (m3), .long (m4), .long (m5), .long (m6), .long (m7)]))) (w12 : G0[12]? = some (a 12, .inl (cI, 8, .inl (mx)))) (w13 : G0[13]? = some (a 13, .inl (cI, 8, .inl (my)))) (w14 : G0[14]? = some (a 14, .inl (cI, 8, .inl (mdx)))) (w15 : G0[15]? = some (a 15, .inl (cI, 8, .inl (mdy)))) (hm : mn ≤ 8) : gMi l D cI cZ A g yX1_isFull wsX1_isFull ({ frames := 0, cells := 0, slots := 0, locals := 0 }) [.ref (a 11)] G0 (gB (decide (8 ≤ mn))) (fun G1 => G1 = G0) := by
  refine gof_z (cc := cX1_isFull) (maxL := 1) (by decide) rfl (Nat.le_of_ble_eq_true rfl) hD ?_
  intro p e s m args below meth c Q hx hb hml hts hown hK hN hZ hP hS hret ls hl
  have hown : s.vm.findClass RX1 = some m.cls := hown
  have hl : lv_has ls 1 [(0, .ref (a 11))] := hl
  obtain ⟨locs, elocs⟩ : ∃ q : List Loc, q = [] := ⟨_, rfl⟩
  rw [← elocs] at hS ⊢
  obtain ⟨H, eH⟩ : ∃ q : Heap, q = s.heap := ⟨_, rfl⟩
  have hP : va_P D vwCl G0 H := eH ▸ hP
  have hS : va_S A s.heap H locs := by rw [eH]; exact hS
  rw [← eH]
  clear elocs eH
  have hiX1 : ∀ w ∈ u_ws RX1 TX1 12, w ∈ wsX1_isFull := by decide +kernel
  have hk : ∀ k, k ∉ ([] : List Nat) → G0[k]? = G0[k]? := fun _ _ => rfl
  refine lv_aload_n (pc := 0) hx hb dX1_isFull_0 rfl (lv_at hl 0 rfl) ?_
  refine va_get (ci := 1) (C := RX1) (T := TX1) (N := 12) (pc := 1) hx hb hts hiX1 hown hK hP 11 w11 rfl 4 (by decide) (hts (.fieldLink RX1 28 "InkPress$Marks" "count" "I") (by decide +kernel)) (fun _ h9 => h9) rfl dX1_isFull_1 ?_
  refine lv_bipush (v := nI (8)) (pc := 4) hx hb dX1_isFull_4 (by decide) ?_
  refine mx_clt (tgt := 13) (pc := 6) hx hb (by omega) (by omega) dX1_isFull_6 (by decide) (fun c6 => ?_) (fun c6 => ?_)
  · skip
    refine lv_iconst (v := nI (0)) (pc := 13) hx hb dX1_isFull_13 (by decide) ?_
    exact hret _ _ _ _ _ _ hP hD hS rfl (by first | exact gDe_f (Nat.not_le.mpr c6) | exact gDe_t c6) rfl dX1_isFull_14
  · skip
    refine lv_iconst (v := nI (1)) (pc := 9) hx hb dX1_isFull_9 (by decide) ?_
    refine lv_goto (tgt := 14) (pc := 10) hx hb dX1_isFull_10 (by decide) ?_
    exact hret _ _ _ _ _ _ hP hD hS rfl (by first | exact gDe_f (Nat.not_le.mpr c6) | exact gDe_t c6) rfl dX1_isFull_14
set_option maxHeartbeats 4000000 in
set_option maxRecDepth 100000 in
theorem k_X1_add {l : Launch} {D : va_G} {cI cZ : ClassId} {A : Nat → Prop} {g a : Nat → Nat} {G0 : va_W} {mx : Nat → Int32} {my : Nat → Int32} {mdx : Nat → Int32} {mdy : Nat → Int32} {mn : Nat} {m1 : Int64} {m2 : Int64} {m3 : Int64} {m4 : Int64} {m5 : Int64} {m6 : Int64} {m7 : Int64} {x : Int32} {y : Int32} {u : Int32} {v : Int32} (hD : va_D A G0) (w11 : G0[11]? = some (a 11, .inr (1, [.ref (a 12), .ref (a 13), .ref (a 14), .ref (a 15), .int (nI (mn)), .long (m1), .long (m2), .long (m3), .long (m4), .long (m5), .long (m6), .long (m7)]))) (w12 : G0[12]? = some (a 12, .inl (cI, 8, .inl (mx)))) (w13 : G0[13]? = some (a 13, .inl (cI, 8, .inl (my)))) (w14 : G0[14]? = some (a 14, .inl (cI, 8, .inl (mdx)))) (w15 : G0[15]? = some (a 15, .inl (cI, 8, .inl (mdy)))) (hm : mn < 8) : gMi l D cI cZ A g yX1_add wsX1_add ({ frames := 0, cells := 0, slots := 0, locals := 0 }) [.ref (a 11), .int (x), .int (y), .int (u), .int (v)] G0 (nI (mn + 1)) (fun G1 => G1[11]? = some (a 11, .inr (1, [.ref (a 12), .ref (a 13), .ref (a 14), .ref (a 15), .int (nI (mn + 1)), .long ((m1 + (x).toInt64)), .long ((m2 + (y).toInt64)), .long ((m3 + (u).toInt64)), .long ((m4 + (v).toInt64)), .long ((m5 + (((x * x) + (y * y))).toInt64)), .long ((m6 + (((x * u) + (y * v))).toInt64)), .long ((m7 + (((x * v) - (y * u))).toInt64))])) ∧ G1[12]? = some (a 12, .inl (cI, 8, .inl (upd mx mn x))) ∧ G1[13]? = some (a 13, .inl (cI, 8, .inl (upd my mn y))) ∧ G1[14]? = some (a 14, .inl (cI, 8, .inl (upd mdx mn u))) ∧ G1[15]? = some (a 15, .inl (cI, 8, .inl (upd mdy mn v))) ∧ ∀ k, k ∉ [11, 12, 13, 14, 15] → G1[k]? = G0[k]?) := by
  refine gof_i (cc := cX1_add) (maxL := 5) (by decide) rfl (Nat.le_of_ble_eq_true rfl) hD ?_
  intro p e s m args below meth c Q hx hb hml hts hown hK hN hZ hP hS hret ls hl
  have hown : s.vm.findClass RX1 = some m.cls := hown
  have hl : lv_has ls 5 [(0, .ref (a 11)), (1, .int (x)), (2, .int (y)), (3, .int (u)), (4, .int (v))] := hl
  obtain ⟨locs, elocs⟩ : ∃ q : List Loc, q = [] := ⟨_, rfl⟩
  rw [← elocs] at hS ⊢
  obtain ⟨H, eH⟩ : ∃ q : Heap, q = s.heap := ⟨_, rfl⟩
  have hP : va_P D vwCl G0 H := eH ▸ hP
  have hS : va_S A s.heap H locs := by rw [eH]; exact hS
  rw [← eH]
  clear elocs eH
  have hiX1 : ∀ w ∈ u_ws RX1 TX1 12, w ∈ wsX1_add := by decide +kernel
  have hk : ∀ k, k ∉ [11, 12, 13, 14, 15] → G0[k]? = G0[k]? := fun _ _ => rfl
  refine lv_aload_n (pc := 0) hx hb dX1_add_0 rfl (lv_at hl 0 rfl) ?_
  refine va_get (ci := 1) (C := RX1) (T := TX1) (N := 12) (pc := 1) hx hb hts hiX1 hown hK hP 11 w11 rfl 0 (by decide) (hts (.fieldLink RX1 11 "InkPress$Marks" "x" "[I") (by decide +kernel)) (fun _ h9 => h9) rfl dX1_add_1 ?_
  refine lv_aload_n (pc := 4) hx hb dX1_add_4 rfl (lv_at hl 0 rfl) ?_
  refine va_get (ci := 1) (C := RX1) (T := TX1) (N := 12) (pc := 5) hx hb hts hiX1 hown hK hP 11 w11 rfl 4 (by decide) (hts (.fieldLink RX1 28 "InkPress$Marks" "count" "I") (by decide +kernel)) (fun _ h9 => h9) rfl dX1_add_5 ?_
  refine lv_iload_n (pc := 8) hx hb dX1_add_8 rfl (lv_at hl 1 rfl) ?_
  refine mx_iast (x := x) (pc := 9) hx hb hK hP hD hS 12 w12 (mn) (by omega) (by decide) dX1_add_9 (fun H locs G hP hD hS w12 ho => ?_)
  have w11 := (ho 11 (by decide)).trans w11
  have w13 := (ho 13 (by decide)).trans w13
  have w14 := (ho 14 (by decide)).trans w14
  have w15 := (ho 15 (by decide)).trans w15
  have w12 : G[12]? = some (a 12, .inl (cI, 8, .inl (upd (mx) (mn) (x)))) := w12
  have hk := gk_step hk ho (by decide)
  clear ho
  refine lv_aload_n (pc := 10) hx hb dX1_add_10 rfl (lv_at hl 0 rfl) ?_
  refine va_get (ci := 1) (C := RX1) (T := TX1) (N := 12) (pc := 11) hx hb hts hiX1 hown hK hP 11 w11 rfl 1 (by decide) (hts (.fieldLink RX1 15 "InkPress$Marks" "y" "[I") (by decide +kernel)) (fun _ h9 => h9) rfl dX1_add_11 ?_
  refine lv_aload_n (pc := 14) hx hb dX1_add_14 rfl (lv_at hl 0 rfl) ?_
  refine va_get (ci := 1) (C := RX1) (T := TX1) (N := 12) (pc := 15) hx hb hts hiX1 hown hK hP 11 w11 rfl 4 (by decide) (hts (.fieldLink RX1 28 "InkPress$Marks" "count" "I") (by decide +kernel)) (fun _ h9 => h9) rfl dX1_add_15 ?_
  refine lv_iload_n (pc := 18) hx hb dX1_add_18 rfl (lv_at hl 2 rfl) ?_
  refine mx_iast (x := y) (pc := 19) hx hb hK hP hD hS 13 w13 (mn) (by omega) (by decide) dX1_add_19 (fun H locs G hP hD hS w13 ho => ?_)
  have w11 := (ho 11 (by decide)).trans w11
  have w12 := (ho 12 (by decide)).trans w12
  have w14 := (ho 14 (by decide)).trans w14
  have w15 := (ho 15 (by decide)).trans w15
  have w13 : G[13]? = some (a 13, .inl (cI, 8, .inl (upd (my) (mn) (y)))) := w13
  have hk := gk_step hk ho (by decide)
  clear ho
  refine lv_aload_n (pc := 20) hx hb dX1_add_20 rfl (lv_at hl 0 rfl) ?_
  refine va_get (ci := 1) (C := RX1) (T := TX1) (N := 12) (pc := 21) hx hb hts hiX1 hown hK hP 11 w11 rfl 2 (by decide) (hts (.fieldLink RX1 18 "InkPress$Marks" "dx" "[I") (by decide +kernel)) (fun _ h9 => h9) rfl dX1_add_21 ?_
  refine lv_aload_n (pc := 24) hx hb dX1_add_24 rfl (lv_at hl 0 rfl) ?_
  refine va_get (ci := 1) (C := RX1) (T := TX1) (N := 12) (pc := 25) hx hb hts hiX1 hown hK hP 11 w11 rfl 4 (by decide) (hts (.fieldLink RX1 28 "InkPress$Marks" "count" "I") (by decide +kernel)) (fun _ h9 => h9) rfl dX1_add_25 ?_
  refine lv_iload_n (pc := 28) hx hb dX1_add_28 rfl (lv_at hl 3 rfl) ?_
  refine mx_iast (x := u) (pc := 29) hx hb hK hP hD hS 14 w14 (mn) (by omega) (by decide) dX1_add_29 (fun H locs G hP hD hS w14 ho => ?_)
  have w11 := (ho 11 (by decide)).trans w11
  have w12 := (ho 12 (by decide)).trans w12
  have w13 := (ho 13 (by decide)).trans w13
  have w15 := (ho 15 (by decide)).trans w15
  have w14 : G[14]? = some (a 14, .inl (cI, 8, .inl (upd (mdx) (mn) (u)))) := w14
  have hk := gk_step hk ho (by decide)
  clear ho
  refine lv_aload_n (pc := 30) hx hb dX1_add_30 rfl (lv_at hl 0 rfl) ?_
  refine va_get (ci := 1) (C := RX1) (T := TX1) (N := 12) (pc := 31) hx hb hts hiX1 hown hK hP 11 w11 rfl 3 (by decide) (hts (.fieldLink RX1 21 "InkPress$Marks" "dy" "[I") (by decide +kernel)) (fun _ h9 => h9) rfl dX1_add_31 ?_
  refine lv_aload_n (pc := 34) hx hb dX1_add_34 rfl (lv_at hl 0 rfl) ?_
  refine va_get (ci := 1) (C := RX1) (T := TX1) (N := 12) (pc := 35) hx hb hts hiX1 hown hK hP 11 w11 rfl 4 (by decide) (hts (.fieldLink RX1 28 "InkPress$Marks" "count" "I") (by decide +kernel)) (fun _ h9 => h9) rfl dX1_add_35 ?_
  refine lv_iload (pc := 38) hx hb dX1_add_38 (lv_at hl 4 rfl) ?_
  refine mx_iast (x := v) (pc := 40) hx hb hK hP hD hS 15 w15 (mn) (by omega) (by decide) dX1_add_40 (fun H locs G hP hD hS w15 ho => ?_)
  have w11 := (ho 11 (by decide)).trans w11
  have w12 := (ho 12 (by decide)).trans w12
  have w13 := (ho 13 (by decide)).trans w13
  have w14 := (ho 14 (by decide)).trans w14
  have w15 : G[15]? = some (a 15, .inl (cI, 8, .inl (upd (mdy) (mn) (v)))) := w15
  have hk := gk_step hk ho (by decide)
  clear ho
  refine lv_aload_n (pc := 41) hx hb dX1_add_41 rfl (lv_at hl 0 rfl) ?_
  refine lv_dup (pc := 42) hx hb dX1_add_42 rfl ?_
  refine va_get (ci := 1) (C := RX1) (T := TX1) (N := 12) (pc := 43) hx hb hts hiX1 hown hK hP 11 w11 rfl 4 (by decide) (hts (.fieldLink RX1 28 "InkPress$Marks" "count" "I") (by decide +kernel)) (fun _ h9 => h9) rfl dX1_add_43 ?_
  refine lv_iconst (v := nI (1)) (pc := 46) hx hb dX1_add_46 (by decide) ?_
  refine mx_iadd (pc := 47) hx hb dX1_add_47 ?_
  refine mx_put (ci := 1) (v := .int (nI (mn + 1))) (ty := .int) (C := RX1) (T := TX1) (N := 12) (pc := 48) hx hb hts hiX1 tyX1 tyX1_ok nmX1 hown hK hP hD hS 11 w11 rfl 4 (by decide) (hts (.fieldLink RX1 28 "InkPress$Marks" "count" "I") (by decide +kernel)) (fun _ h9 => h9) rfl (by decide +kernel) rfl rfl (Nat.le_of_ble_eq_true rfl) dX1_add_48 (fun H locs G hP hD hS w11 ho => ?_)
  have w12 := (ho 12 (by decide)).trans w12
  have w13 := (ho 13 (by decide)).trans w13
  have w14 := (ho 14 (by decide)).trans w14
  have w15 := (ho 15 (by decide)).trans w15
  have w11 : G[11]? = some (a 11, .inr (1, [.ref (a 12), .ref (a 13), .ref (a 14), .ref (a 15), .int (nI (mn + 1)), .long (m1), .long (m2), .long (m3), .long (m4), .long (m5), .long (m6), .long (m7)])) := w11
  have hk := gk_step hk ho (by decide)
  clear ho
  refine lv_aload_n (pc := 51) hx hb dX1_add_51 rfl (lv_at hl 0 rfl) ?_
  refine lv_dup (pc := 52) hx hb dX1_add_52 rfl ?_
  refine va_get (ci := 1) (C := RX1) (T := TX1) (N := 12) (pc := 53) hx hb hts hiX1 hown hK hP 11 w11 rfl 5 (by decide) (hts (.fieldLink RX1 32 "InkPress$Marks" "sumX" "J") (by decide +kernel)) (fun _ h9 => h9) rfl dX1_add_53 ?_
  refine lv_iload_n (pc := 56) hx hb dX1_add_56 rfl (lv_at hl 1 rfl) ?_
  refine lv_i2l (v := (x).toInt64) (pc := 57) hx hb dX1_add_57 rfl ?_
  refine lv_ladd (pc := 58) hx hb dX1_add_58 ?_
  refine mx_put (ci := 1) (v := .long ((m1 + (x).toInt64))) (ty := .long) (C := RX1) (T := TX1) (N := 12) (pc := 59) hx hb hts hiX1 tyX1 tyX1_ok nmX1 hown hK hP hD hS 11 w11 rfl 5 (by decide) (hts (.fieldLink RX1 32 "InkPress$Marks" "sumX" "J") (by decide +kernel)) (fun _ h9 => h9) rfl (by decide +kernel) rfl rfl (Nat.le_of_ble_eq_true rfl) dX1_add_59 (fun H locs G hP hD hS w11 ho => ?_)
  have w12 := (ho 12 (by decide)).trans w12
  have w13 := (ho 13 (by decide)).trans w13
  have w14 := (ho 14 (by decide)).trans w14
  have w15 := (ho 15 (by decide)).trans w15
  have w11 : G[11]? = some (a 11, .inr (1, [.ref (a 12), .ref (a 13), .ref (a 14), .ref (a 15), .int (nI (mn + 1)), .long ((m1 + (x).toInt64)), .long (m2), .long (m3), .long (m4), .long (m5), .long (m6), .long (m7)])) := w11
  have hk := gk_step hk ho (by decide)
  clear ho
  refine lv_aload_n (pc := 62) hx hb dX1_add_62 rfl (lv_at hl 0 rfl) ?_
  refine lv_dup (pc := 63) hx hb dX1_add_63 rfl ?_
  refine va_get (ci := 1) (C := RX1) (T := TX1) (N := 12) (pc := 64) hx hb hts hiX1 hown hK hP 11 w11 rfl 6 (by decide) (hts (.fieldLink RX1 36 "InkPress$Marks" "sumY" "J") (by decide +kernel)) (fun _ h9 => h9) rfl dX1_add_64 ?_
  refine lv_iload_n (pc := 67) hx hb dX1_add_67 rfl (lv_at hl 2 rfl) ?_
  refine lv_i2l (v := (y).toInt64) (pc := 68) hx hb dX1_add_68 rfl ?_
  refine lv_ladd (pc := 69) hx hb dX1_add_69 ?_
  refine mx_put (ci := 1) (v := .long ((m2 + (y).toInt64))) (ty := .long) (C := RX1) (T := TX1) (N := 12) (pc := 70) hx hb hts hiX1 tyX1 tyX1_ok nmX1 hown hK hP hD hS 11 w11 rfl 6 (by decide) (hts (.fieldLink RX1 36 "InkPress$Marks" "sumY" "J") (by decide +kernel)) (fun _ h9 => h9) rfl (by decide +kernel) rfl rfl (Nat.le_of_ble_eq_true rfl) dX1_add_70 (fun H locs G hP hD hS w11 ho => ?_)
  have w12 := (ho 12 (by decide)).trans w12
  have w13 := (ho 13 (by decide)).trans w13
  have w14 := (ho 14 (by decide)).trans w14
  have w15 := (ho 15 (by decide)).trans w15
  have w11 : G[11]? = some (a 11, .inr (1, [.ref (a 12), .ref (a 13), .ref (a 14), .ref (a 15), .int (nI (mn + 1)), .long ((m1 + (x).toInt64)), .long ((m2 + (y).toInt64)), .long (m3), .long (m4), .long (m5), .long (m6), .long (m7)])) := w11
  have hk := gk_step hk ho (by decide)
  clear ho
  refine lv_aload_n (pc := 73) hx hb dX1_add_73 rfl (lv_at hl 0 rfl) ?_
  refine lv_dup (pc := 74) hx hb dX1_add_74 rfl ?_
  refine va_get (ci := 1) (C := RX1) (T := TX1) (N := 12) (pc := 75) hx hb hts hiX1 hown hK hP 11 w11 rfl 7 (by decide) (hts (.fieldLink RX1 39 "InkPress$Marks" "sumDx" "J") (by decide +kernel)) (fun _ h9 => h9) rfl dX1_add_75 ?_
  refine lv_iload_n (pc := 78) hx hb dX1_add_78 rfl (lv_at hl 3 rfl) ?_
  refine lv_i2l (v := (u).toInt64) (pc := 79) hx hb dX1_add_79 rfl ?_
  refine lv_ladd (pc := 80) hx hb dX1_add_80 ?_
  refine mx_put (ci := 1) (v := .long ((m3 + (u).toInt64))) (ty := .long) (C := RX1) (T := TX1) (N := 12) (pc := 81) hx hb hts hiX1 tyX1 tyX1_ok nmX1 hown hK hP hD hS 11 w11 rfl 7 (by decide) (hts (.fieldLink RX1 39 "InkPress$Marks" "sumDx" "J") (by decide +kernel)) (fun _ h9 => h9) rfl (by decide +kernel) rfl rfl (Nat.le_of_ble_eq_true rfl) dX1_add_81 (fun H locs G hP hD hS w11 ho => ?_)
  have w12 := (ho 12 (by decide)).trans w12
  have w13 := (ho 13 (by decide)).trans w13
  have w14 := (ho 14 (by decide)).trans w14
  have w15 := (ho 15 (by decide)).trans w15
  have w11 : G[11]? = some (a 11, .inr (1, [.ref (a 12), .ref (a 13), .ref (a 14), .ref (a 15), .int (nI (mn + 1)), .long ((m1 + (x).toInt64)), .long ((m2 + (y).toInt64)), .long ((m3 + (u).toInt64)), .long (m4), .long (m5), .long (m6), .long (m7)])) := w11
  have hk := gk_step hk ho (by decide)
  clear ho
  refine lv_aload_n (pc := 84) hx hb dX1_add_84 rfl (lv_at hl 0 rfl) ?_
  refine lv_dup (pc := 85) hx hb dX1_add_85 rfl ?_
  refine va_get (ci := 1) (C := RX1) (T := TX1) (N := 12) (pc := 86) hx hb hts hiX1 hown hK hP 11 w11 rfl 8 (by decide) (hts (.fieldLink RX1 42 "InkPress$Marks" "sumDy" "J") (by decide +kernel)) (fun _ h9 => h9) rfl dX1_add_86 ?_
  refine lv_iload (pc := 89) hx hb dX1_add_89 (lv_at hl 4 rfl) ?_
  refine lv_i2l (v := (v).toInt64) (pc := 91) hx hb dX1_add_91 rfl ?_
  refine lv_ladd (pc := 92) hx hb dX1_add_92 ?_
  refine mx_put (ci := 1) (v := .long ((m4 + (v).toInt64))) (ty := .long) (C := RX1) (T := TX1) (N := 12) (pc := 93) hx hb hts hiX1 tyX1 tyX1_ok nmX1 hown hK hP hD hS 11 w11 rfl 8 (by decide) (hts (.fieldLink RX1 42 "InkPress$Marks" "sumDy" "J") (by decide +kernel)) (fun _ h9 => h9) rfl (by decide +kernel) rfl rfl (Nat.le_of_ble_eq_true rfl) dX1_add_93 (fun H locs G hP hD hS w11 ho => ?_)
  have w12 := (ho 12 (by decide)).trans w12
  have w13 := (ho 13 (by decide)).trans w13
  have w14 := (ho 14 (by decide)).trans w14
  have w15 := (ho 15 (by decide)).trans w15
  have w11 : G[11]? = some (a 11, .inr (1, [.ref (a 12), .ref (a 13), .ref (a 14), .ref (a 15), .int (nI (mn + 1)), .long ((m1 + (x).toInt64)), .long ((m2 + (y).toInt64)), .long ((m3 + (u).toInt64)), .long ((m4 + (v).toInt64)), .long (m5), .long (m6), .long (m7)])) := w11
  have hk := gk_step hk ho (by decide)
  clear ho
  refine lv_aload_n (pc := 96) hx hb dX1_add_96 rfl (lv_at hl 0 rfl) ?_
  refine lv_dup (pc := 97) hx hb dX1_add_97 rfl ?_
  refine va_get (ci := 1) (C := RX1) (T := TX1) (N := 12) (pc := 98) hx hb hts hiX1 hown hK hP 11 w11 rfl 9 (by decide) (hts (.fieldLink RX1 45 "InkPress$Marks" "sumSquares" "J") (by decide +kernel)) (fun _ h9 => h9) rfl dX1_add_98 ?_
  refine lv_iload_n (pc := 101) hx hb dX1_add_101 rfl (lv_at hl 1 rfl) ?_
  refine lv_iload_n (pc := 102) hx hb dX1_add_102 rfl (lv_at hl 1 rfl) ?_
  refine lv_imul (pc := 103) hx hb dX1_add_103 ?_
  refine lv_iload_n (pc := 104) hx hb dX1_add_104 rfl (lv_at hl 2 rfl) ?_
  refine lv_iload_n (pc := 105) hx hb dX1_add_105 rfl (lv_at hl 2 rfl) ?_
  refine lv_imul (pc := 106) hx hb dX1_add_106 ?_
  refine lv_iadd (pc := 107) hx hb dX1_add_107 ?_
  refine lv_i2l (v := (((x * x) + (y * y))).toInt64) (pc := 108) hx hb dX1_add_108 rfl ?_
  refine lv_ladd (pc := 109) hx hb dX1_add_109 ?_
  refine mx_put (ci := 1) (v := .long ((m5 + (((x * x) + (y * y))).toInt64))) (ty := .long) (C := RX1) (T := TX1) (N := 12) (pc := 110) hx hb hts hiX1 tyX1 tyX1_ok nmX1 hown hK hP hD hS 11 w11 rfl 9 (by decide) (hts (.fieldLink RX1 45 "InkPress$Marks" "sumSquares" "J") (by decide +kernel)) (fun _ h9 => h9) rfl (by decide +kernel) rfl rfl (Nat.le_of_ble_eq_true rfl) dX1_add_110 (fun H locs G hP hD hS w11 ho => ?_)
  have w12 := (ho 12 (by decide)).trans w12
  have w13 := (ho 13 (by decide)).trans w13
  have w14 := (ho 14 (by decide)).trans w14
  have w15 := (ho 15 (by decide)).trans w15
  have w11 : G[11]? = some (a 11, .inr (1, [.ref (a 12), .ref (a 13), .ref (a 14), .ref (a 15), .int (nI (mn + 1)), .long ((m1 + (x).toInt64)), .long ((m2 + (y).toInt64)), .long ((m3 + (u).toInt64)), .long ((m4 + (v).toInt64)), .long ((m5 + (((x * x) + (y * y))).toInt64)), .long (m6), .long (m7)])) := w11
  have hk := gk_step hk ho (by decide)
  clear ho
  refine lv_aload_n (pc := 113) hx hb dX1_add_113 rfl (lv_at hl 0 rfl) ?_
  refine lv_dup (pc := 114) hx hb dX1_add_114 rfl ?_
  refine va_get (ci := 1) (C := RX1) (T := TX1) (N := 12) (pc := 115) hx hb hts hiX1 hown hK hP 11 w11 rfl 10 (by decide) (hts (.fieldLink RX1 48 "InkPress$Marks" "sumOutward" "J") (by decide +kernel)) (fun _ h9 => h9) rfl dX1_add_115 ?_
  refine lv_iload_n (pc := 118) hx hb dX1_add_118 rfl (lv_at hl 1 rfl) ?_
  refine lv_iload_n (pc := 119) hx hb dX1_add_119 rfl (lv_at hl 3 rfl) ?_
  refine lv_imul (pc := 120) hx hb dX1_add_120 ?_
  refine lv_iload_n (pc := 121) hx hb dX1_add_121 rfl (lv_at hl 2 rfl) ?_
  refine lv_iload (pc := 122) hx hb dX1_add_122 (lv_at hl 4 rfl) ?_
  refine lv_imul (pc := 124) hx hb dX1_add_124 ?_
  refine lv_iadd (pc := 125) hx hb dX1_add_125 ?_
  refine lv_i2l (v := (((x * u) + (y * v))).toInt64) (pc := 126) hx hb dX1_add_126 rfl ?_
  refine lv_ladd (pc := 127) hx hb dX1_add_127 ?_
  refine mx_put (ci := 1) (v := .long ((m6 + (((x * u) + (y * v))).toInt64))) (ty := .long) (C := RX1) (T := TX1) (N := 12) (pc := 128) hx hb hts hiX1 tyX1 tyX1_ok nmX1 hown hK hP hD hS 11 w11 rfl 10 (by decide) (hts (.fieldLink RX1 48 "InkPress$Marks" "sumOutward" "J") (by decide +kernel)) (fun _ h9 => h9) rfl (by decide +kernel) rfl rfl (Nat.le_of_ble_eq_true rfl) dX1_add_128 (fun H locs G hP hD hS w11 ho => ?_)
  have w12 := (ho 12 (by decide)).trans w12
  have w13 := (ho 13 (by decide)).trans w13
  have w14 := (ho 14 (by decide)).trans w14
  have w15 := (ho 15 (by decide)).trans w15
  have w11 : G[11]? = some (a 11, .inr (1, [.ref (a 12), .ref (a 13), .ref (a 14), .ref (a 15), .int (nI (mn + 1)), .long ((m1 + (x).toInt64)), .long ((m2 + (y).toInt64)), .long ((m3 + (u).toInt64)), .long ((m4 + (v).toInt64)), .long ((m5 + (((x * x) + (y * y))).toInt64)), .long ((m6 + (((x * u) + (y * v))).toInt64)), .long (m7)])) := w11
  have hk := gk_step hk ho (by decide)
  clear ho
  refine lv_aload_n (pc := 131) hx hb dX1_add_131 rfl (lv_at hl 0 rfl) ?_
  refine lv_dup (pc := 132) hx hb dX1_add_132 rfl ?_
  refine va_get (ci := 1) (C := RX1) (T := TX1) (N := 12) (pc := 133) hx hb hts hiX1 hown hK hP 11 w11 rfl 11 (by decide) (hts (.fieldLink RX1 51 "InkPress$Marks" "sumAround" "J") (by decide +kernel)) (fun _ h9 => h9) rfl dX1_add_133 ?_
  refine lv_iload_n (pc := 136) hx hb dX1_add_136 rfl (lv_at hl 1 rfl) ?_
  refine lv_iload (pc := 137) hx hb dX1_add_137 (lv_at hl 4 rfl) ?_
  refine lv_imul (pc := 139) hx hb dX1_add_139 ?_
  refine lv_iload_n (pc := 140) hx hb dX1_add_140 rfl (lv_at hl 2 rfl) ?_
  refine lv_iload_n (pc := 141) hx hb dX1_add_141 rfl (lv_at hl 3 rfl) ?_
  refine lv_imul (pc := 142) hx hb dX1_add_142 ?_
  refine lv_isub (pc := 143) hx hb dX1_add_143 ?_
  refine lv_i2l (v := (((x * v) - (y * u))).toInt64) (pc := 144) hx hb dX1_add_144 rfl ?_
  refine lv_ladd (pc := 145) hx hb dX1_add_145 ?_
  refine mx_put (ci := 1) (v := .long ((m7 + (((x * v) - (y * u))).toInt64))) (ty := .long) (C := RX1) (T := TX1) (N := 12) (pc := 146) hx hb hts hiX1 tyX1 tyX1_ok nmX1 hown hK hP hD hS 11 w11 rfl 11 (by decide) (hts (.fieldLink RX1 51 "InkPress$Marks" "sumAround" "J") (by decide +kernel)) (fun _ h9 => h9) rfl (by decide +kernel) rfl rfl (Nat.le_of_ble_eq_true rfl) dX1_add_146 (fun H locs G hP hD hS w11 ho => ?_)
  have w12 := (ho 12 (by decide)).trans w12
  have w13 := (ho 13 (by decide)).trans w13
  have w14 := (ho 14 (by decide)).trans w14
  have w15 := (ho 15 (by decide)).trans w15
  have w11 : G[11]? = some (a 11, .inr (1, [.ref (a 12), .ref (a 13), .ref (a 14), .ref (a 15), .int (nI (mn + 1)), .long ((m1 + (x).toInt64)), .long ((m2 + (y).toInt64)), .long ((m3 + (u).toInt64)), .long ((m4 + (v).toInt64)), .long ((m5 + (((x * x) + (y * y))).toInt64)), .long ((m6 + (((x * u) + (y * v))).toInt64)), .long ((m7 + (((x * v) - (y * u))).toInt64))])) := w11
  have hk := gk_step hk ho (by decide)
  clear ho
  refine lv_aload_n (pc := 149) hx hb dX1_add_149 rfl (lv_at hl 0 rfl) ?_
  refine va_get (ci := 1) (C := RX1) (T := TX1) (N := 12) (pc := 150) hx hb hts hiX1 hown hK hP 11 w11 rfl 4 (by decide) (hts (.fieldLink RX1 28 "InkPress$Marks" "count" "I") (by decide +kernel)) (fun _ h9 => h9) rfl dX1_add_150 ?_
  exact hret _ _ _ _ _ _ hP hD hS rfl ⟨w11, w12, w13, w14, w15, hk⟩ dX1_add_153
set_option maxHeartbeats 4000000 in
set_option maxRecDepth 100000 in
theorem k_X1_removeAll {l : Launch} {D : va_G} {cI cZ : ClassId} {A : Nat → Prop} {g a : Nat → Nat} {G0 : va_W} {mx : Nat → Int32} {my : Nat → Int32} {mdx : Nat → Int32} {mdy : Nat → Int32} {mn : Nat} {m1 : Int64} {m2 : Int64} {m3 : Int64} {m4 : Int64} {m5 : Int64} {m6 : Int64} {m7 : Int64} (hD : va_D A G0) (w11 : G0[11]? = some (a 11, .inr (1, [.ref (a 12), .ref (a 13), .ref (a 14), .ref (a 15), .int (nI (mn)), .long (m1), .long (m2), .long (m3), .long (m4), .long (m5), .long (m6), .long (m7)]))) (w12 : G0[12]? = some (a 12, .inl (cI, 8, .inl (mx)))) (w13 : G0[13]? = some (a 13, .inl (cI, 8, .inl (my)))) (w14 : G0[14]? = some (a 14, .inl (cI, 8, .inl (mdx)))) (w15 : G0[15]? = some (a 15, .inl (cI, 8, .inl (mdy)))) : gMi l D cI cZ A g yX1_removeAll wsX1_removeAll ({ frames := 0, cells := 0, slots := 0, locals := 0 }) [.ref (a 11)] G0 (nI (mn)) (fun G1 => G1[11]? = some (a 11, .inr (1, [.ref (a 12), .ref (a 13), .ref (a 14), .ref (a 15), .int (nI (0)), .long (0), .long (0), .long (0), .long (0), .long (0), .long (0), .long (0)])) ∧ ∀ k, k ∉ [11] → G1[k]? = G0[k]?) := by
  refine gof_i (cc := cX1_removeAll) (maxL := 2) (by decide) rfl (Nat.le_of_ble_eq_true rfl) hD ?_
  intro p e s m args below meth c Q hx hb hml hts hown hK hN hZ hP hS hret ls hl
  have hown : s.vm.findClass RX1 = some m.cls := hown
  have hl : lv_has ls 2 [(0, .ref (a 11))] := hl
  obtain ⟨locs, elocs⟩ : ∃ q : List Loc, q = [] := ⟨_, rfl⟩
  rw [← elocs] at hS ⊢
  obtain ⟨H, eH⟩ : ∃ q : Heap, q = s.heap := ⟨_, rfl⟩
  have hP : va_P D vwCl G0 H := eH ▸ hP
  have hS : va_S A s.heap H locs := by rw [eH]; exact hS
  rw [← eH]
  clear elocs eH
  have hiX1 : ∀ w ∈ u_ws RX1 TX1 12, w ∈ wsX1_removeAll := by decide +kernel
  have hk : ∀ k, k ∉ [11] → G0[k]? = G0[k]? := fun _ _ => rfl
  refine lv_aload_n (pc := 0) hx hb dX1_removeAll_0 rfl (lv_at hl 0 rfl) ?_
  refine va_get (ci := 1) (C := RX1) (T := TX1) (N := 12) (pc := 1) hx hb hts hiX1 hown hK hP 11 w11 rfl 4 (by decide) (hts (.fieldLink RX1 28 "InkPress$Marks" "count" "I") (by decide +kernel)) (fun _ h9 => h9) rfl dX1_removeAll_1 ?_
  refine lv_istore_n (lv' := [(1, .int (nI (mn))), (0, .ref (a 11))]) (pc := 4) hx hb dX1_removeAll_4 rfl hl (by decide) rfl (fun ls hl => ?_)
  refine lv_aload_n (pc := 5) hx hb dX1_removeAll_5 rfl (lv_at hl 1 rfl) ?_
  refine lv_iconst (v := nI (0)) (pc := 6) hx hb dX1_removeAll_6 (by decide) ?_
  refine mx_put (ci := 1) (v := .int (nI (0))) (ty := .int) (C := RX1) (T := TX1) (N := 12) (pc := 7) hx hb hts hiX1 tyX1 tyX1_ok nmX1 hown hK hP hD hS 11 w11 rfl 4 (by decide) (hts (.fieldLink RX1 28 "InkPress$Marks" "count" "I") (by decide +kernel)) (fun _ h9 => h9) rfl (by decide +kernel) rfl rfl (Nat.le_of_ble_eq_true rfl) dX1_removeAll_7 (fun H locs G hP hD hS w11 ho => ?_)
  have w12 := (ho 12 (by decide)).trans w12
  have w13 := (ho 13 (by decide)).trans w13
  have w14 := (ho 14 (by decide)).trans w14
  have w15 := (ho 15 (by decide)).trans w15
  have w11 : G[11]? = some (a 11, .inr (1, [.ref (a 12), .ref (a 13), .ref (a 14), .ref (a 15), .int (nI (0)), .long (m1), .long (m2), .long (m3), .long (m4), .long (m5), .long (m6), .long (m7)])) := w11
  have hk := gk_step hk ho (by decide)
  clear ho
  refine lv_aload_n (pc := 10) hx hb dX1_removeAll_10 rfl (lv_at hl 1 rfl) ?_
  refine lv_lconst (v := 0) (pc := 11) hx hb dX1_removeAll_11 (by decide) ?_
  refine mx_put (ci := 1) (v := .long (0)) (ty := .long) (C := RX1) (T := TX1) (N := 12) (pc := 12) hx hb hts hiX1 tyX1 tyX1_ok nmX1 hown hK hP hD hS 11 w11 rfl 5 (by decide) (hts (.fieldLink RX1 32 "InkPress$Marks" "sumX" "J") (by decide +kernel)) (fun _ h9 => h9) rfl (by decide +kernel) rfl rfl (Nat.le_of_ble_eq_true rfl) dX1_removeAll_12 (fun H locs G hP hD hS w11 ho => ?_)
  have w12 := (ho 12 (by decide)).trans w12
  have w13 := (ho 13 (by decide)).trans w13
  have w14 := (ho 14 (by decide)).trans w14
  have w15 := (ho 15 (by decide)).trans w15
  have w11 : G[11]? = some (a 11, .inr (1, [.ref (a 12), .ref (a 13), .ref (a 14), .ref (a 15), .int (nI (0)), .long (0), .long (m2), .long (m3), .long (m4), .long (m5), .long (m6), .long (m7)])) := w11
  have hk := gk_step hk ho (by decide)
  clear ho
  refine lv_aload_n (pc := 15) hx hb dX1_removeAll_15 rfl (lv_at hl 1 rfl) ?_
  refine lv_lconst (v := 0) (pc := 16) hx hb dX1_removeAll_16 (by decide) ?_
  refine mx_put (ci := 1) (v := .long (0)) (ty := .long) (C := RX1) (T := TX1) (N := 12) (pc := 17) hx hb hts hiX1 tyX1 tyX1_ok nmX1 hown hK hP hD hS 11 w11 rfl 6 (by decide) (hts (.fieldLink RX1 36 "InkPress$Marks" "sumY" "J") (by decide +kernel)) (fun _ h9 => h9) rfl (by decide +kernel) rfl rfl (Nat.le_of_ble_eq_true rfl) dX1_removeAll_17 (fun H locs G hP hD hS w11 ho => ?_)
  have w12 := (ho 12 (by decide)).trans w12
  have w13 := (ho 13 (by decide)).trans w13
  have w14 := (ho 14 (by decide)).trans w14
  have w15 := (ho 15 (by decide)).trans w15
  have w11 : G[11]? = some (a 11, .inr (1, [.ref (a 12), .ref (a 13), .ref (a 14), .ref (a 15), .int (nI (0)), .long (0), .long (0), .long (m3), .long (m4), .long (m5), .long (m6), .long (m7)])) := w11
  have hk := gk_step hk ho (by decide)
  clear ho
  refine lv_aload_n (pc := 20) hx hb dX1_removeAll_20 rfl (lv_at hl 1 rfl) ?_
  refine lv_lconst (v := 0) (pc := 21) hx hb dX1_removeAll_21 (by decide) ?_
  refine mx_put (ci := 1) (v := .long (0)) (ty := .long) (C := RX1) (T := TX1) (N := 12) (pc := 22) hx hb hts hiX1 tyX1 tyX1_ok nmX1 hown hK hP hD hS 11 w11 rfl 7 (by decide) (hts (.fieldLink RX1 39 "InkPress$Marks" "sumDx" "J") (by decide +kernel)) (fun _ h9 => h9) rfl (by decide +kernel) rfl rfl (Nat.le_of_ble_eq_true rfl) dX1_removeAll_22 (fun H locs G hP hD hS w11 ho => ?_)
  have w12 := (ho 12 (by decide)).trans w12
  have w13 := (ho 13 (by decide)).trans w13
  have w14 := (ho 14 (by decide)).trans w14
  have w15 := (ho 15 (by decide)).trans w15
  have w11 : G[11]? = some (a 11, .inr (1, [.ref (a 12), .ref (a 13), .ref (a 14), .ref (a 15), .int (nI (0)), .long (0), .long (0), .long (0), .long (m4), .long (m5), .long (m6), .long (m7)])) := w11
  have hk := gk_step hk ho (by decide)
  clear ho
  refine lv_aload_n (pc := 25) hx hb dX1_removeAll_25 rfl (lv_at hl 1 rfl) ?_
  refine lv_lconst (v := 0) (pc := 26) hx hb dX1_removeAll_26 (by decide) ?_
  refine mx_put (ci := 1) (v := .long (0)) (ty := .long) (C := RX1) (T := TX1) (N := 12) (pc := 27) hx hb hts hiX1 tyX1 tyX1_ok nmX1 hown hK hP hD hS 11 w11 rfl 8 (by decide) (hts (.fieldLink RX1 42 "InkPress$Marks" "sumDy" "J") (by decide +kernel)) (fun _ h9 => h9) rfl (by decide +kernel) rfl rfl (Nat.le_of_ble_eq_true rfl) dX1_removeAll_27 (fun H locs G hP hD hS w11 ho => ?_)
  have w12 := (ho 12 (by decide)).trans w12
  have w13 := (ho 13 (by decide)).trans w13
  have w14 := (ho 14 (by decide)).trans w14
  have w15 := (ho 15 (by decide)).trans w15
  have w11 : G[11]? = some (a 11, .inr (1, [.ref (a 12), .ref (a 13), .ref (a 14), .ref (a 15), .int (nI (0)), .long (0), .long (0), .long (0), .long (0), .long (m5), .long (m6), .long (m7)])) := w11
  have hk := gk_step hk ho (by decide)
  clear ho
  refine lv_aload_n (pc := 30) hx hb dX1_removeAll_30 rfl (lv_at hl 1 rfl) ?_
  refine lv_lconst (v := 0) (pc := 31) hx hb dX1_removeAll_31 (by decide) ?_
  refine mx_put (ci := 1) (v := .long (0)) (ty := .long) (C := RX1) (T := TX1) (N := 12) (pc := 32) hx hb hts hiX1 tyX1 tyX1_ok nmX1 hown hK hP hD hS 11 w11 rfl 9 (by decide) (hts (.fieldLink RX1 45 "InkPress$Marks" "sumSquares" "J") (by decide +kernel)) (fun _ h9 => h9) rfl (by decide +kernel) rfl rfl (Nat.le_of_ble_eq_true rfl) dX1_removeAll_32 (fun H locs G hP hD hS w11 ho => ?_)
  have w12 := (ho 12 (by decide)).trans w12
  have w13 := (ho 13 (by decide)).trans w13
  have w14 := (ho 14 (by decide)).trans w14
  have w15 := (ho 15 (by decide)).trans w15
  have w11 : G[11]? = some (a 11, .inr (1, [.ref (a 12), .ref (a 13), .ref (a 14), .ref (a 15), .int (nI (0)), .long (0), .long (0), .long (0), .long (0), .long (0), .long (m6), .long (m7)])) := w11
  have hk := gk_step hk ho (by decide)
  clear ho
  refine lv_aload_n (pc := 35) hx hb dX1_removeAll_35 rfl (lv_at hl 1 rfl) ?_
  refine lv_lconst (v := 0) (pc := 36) hx hb dX1_removeAll_36 (by decide) ?_
  refine mx_put (ci := 1) (v := .long (0)) (ty := .long) (C := RX1) (T := TX1) (N := 12) (pc := 37) hx hb hts hiX1 tyX1 tyX1_ok nmX1 hown hK hP hD hS 11 w11 rfl 10 (by decide) (hts (.fieldLink RX1 48 "InkPress$Marks" "sumOutward" "J") (by decide +kernel)) (fun _ h9 => h9) rfl (by decide +kernel) rfl rfl (Nat.le_of_ble_eq_true rfl) dX1_removeAll_37 (fun H locs G hP hD hS w11 ho => ?_)
  have w12 := (ho 12 (by decide)).trans w12
  have w13 := (ho 13 (by decide)).trans w13
  have w14 := (ho 14 (by decide)).trans w14
  have w15 := (ho 15 (by decide)).trans w15
  have w11 : G[11]? = some (a 11, .inr (1, [.ref (a 12), .ref (a 13), .ref (a 14), .ref (a 15), .int (nI (0)), .long (0), .long (0), .long (0), .long (0), .long (0), .long (0), .long (m7)])) := w11
  have hk := gk_step hk ho (by decide)
  clear ho
  refine lv_aload_n (pc := 40) hx hb dX1_removeAll_40 rfl (lv_at hl 1 rfl) ?_
  refine lv_lconst (v := 0) (pc := 41) hx hb dX1_removeAll_41 (by decide) ?_
  refine mx_put (ci := 1) (v := .long (0)) (ty := .long) (C := RX1) (T := TX1) (N := 12) (pc := 42) hx hb hts hiX1 tyX1 tyX1_ok nmX1 hown hK hP hD hS 11 w11 rfl 11 (by decide) (hts (.fieldLink RX1 51 "InkPress$Marks" "sumAround" "J") (by decide +kernel)) (fun _ h9 => h9) rfl (by decide +kernel) rfl rfl (Nat.le_of_ble_eq_true rfl) dX1_removeAll_42 (fun H locs G hP hD hS w11 ho => ?_)
  have w12 := (ho 12 (by decide)).trans w12
  have w13 := (ho 13 (by decide)).trans w13
  have w14 := (ho 14 (by decide)).trans w14
  have w15 := (ho 15 (by decide)).trans w15
  have w11 : G[11]? = some (a 11, .inr (1, [.ref (a 12), .ref (a 13), .ref (a 14), .ref (a 15), .int (nI (0)), .long (0), .long (0), .long (0), .long (0), .long (0), .long (0), .long (0)])) := w11
  have hk := gk_step hk ho (by decide)
  clear ho
  refine lv_iload_n (pc := 45) hx hb dX1_removeAll_45 rfl (lv_at hl 0 rfl) ?_
  exact hret _ _ _ _ _ _ hP hD hS rfl ⟨w11, hk⟩ dX1_removeAll_46
set_option maxHeartbeats 4000000 in
set_option maxRecDepth 100000 in
theorem k_X1_spread {l : Launch} {D : va_G} {cI cZ : ClassId} {A : Nat → Prop} {g a : Nat → Nat} {G0 : va_W} {mx : Nat → Int32} {my : Nat → Int32} {mdx : Nat → Int32} {mdy : Nat → Int32} {mn : Nat} {m1 : Int64} {m2 : Int64} {m3 : Int64} {m4 : Int64} {m5 : Int64} {m6 : Int64} {m7 : Int64} (hD : va_D A G0) (w11 : G0[11]? = some (a 11, .inr (1, [.ref (a 12), .ref (a 13), .ref (a 14), .ref (a 15), .int (nI (mn)), .long (m1), .long (m2), .long (m3), .long (m4), .long (m5), .long (m6), .long (m7)]))) (w12 : G0[12]? = some (a 12, .inl (cI, 8, .inl (mx)))) (w13 : G0[13]? = some (a 13, .inl (cI, 8, .inl (my)))) (w14 : G0[14]? = some (a 14, .inl (cI, 8, .inl (mdx)))) (w15 : G0[15]? = some (a 15, .inl (cI, 8, .inl (mdy)))) : gMl l D cI cZ A g yX1_spread wsX1_spread ({ frames := 0, cells := 0, slots := 0, locals := 0 }) [.ref (a 11)] G0 (gSp mn m1 m2 m3 m4 m5 m6 m7) (fun G1 => G1 = G0) := by
  refine gof_l (cc := cX1_spread) (maxL := 1) (by decide) rfl (Nat.le_of_ble_eq_true rfl) hD ?_
  intro p e s m args below meth c Q hx hb hml hts hown hK hN hZ hP hS hret ls hl
  have hown : s.vm.findClass RX1 = some m.cls := hown
  have hl : lv_has ls 1 [(0, .ref (a 11))] := hl
  obtain ⟨locs, elocs⟩ : ∃ q : List Loc, q = [] := ⟨_, rfl⟩
  rw [← elocs] at hS ⊢
  obtain ⟨H, eH⟩ : ∃ q : Heap, q = s.heap := ⟨_, rfl⟩
  have hP : va_P D vwCl G0 H := eH ▸ hP
  have hS : va_S A s.heap H locs := by rw [eH]; exact hS
  rw [← eH]
  clear elocs eH
  have hiX1 : ∀ w ∈ u_ws RX1 TX1 12, w ∈ wsX1_spread := by decide +kernel
  have hk : ∀ k, k ∉ ([] : List Nat) → G0[k]? = G0[k]? := fun _ _ => rfl
  refine lv_aload_n (pc := 0) hx hb dX1_spread_0 rfl (lv_at hl 0 rfl) ?_
  refine va_get (ci := 1) (C := RX1) (T := TX1) (N := 12) (pc := 1) hx hb hts hiX1 hown hK hP 11 w11 rfl 4 (by decide) (hts (.fieldLink RX1 28 "InkPress$Marks" "count" "I") (by decide +kernel)) (fun _ h9 => h9) rfl dX1_spread_1 ?_
  refine lv_i2l (v := (nI (mn)).toInt64) (pc := 4) hx hb dX1_spread_4 rfl ?_
  refine lv_aload_n (pc := 5) hx hb dX1_spread_5 rfl (lv_at hl 0 rfl) ?_
  refine va_get (ci := 1) (C := RX1) (T := TX1) (N := 12) (pc := 6) hx hb hts hiX1 hown hK hP 11 w11 rfl 9 (by decide) (hts (.fieldLink RX1 45 "InkPress$Marks" "sumSquares" "J") (by decide +kernel)) (fun _ h9 => h9) rfl dX1_spread_6 ?_
  refine lv_lmul (pc := 9) hx hb dX1_spread_9 ?_
  refine lv_aload_n (pc := 10) hx hb dX1_spread_10 rfl (lv_at hl 0 rfl) ?_
  refine va_get (ci := 1) (C := RX1) (T := TX1) (N := 12) (pc := 11) hx hb hts hiX1 hown hK hP 11 w11 rfl 5 (by decide) (hts (.fieldLink RX1 32 "InkPress$Marks" "sumX" "J") (by decide +kernel)) (fun _ h9 => h9) rfl dX1_spread_11 ?_
  refine lv_aload_n (pc := 14) hx hb dX1_spread_14 rfl (lv_at hl 0 rfl) ?_
  refine va_get (ci := 1) (C := RX1) (T := TX1) (N := 12) (pc := 15) hx hb hts hiX1 hown hK hP 11 w11 rfl 5 (by decide) (hts (.fieldLink RX1 32 "InkPress$Marks" "sumX" "J") (by decide +kernel)) (fun _ h9 => h9) rfl dX1_spread_15 ?_
  refine lv_lmul (pc := 18) hx hb dX1_spread_18 ?_
  refine lv_lsub (pc := 19) hx hb dX1_spread_19 ?_
  refine lv_aload_n (pc := 20) hx hb dX1_spread_20 rfl (lv_at hl 0 rfl) ?_
  refine va_get (ci := 1) (C := RX1) (T := TX1) (N := 12) (pc := 21) hx hb hts hiX1 hown hK hP 11 w11 rfl 6 (by decide) (hts (.fieldLink RX1 36 "InkPress$Marks" "sumY" "J") (by decide +kernel)) (fun _ h9 => h9) rfl dX1_spread_21 ?_
  refine lv_aload_n (pc := 24) hx hb dX1_spread_24 rfl (lv_at hl 0 rfl) ?_
  refine va_get (ci := 1) (C := RX1) (T := TX1) (N := 12) (pc := 25) hx hb hts hiX1 hown hK hP 11 w11 rfl 6 (by decide) (hts (.fieldLink RX1 36 "InkPress$Marks" "sumY" "J") (by decide +kernel)) (fun _ h9 => h9) rfl dX1_spread_25 ?_
  refine lv_lmul (pc := 28) hx hb dX1_spread_28 ?_
  refine lv_lsub (pc := 29) hx hb dX1_spread_29 ?_
  exact hret _ _ _ _ _ _ hP hD hS rfl rfl dX1_spread_30
set_option maxHeartbeats 4000000 in
set_option maxRecDepth 100000 in
theorem k_X1_stretch {l : Launch} {D : va_G} {cI cZ : ClassId} {A : Nat → Prop} {g a : Nat → Nat} {G0 : va_W} {mx : Nat → Int32} {my : Nat → Int32} {mdx : Nat → Int32} {mdy : Nat → Int32} {mn : Nat} {m1 : Int64} {m2 : Int64} {m3 : Int64} {m4 : Int64} {m5 : Int64} {m6 : Int64} {m7 : Int64} (hD : va_D A G0) (w11 : G0[11]? = some (a 11, .inr (1, [.ref (a 12), .ref (a 13), .ref (a 14), .ref (a 15), .int (nI (mn)), .long (m1), .long (m2), .long (m3), .long (m4), .long (m5), .long (m6), .long (m7)]))) (w12 : G0[12]? = some (a 12, .inl (cI, 8, .inl (mx)))) (w13 : G0[13]? = some (a 13, .inl (cI, 8, .inl (my)))) (w14 : G0[14]? = some (a 14, .inl (cI, 8, .inl (mdx)))) (w15 : G0[15]? = some (a 15, .inl (cI, 8, .inl (mdy)))) : gMl l D cI cZ A g yX1_stretch wsX1_stretch ({ frames := 0, cells := 0, slots := 0, locals := 0 }) [.ref (a 11)] G0 (gStr mn m1 m2 m3 m4 m5 m6 m7) (fun G1 => G1 = G0) := by
  refine gof_l (cc := cX1_stretch) (maxL := 1) (by decide) rfl (Nat.le_of_ble_eq_true rfl) hD ?_
  intro p e s m args below meth c Q hx hb hml hts hown hK hN hZ hP hS hret ls hl
  have hown : s.vm.findClass RX1 = some m.cls := hown
  have hl : lv_has ls 1 [(0, .ref (a 11))] := hl
  obtain ⟨locs, elocs⟩ : ∃ q : List Loc, q = [] := ⟨_, rfl⟩
  rw [← elocs] at hS ⊢
  obtain ⟨H, eH⟩ : ∃ q : Heap, q = s.heap := ⟨_, rfl⟩
  have hP : va_P D vwCl G0 H := eH ▸ hP
  have hS : va_S A s.heap H locs := by rw [eH]; exact hS
  rw [← eH]
  clear elocs eH
  have hiX1 : ∀ w ∈ u_ws RX1 TX1 12, w ∈ wsX1_stretch := by decide +kernel
  have hk : ∀ k, k ∉ ([] : List Nat) → G0[k]? = G0[k]? := fun _ _ => rfl
  refine lv_aload_n (pc := 0) hx hb dX1_stretch_0 rfl (lv_at hl 0 rfl) ?_
  refine va_get (ci := 1) (C := RX1) (T := TX1) (N := 12) (pc := 1) hx hb hts hiX1 hown hK hP 11 w11 rfl 4 (by decide) (hts (.fieldLink RX1 28 "InkPress$Marks" "count" "I") (by decide +kernel)) (fun _ h9 => h9) rfl dX1_stretch_1 ?_
  refine lv_i2l (v := (nI (mn)).toInt64) (pc := 4) hx hb dX1_stretch_4 rfl ?_
  refine lv_aload_n (pc := 5) hx hb dX1_stretch_5 rfl (lv_at hl 0 rfl) ?_
  refine va_get (ci := 1) (C := RX1) (T := TX1) (N := 12) (pc := 6) hx hb hts hiX1 hown hK hP 11 w11 rfl 10 (by decide) (hts (.fieldLink RX1 48 "InkPress$Marks" "sumOutward" "J") (by decide +kernel)) (fun _ h9 => h9) rfl dX1_stretch_6 ?_
  refine lv_lmul (pc := 9) hx hb dX1_stretch_9 ?_
  refine lv_aload_n (pc := 10) hx hb dX1_stretch_10 rfl (lv_at hl 0 rfl) ?_
  refine va_get (ci := 1) (C := RX1) (T := TX1) (N := 12) (pc := 11) hx hb hts hiX1 hown hK hP 11 w11 rfl 5 (by decide) (hts (.fieldLink RX1 32 "InkPress$Marks" "sumX" "J") (by decide +kernel)) (fun _ h9 => h9) rfl dX1_stretch_11 ?_
  refine lv_aload_n (pc := 14) hx hb dX1_stretch_14 rfl (lv_at hl 0 rfl) ?_
  refine va_get (ci := 1) (C := RX1) (T := TX1) (N := 12) (pc := 15) hx hb hts hiX1 hown hK hP 11 w11 rfl 7 (by decide) (hts (.fieldLink RX1 39 "InkPress$Marks" "sumDx" "J") (by decide +kernel)) (fun _ h9 => h9) rfl dX1_stretch_15 ?_
  refine lv_lmul (pc := 18) hx hb dX1_stretch_18 ?_
  refine lv_lsub (pc := 19) hx hb dX1_stretch_19 ?_
  refine lv_aload_n (pc := 20) hx hb dX1_stretch_20 rfl (lv_at hl 0 rfl) ?_
  refine va_get (ci := 1) (C := RX1) (T := TX1) (N := 12) (pc := 21) hx hb hts hiX1 hown hK hP 11 w11 rfl 6 (by decide) (hts (.fieldLink RX1 36 "InkPress$Marks" "sumY" "J") (by decide +kernel)) (fun _ h9 => h9) rfl dX1_stretch_21 ?_
  refine lv_aload_n (pc := 24) hx hb dX1_stretch_24 rfl (lv_at hl 0 rfl) ?_
  refine va_get (ci := 1) (C := RX1) (T := TX1) (N := 12) (pc := 25) hx hb hts hiX1 hown hK hP 11 w11 rfl 8 (by decide) (hts (.fieldLink RX1 42 "InkPress$Marks" "sumDy" "J") (by decide +kernel)) (fun _ h9 => h9) rfl dX1_stretch_25 ?_
  refine lv_lmul (pc := 28) hx hb dX1_stretch_28 ?_
  refine lv_lsub (pc := 29) hx hb dX1_stretch_29 ?_
  exact hret _ _ _ _ _ _ hP hD hS rfl rfl dX1_stretch_30
set_option maxHeartbeats 4000000 in
set_option maxRecDepth 100000 in
theorem k_X1_turn {l : Launch} {D : va_G} {cI cZ : ClassId} {A : Nat → Prop} {g a : Nat → Nat} {G0 : va_W} {mx : Nat → Int32} {my : Nat → Int32} {mdx : Nat → Int32} {mdy : Nat → Int32} {mn : Nat} {m1 : Int64} {m2 : Int64} {m3 : Int64} {m4 : Int64} {m5 : Int64} {m6 : Int64} {m7 : Int64} (hD : va_D A G0) (w11 : G0[11]? = some (a 11, .inr (1, [.ref (a 12), .ref (a 13), .ref (a 14), .ref (a 15), .int (nI (mn)), .long (m1), .long (m2), .long (m3), .long (m4), .long (m5), .long (m6), .long (m7)]))) (w12 : G0[12]? = some (a 12, .inl (cI, 8, .inl (mx)))) (w13 : G0[13]? = some (a 13, .inl (cI, 8, .inl (my)))) (w14 : G0[14]? = some (a 14, .inl (cI, 8, .inl (mdx)))) (w15 : G0[15]? = some (a 15, .inl (cI, 8, .inl (mdy)))) : gMl l D cI cZ A g yX1_turn wsX1_turn ({ frames := 0, cells := 0, slots := 0, locals := 0 }) [.ref (a 11)] G0 (gTu mn m1 m2 m3 m4 m5 m6 m7) (fun G1 => G1 = G0) := by
  refine gof_l (cc := cX1_turn) (maxL := 1) (by decide) rfl (Nat.le_of_ble_eq_true rfl) hD ?_
  intro p e s m args below meth c Q hx hb hml hts hown hK hN hZ hP hS hret ls hl
  have hown : s.vm.findClass RX1 = some m.cls := hown
  have hl : lv_has ls 1 [(0, .ref (a 11))] := hl
  obtain ⟨locs, elocs⟩ : ∃ q : List Loc, q = [] := ⟨_, rfl⟩
  rw [← elocs] at hS ⊢
  obtain ⟨H, eH⟩ : ∃ q : Heap, q = s.heap := ⟨_, rfl⟩
  have hP : va_P D vwCl G0 H := eH ▸ hP
  have hS : va_S A s.heap H locs := by rw [eH]; exact hS
  rw [← eH]
  clear elocs eH
  have hiX1 : ∀ w ∈ u_ws RX1 TX1 12, w ∈ wsX1_turn := by decide +kernel
  have hk : ∀ k, k ∉ ([] : List Nat) → G0[k]? = G0[k]? := fun _ _ => rfl
  refine lv_aload_n (pc := 0) hx hb dX1_turn_0 rfl (lv_at hl 0 rfl) ?_
  refine va_get (ci := 1) (C := RX1) (T := TX1) (N := 12) (pc := 1) hx hb hts hiX1 hown hK hP 11 w11 rfl 4 (by decide) (hts (.fieldLink RX1 28 "InkPress$Marks" "count" "I") (by decide +kernel)) (fun _ h9 => h9) rfl dX1_turn_1 ?_
  refine lv_i2l (v := (nI (mn)).toInt64) (pc := 4) hx hb dX1_turn_4 rfl ?_
  refine lv_aload_n (pc := 5) hx hb dX1_turn_5 rfl (lv_at hl 0 rfl) ?_
  refine va_get (ci := 1) (C := RX1) (T := TX1) (N := 12) (pc := 6) hx hb hts hiX1 hown hK hP 11 w11 rfl 11 (by decide) (hts (.fieldLink RX1 51 "InkPress$Marks" "sumAround" "J") (by decide +kernel)) (fun _ h9 => h9) rfl dX1_turn_6 ?_
  refine lv_lmul (pc := 9) hx hb dX1_turn_9 ?_
  refine lv_aload_n (pc := 10) hx hb dX1_turn_10 rfl (lv_at hl 0 rfl) ?_
  refine va_get (ci := 1) (C := RX1) (T := TX1) (N := 12) (pc := 11) hx hb hts hiX1 hown hK hP 11 w11 rfl 5 (by decide) (hts (.fieldLink RX1 32 "InkPress$Marks" "sumX" "J") (by decide +kernel)) (fun _ h9 => h9) rfl dX1_turn_11 ?_
  refine lv_aload_n (pc := 14) hx hb dX1_turn_14 rfl (lv_at hl 0 rfl) ?_
  refine va_get (ci := 1) (C := RX1) (T := TX1) (N := 12) (pc := 15) hx hb hts hiX1 hown hK hP 11 w11 rfl 8 (by decide) (hts (.fieldLink RX1 42 "InkPress$Marks" "sumDy" "J") (by decide +kernel)) (fun _ h9 => h9) rfl dX1_turn_15 ?_
  refine lv_lmul (pc := 18) hx hb dX1_turn_18 ?_
  refine lv_lsub (pc := 19) hx hb dX1_turn_19 ?_
  refine lv_aload_n (pc := 20) hx hb dX1_turn_20 rfl (lv_at hl 0 rfl) ?_
  refine va_get (ci := 1) (C := RX1) (T := TX1) (N := 12) (pc := 21) hx hb hts hiX1 hown hK hP 11 w11 rfl 6 (by decide) (hts (.fieldLink RX1 36 "InkPress$Marks" "sumY" "J") (by decide +kernel)) (fun _ h9 => h9) rfl dX1_turn_21 ?_
  refine lv_aload_n (pc := 24) hx hb dX1_turn_24 rfl (lv_at hl 0 rfl) ?_
  refine va_get (ci := 1) (C := RX1) (T := TX1) (N := 12) (pc := 25) hx hb hts hiX1 hown hK hP 11 w11 rfl 7 (by decide) (hts (.fieldLink RX1 39 "InkPress$Marks" "sumDx" "J") (by decide +kernel)) (fun _ h9 => h9) rfl dX1_turn_25 ?_
  refine lv_lmul (pc := 28) hx hb dX1_turn_28 ?_
  refine lv_ladd (pc := 29) hx hb dX1_turn_29 ?_
  exact hret _ _ _ _ _ _ hP hD hS rfl rfl dX1_turn_30
set_option maxHeartbeats 4000000 in
set_option maxRecDepth 100000 in
theorem k_X1_across {l : Launch} {D : va_G} {cI cZ : ClassId} {A : Nat → Prop} {g a : Nat → Nat} {G0 : va_W} {mx : Nat → Int32} {my : Nat → Int32} {mdx : Nat → Int32} {mdy : Nat → Int32} {mn : Nat} {m1 : Int64} {m2 : Int64} {m3 : Int64} {m4 : Int64} {m5 : Int64} {m6 : Int64} {m7 : Int64} (hD : va_D A G0) (w11 : G0[11]? = some (a 11, .inr (1, [.ref (a 12), .ref (a 13), .ref (a 14), .ref (a 15), .int (nI (mn)), .long (m1), .long (m2), .long (m3), .long (m4), .long (m5), .long (m6), .long (m7)]))) (w12 : G0[12]? = some (a 12, .inl (cI, 8, .inl (mx)))) (w13 : G0[13]? = some (a 13, .inl (cI, 8, .inl (my)))) (w14 : G0[14]? = some (a 14, .inl (cI, 8, .inl (mdx)))) (w15 : G0[15]? = some (a 15, .inl (cI, 8, .inl (mdy)))) : gMl l D cI cZ A g yX1_across wsX1_across ({ frames := 1, cells := 0, slots := 0, locals := 20 }) [.ref (a 11)] G0 (gAc mn m1 m2 m3 m4 m5 m6 m7) (fun G1 => G1 = G0) := by
  refine gof_l (cc := cX1_across) (maxL := 1) (by decide) rfl (Nat.le_of_ble_eq_true rfl) hD ?_
  intro p e s m args below meth c Q hx hb hml hts hown hK hN hZ hP hS hret ls hl
  have hown : s.vm.findClass RX1 = some m.cls := hown
  have hl : lv_has ls 1 [(0, .ref (a 11))] := hl
  obtain ⟨locs, elocs⟩ : ∃ q : List Loc, q = [] := ⟨_, rfl⟩
  rw [← elocs] at hS ⊢
  obtain ⟨H, eH⟩ : ∃ q : Heap, q = s.heap := ⟨_, rfl⟩
  have hP : va_P D vwCl G0 H := eH ▸ hP
  have hS : va_S A s.heap H locs := by rw [eH]; exact hS
  rw [← eH]
  clear elocs eH
  have hiX1 : ∀ w ∈ u_ws RX1 TX1 12, w ∈ wsX1_across := by decide +kernel
  have hk : ∀ k, k ∉ ([] : List Nat) → G0[k]? = G0[k]? := fun _ _ => rfl
  refine lv_aload_n (pc := 0) hx hb dX1_across_0 rfl (lv_at hl 0 rfl) ?_
  refine va_get (ci := 1) (C := RX1) (T := TX1) (N := 12) (pc := 1) hx hb hts hiX1 hown hK hP 11 w11 rfl 7 (by decide) (hts (.fieldLink RX1 39 "InkPress$Marks" "sumDx" "J") (by decide +kernel)) (fun _ h9 => h9) rfl dX1_across_1 ?_
  refine lv_aload_n (pc := 4) hx hb dX1_across_4 rfl (lv_at hl 0 rfl) ?_
  refine mx_cVl (As := []) (rest := [.long (m3)]) (pc := 5) ⟨hx, hb, hml, hown, hts⟩ (k_X1_spread (a := a) (mx := mx) (my := my) (mdx := mdx) (mdy := mdy) (mn := mn) (m1 := m1) (m2 := m2) (m3 := m3) (m4 := m4) (m5 := m5) (m6 := m6) (m7 := m7) hD w11 w12 w13 w14 w15 ) (cwV 0 hts gX1_across_X1_spread rfl rfl rfl (by decide +kernel) ⟨Nat.le_of_ble_eq_true rfl, Nat.le_of_ble_eq_true rfl⟩) 11 rfl rfl w11 hK hN hZ hP hS rfl hl.1 rfl (Nat.le_of_ble_eq_true rfl) dX1_across_5 ⟨Nat.zero_le _, Nat.zero_le _⟩ (fun G' H locs hP hD hS hB => ?_)
  rw [hB] at hP hD
  clear hB G'
  refine lv_lmul (pc := 8) hx hb dX1_across_8 ?_
  refine lv_aload_n (pc := 9) hx hb dX1_across_9 rfl (lv_at hl 0 rfl) ?_
  refine mx_cVl (As := []) (rest := [.long ((m3 * gSp (mn) (m1) (m2) (m3) (m4) (m5) (m6) (m7)))]) (pc := 10) ⟨hx, hb, hml, hown, hts⟩ (k_X1_stretch (a := a) (mx := mx) (my := my) (mdx := mdx) (mdy := mdy) (mn := mn) (m1 := m1) (m2 := m2) (m3 := m3) (m4 := m4) (m5 := m5) (m6 := m6) (m7 := m7) hD w11 w12 w13 w14 w15 ) (cwV 0 hts gX1_across_X1_stretch rfl rfl rfl (by decide +kernel) ⟨Nat.le_of_ble_eq_true rfl, Nat.le_of_ble_eq_true rfl⟩) 11 rfl rfl w11 hK hN hZ hP hS rfl hl.1 rfl (Nat.le_of_ble_eq_true rfl) dX1_across_10 ⟨Nat.zero_le _, Nat.zero_le _⟩ (fun G' H locs hP hD hS hB => ?_)
  rw [hB] at hP hD
  clear hB G'
  refine lv_aload_n (pc := 13) hx hb dX1_across_13 rfl (lv_at hl 0 rfl) ?_
  refine va_get (ci := 1) (C := RX1) (T := TX1) (N := 12) (pc := 14) hx hb hts hiX1 hown hK hP 11 w11 rfl 5 (by decide) (hts (.fieldLink RX1 32 "InkPress$Marks" "sumX" "J") (by decide +kernel)) (fun _ h9 => h9) rfl dX1_across_14 ?_
  refine lv_lmul (pc := 17) hx hb dX1_across_17 ?_
  refine lv_lsub (pc := 18) hx hb dX1_across_18 ?_
  refine lv_aload_n (pc := 19) hx hb dX1_across_19 rfl (lv_at hl 0 rfl) ?_
  refine mx_cVl (As := []) (rest := [.long (((m3 * gSp (mn) (m1) (m2) (m3) (m4) (m5) (m6) (m7)) - (gStr (mn) (m1) (m2) (m3) (m4) (m5) (m6) (m7) * m1)))]) (pc := 20) ⟨hx, hb, hml, hown, hts⟩ (k_X1_turn (a := a) (mx := mx) (my := my) (mdx := mdx) (mdy := mdy) (mn := mn) (m1 := m1) (m2 := m2) (m3 := m3) (m4 := m4) (m5 := m5) (m6 := m6) (m7 := m7) hD w11 w12 w13 w14 w15 ) (cwV 0 hts gX1_across_X1_turn rfl rfl rfl (by decide +kernel) ⟨Nat.le_of_ble_eq_true rfl, Nat.le_of_ble_eq_true rfl⟩) 11 rfl rfl w11 hK hN hZ hP hS rfl hl.1 rfl (Nat.le_of_ble_eq_true rfl) dX1_across_20 ⟨Nat.zero_le _, Nat.zero_le _⟩ (fun G' H locs hP hD hS hB => ?_)
  rw [hB] at hP hD
  clear hB G'
  refine lv_aload_n (pc := 23) hx hb dX1_across_23 rfl (lv_at hl 0 rfl) ?_
  refine va_get (ci := 1) (C := RX1) (T := TX1) (N := 12) (pc := 24) hx hb hts hiX1 hown hK hP 11 w11 rfl 6 (by decide) (hts (.fieldLink RX1 36 "InkPress$Marks" "sumY" "J") (by decide +kernel)) (fun _ h9 => h9) rfl dX1_across_24 ?_
  refine lv_lmul (pc := 27) hx hb dX1_across_27 ?_
  refine lv_ladd (pc := 28) hx hb dX1_across_28 ?_
  exact hret _ _ _ _ _ _ hP hD hS rfl rfl dX1_across_29
set_option maxHeartbeats 4000000 in
set_option maxRecDepth 100000 in
theorem k_X1_up {l : Launch} {D : va_G} {cI cZ : ClassId} {A : Nat → Prop} {g a : Nat → Nat} {G0 : va_W} {mx : Nat → Int32} {my : Nat → Int32} {mdx : Nat → Int32} {mdy : Nat → Int32} {mn : Nat} {m1 : Int64} {m2 : Int64} {m3 : Int64} {m4 : Int64} {m5 : Int64} {m6 : Int64} {m7 : Int64} (hD : va_D A G0) (w11 : G0[11]? = some (a 11, .inr (1, [.ref (a 12), .ref (a 13), .ref (a 14), .ref (a 15), .int (nI (mn)), .long (m1), .long (m2), .long (m3), .long (m4), .long (m5), .long (m6), .long (m7)]))) (w12 : G0[12]? = some (a 12, .inl (cI, 8, .inl (mx)))) (w13 : G0[13]? = some (a 13, .inl (cI, 8, .inl (my)))) (w14 : G0[14]? = some (a 14, .inl (cI, 8, .inl (mdx)))) (w15 : G0[15]? = some (a 15, .inl (cI, 8, .inl (mdy)))) : gMl l D cI cZ A g yX1_up wsX1_up ({ frames := 1, cells := 0, slots := 0, locals := 20 }) [.ref (a 11)] G0 (gUp mn m1 m2 m3 m4 m5 m6 m7) (fun G1 => G1 = G0) := by
  refine gof_l (cc := cX1_up) (maxL := 1) (by decide) rfl (Nat.le_of_ble_eq_true rfl) hD ?_
  intro p e s m args below meth c Q hx hb hml hts hown hK hN hZ hP hS hret ls hl
  have hown : s.vm.findClass RX1 = some m.cls := hown
  have hl : lv_has ls 1 [(0, .ref (a 11))] := hl
  obtain ⟨locs, elocs⟩ : ∃ q : List Loc, q = [] := ⟨_, rfl⟩
  rw [← elocs] at hS ⊢
  obtain ⟨H, eH⟩ : ∃ q : Heap, q = s.heap := ⟨_, rfl⟩
  have hP : va_P D vwCl G0 H := eH ▸ hP
  have hS : va_S A s.heap H locs := by rw [eH]; exact hS
  rw [← eH]
  clear elocs eH
  have hiX1 : ∀ w ∈ u_ws RX1 TX1 12, w ∈ wsX1_up := by decide +kernel
  have hk : ∀ k, k ∉ ([] : List Nat) → G0[k]? = G0[k]? := fun _ _ => rfl
  refine lv_aload_n (pc := 0) hx hb dX1_up_0 rfl (lv_at hl 0 rfl) ?_
  refine va_get (ci := 1) (C := RX1) (T := TX1) (N := 12) (pc := 1) hx hb hts hiX1 hown hK hP 11 w11 rfl 8 (by decide) (hts (.fieldLink RX1 42 "InkPress$Marks" "sumDy" "J") (by decide +kernel)) (fun _ h9 => h9) rfl dX1_up_1 ?_
  refine lv_aload_n (pc := 4) hx hb dX1_up_4 rfl (lv_at hl 0 rfl) ?_
  refine mx_cVl (As := []) (rest := [.long (m4)]) (pc := 5) ⟨hx, hb, hml, hown, hts⟩ (k_X1_spread (a := a) (mx := mx) (my := my) (mdx := mdx) (mdy := mdy) (mn := mn) (m1 := m1) (m2 := m2) (m3 := m3) (m4 := m4) (m5 := m5) (m6 := m6) (m7 := m7) hD w11 w12 w13 w14 w15 ) (cwV 0 hts gX1_up_X1_spread rfl rfl rfl (by decide +kernel) ⟨Nat.le_of_ble_eq_true rfl, Nat.le_of_ble_eq_true rfl⟩) 11 rfl rfl w11 hK hN hZ hP hS rfl hl.1 rfl (Nat.le_of_ble_eq_true rfl) dX1_up_5 ⟨Nat.zero_le _, Nat.zero_le _⟩ (fun G' H locs hP hD hS hB => ?_)
  rw [hB] at hP hD
  clear hB G'
  refine lv_lmul (pc := 8) hx hb dX1_up_8 ?_
  refine lv_aload_n (pc := 9) hx hb dX1_up_9 rfl (lv_at hl 0 rfl) ?_
  refine mx_cVl (As := []) (rest := [.long ((m4 * gSp (mn) (m1) (m2) (m3) (m4) (m5) (m6) (m7)))]) (pc := 10) ⟨hx, hb, hml, hown, hts⟩ (k_X1_stretch (a := a) (mx := mx) (my := my) (mdx := mdx) (mdy := mdy) (mn := mn) (m1 := m1) (m2 := m2) (m3 := m3) (m4 := m4) (m5 := m5) (m6 := m6) (m7 := m7) hD w11 w12 w13 w14 w15 ) (cwV 0 hts gX1_up_X1_stretch rfl rfl rfl (by decide +kernel) ⟨Nat.le_of_ble_eq_true rfl, Nat.le_of_ble_eq_true rfl⟩) 11 rfl rfl w11 hK hN hZ hP hS rfl hl.1 rfl (Nat.le_of_ble_eq_true rfl) dX1_up_10 ⟨Nat.zero_le _, Nat.zero_le _⟩ (fun G' H locs hP hD hS hB => ?_)
  rw [hB] at hP hD
  clear hB G'
  refine lv_aload_n (pc := 13) hx hb dX1_up_13 rfl (lv_at hl 0 rfl) ?_
  refine va_get (ci := 1) (C := RX1) (T := TX1) (N := 12) (pc := 14) hx hb hts hiX1 hown hK hP 11 w11 rfl 6 (by decide) (hts (.fieldLink RX1 36 "InkPress$Marks" "sumY" "J") (by decide +kernel)) (fun _ h9 => h9) rfl dX1_up_14 ?_
  refine lv_lmul (pc := 17) hx hb dX1_up_17 ?_
  refine lv_lsub (pc := 18) hx hb dX1_up_18 ?_
  refine lv_aload_n (pc := 19) hx hb dX1_up_19 rfl (lv_at hl 0 rfl) ?_
  refine mx_cVl (As := []) (rest := [.long (((m4 * gSp (mn) (m1) (m2) (m3) (m4) (m5) (m6) (m7)) - (gStr (mn) (m1) (m2) (m3) (m4) (m5) (m6) (m7) * m2)))]) (pc := 20) ⟨hx, hb, hml, hown, hts⟩ (k_X1_turn (a := a) (mx := mx) (my := my) (mdx := mdx) (mdy := mdy) (mn := mn) (m1 := m1) (m2 := m2) (m3 := m3) (m4 := m4) (m5 := m5) (m6 := m6) (m7 := m7) hD w11 w12 w13 w14 w15 ) (cwV 0 hts gX1_up_X1_turn rfl rfl rfl (by decide +kernel) ⟨Nat.le_of_ble_eq_true rfl, Nat.le_of_ble_eq_true rfl⟩) 11 rfl rfl w11 hK hN hZ hP hS rfl hl.1 rfl (Nat.le_of_ble_eq_true rfl) dX1_up_20 ⟨Nat.zero_le _, Nat.zero_le _⟩ (fun G' H locs hP hD hS hB => ?_)
  rw [hB] at hP hD
  clear hB G'
  refine lv_aload_n (pc := 23) hx hb dX1_up_23 rfl (lv_at hl 0 rfl) ?_
  refine va_get (ci := 1) (C := RX1) (T := TX1) (N := 12) (pc := 24) hx hb hts hiX1 hown hK hP 11 w11 rfl 5 (by decide) (hts (.fieldLink RX1 32 "InkPress$Marks" "sumX" "J") (by decide +kernel)) (fun _ h9 => h9) rfl dX1_up_24 ?_
  refine lv_lmul (pc := 27) hx hb dX1_up_27 ?_
  refine lv_lsub (pc := 28) hx hb dX1_up_28 ?_
  exact hret _ _ _ _ _ _ hP hD hS rfl rfl dX1_up_29
set_option maxHeartbeats 4000000 in
set_option maxRecDepth 100000 in
theorem k_X1_isTold {l : Launch} {D : va_G} {cI cZ : ClassId} {A : Nat → Prop} {g a : Nat → Nat} {G0 : va_W} {mx : Nat → Int32} {my : Nat → Int32} {mdx : Nat → Int32} {mdy : Nat → Int32} {mn : Nat} {m1 : Int64} {m2 : Int64} {m3 : Int64} {m4 : Int64} {m5 : Int64} {m6 : Int64} {m7 : Int64} (hD : va_D A G0) (w11 : G0[11]? = some (a 11, .inr (1, [.ref (a 12), .ref (a 13), .ref (a 14), .ref (a 15), .int (nI (mn)), .long (m1), .long (m2), .long (m3), .long (m4), .long (m5), .long (m6), .long (m7)]))) (w12 : G0[12]? = some (a 12, .inl (cI, 8, .inl (mx)))) (w13 : G0[13]? = some (a 13, .inl (cI, 8, .inl (my)))) (w14 : G0[14]? = some (a 14, .inl (cI, 8, .inl (mdx)))) (w15 : G0[15]? = some (a 15, .inl (cI, 8, .inl (mdy)))) : gMi l D cI cZ A g yX1_isTold wsX1_isTold ({ frames := 1, cells := 0, slots := 0, locals := 20 }) [.ref (a 11)] G0 (gB (decide (0 < gSp mn m1 m2 m3 m4 m5 m6 m7))) (fun G1 => G1 = G0) := by
  refine gof_z (cc := cX1_isTold) (maxL := 1) (by decide) rfl (Nat.le_of_ble_eq_true rfl) hD ?_
  intro p e s m args below meth c Q hx hb hml hts hown hK hN hZ hP hS hret ls hl
  have hown : s.vm.findClass RX1 = some m.cls := hown
  have hl : lv_has ls 1 [(0, .ref (a 11))] := hl
  obtain ⟨locs, elocs⟩ : ∃ q : List Loc, q = [] := ⟨_, rfl⟩
  rw [← elocs] at hS ⊢
  obtain ⟨H, eH⟩ : ∃ q : Heap, q = s.heap := ⟨_, rfl⟩
  have hP : va_P D vwCl G0 H := eH ▸ hP
  have hS : va_S A s.heap H locs := by rw [eH]; exact hS
  rw [← eH]
  clear elocs eH
  have hk : ∀ k, k ∉ ([] : List Nat) → G0[k]? = G0[k]? := fun _ _ => rfl
  refine lv_aload_n (pc := 0) hx hb dX1_isTold_0 rfl (lv_at hl 0 rfl) ?_
  refine mx_cVl (As := []) (rest := []) (pc := 1) ⟨hx, hb, hml, hown, hts⟩ (k_X1_spread (a := a) (mx := mx) (my := my) (mdx := mdx) (mdy := mdy) (mn := mn) (m1 := m1) (m2 := m2) (m3 := m3) (m4 := m4) (m5 := m5) (m6 := m6) (m7 := m7) hD w11 w12 w13 w14 w15 ) (cwV 0 hts gX1_isTold_X1_spread rfl rfl rfl (by decide +kernel) ⟨Nat.le_of_ble_eq_true rfl, Nat.le_of_ble_eq_true rfl⟩) 11 rfl rfl w11 hK hN hZ hP hS rfl hl.1 rfl (Nat.le_of_ble_eq_true rfl) dX1_isTold_1 ⟨Nat.zero_le _, Nat.zero_le _⟩ (fun G' H locs hP hD hS hB => ?_)
  rw [hB] at hP hD
  clear hB G'
  refine lv_lconst (v := 0) (pc := 4) hx hb dX1_isTold_4 (by decide) ?_
  refine W.lcmp (pc := 5) hx hb dX1_isTold_5 ?_
  refine lv_if_le (tgt := 13) (pc := 6) hx hb dX1_isTold_6 (by decide) (fun c6 => ?_) (fun c6 => ?_)
  · skip
    have c6 := lg_le.mp c6
    refine lv_iconst (v := nI (0)) (pc := 13) hx hb dX1_isTold_13 (by decide) ?_
    exact hret _ _ _ _ _ _ hP hD hS rfl (by first | exact gDe_f (Int64.not_lt.mpr c6) | exact gDe_t (Int64.not_le.mp c6)) rfl dX1_isTold_14
  · skip
    have c6 := fun z => c6 (lg_le.mpr z)
    refine lv_iconst (v := nI (1)) (pc := 9) hx hb dX1_isTold_9 (by decide) ?_
    refine lv_goto (tgt := 14) (pc := 10) hx hb dX1_isTold_10 (by decide) ?_
    exact hret _ _ _ _ _ _ hP hD hS rfl (by first | exact gDe_f (Int64.not_lt.mpr c6) | exact gDe_t (Int64.not_le.mp c6)) rfl dX1_isTold_14
set_option maxHeartbeats 4000000 in
set_option maxRecDepth 100000 in
theorem k_X1_inThousandths {l : Launch} {D : va_G} {cI cZ : ClassId} {A : Nat → Prop} {g a : Nat → Nat} {G0 : va_W} {mx : Nat → Int32} {my : Nat → Int32} {mdx : Nat → Int32} {mdy : Nat → Int32} {mn : Nat} {m1 : Int64} {m2 : Int64} {m3 : Int64} {m4 : Int64} {m5 : Int64} {m6 : Int64} {m7 : Int64} {u : Int32} {md : Int64} (hD : va_D A G0) (w11 : G0[11]? = some (a 11, .inr (1, [.ref (a 12), .ref (a 13), .ref (a 14), .ref (a 15), .int (nI (mn)), .long (m1), .long (m2), .long (m3), .long (m4), .long (m5), .long (m6), .long (m7)]))) (w12 : G0[12]? = some (a 12, .inl (cI, 8, .inl (mx)))) (w13 : G0[13]? = some (a 13, .inl (cI, 8, .inl (my)))) (w14 : G0[14]? = some (a 14, .inl (cI, 8, .inl (mdx)))) (w15 : G0[15]? = some (a 15, .inl (cI, 8, .inl (mdy)))) : gMi l D cI cZ A g yX1_inThousandths wsX1_inThousandths ({ frames := 1, cells := 0, slots := 0, locals := 20 }) [.ref (a 11), .int (u), .long (md)] G0 (gTh (gSp mn m1 m2 m3 m4 m5 m6 m7 * (nI mn).toInt64) u md) (fun G1 => G1 = G0) := by
  refine gof_i (cc := cX1_inThousandths) (maxL := 6) (by decide) rfl (Nat.le_of_ble_eq_true rfl) hD ?_
  intro p e s m args below meth c Q hx hb hml hts hown hK hN hZ hP hS hret ls hl
  have hown : s.vm.findClass RX1 = some m.cls := hown
  have hl : lv_has ls 6 [(0, .ref (a 11)), (1, .int (u)), (2, .long (md))] := hl
  obtain ⟨locs, elocs⟩ : ∃ q : List Loc, q = [] := ⟨_, rfl⟩
  rw [← elocs] at hS ⊢
  obtain ⟨H, eH⟩ : ∃ q : Heap, q = s.heap := ⟨_, rfl⟩
  have hP : va_P D vwCl G0 H := eH ▸ hP
  have hS : va_S A s.heap H locs := by rw [eH]; exact hS
  rw [← eH]
  clear elocs eH
  have hiX1 : ∀ w ∈ u_ws RX1 TX1 12, w ∈ wsX1_inThousandths := by decide +kernel
  have hk : ∀ k, k ∉ ([] : List Nat) → G0[k]? = G0[k]? := fun _ _ => rfl
  refine lv_aload_n (pc := 0) hx hb dX1_inThousandths_0 rfl (lv_at hl 0 rfl) ?_
  refine mx_cVl (As := []) (rest := []) (pc := 1) ⟨hx, hb, hml, hown, hts⟩ (k_X1_spread (a := a) (mx := mx) (my := my) (mdx := mdx) (mdy := mdy) (mn := mn) (m1 := m1) (m2 := m2) (m3 := m3) (m4 := m4) (m5 := m5) (m6 := m6) (m7 := m7) hD w11 w12 w13 w14 w15 ) (cwV 0 hts gX1_inThousandths_X1_spread rfl rfl rfl (by decide +kernel) ⟨Nat.le_of_ble_eq_true rfl, Nat.le_of_ble_eq_true rfl⟩) 11 rfl rfl w11 hK hN hZ hP hS rfl hl.1 rfl (Nat.le_of_ble_eq_true rfl) dX1_inThousandths_1 ⟨Nat.zero_le _, Nat.zero_le _⟩ (fun G' H locs hP hD hS hB => ?_)
  rw [hB] at hP hD
  clear hB G'
  refine lv_aload_n (pc := 4) hx hb dX1_inThousandths_4 rfl (lv_at hl 0 rfl) ?_
  refine va_get (ci := 1) (C := RX1) (T := TX1) (N := 12) (pc := 5) hx hb hts hiX1 hown hK hP 11 w11 rfl 4 (by decide) (hts (.fieldLink RX1 28 "InkPress$Marks" "count" "I") (by decide +kernel)) (fun _ h9 => h9) rfl dX1_inThousandths_5 ?_
  refine lv_i2l (v := (nI (mn)).toInt64) (pc := 8) hx hb dX1_inThousandths_8 rfl ?_
  refine lv_lmul (pc := 9) hx hb dX1_inThousandths_9 ?_
  refine lv_lstore (lv' := [(4, .long ((gSp (mn) (m1) (m2) (m3) (m4) (m5) (m6) (m7) * (nI (mn)).toInt64))), (0, .ref (a 11)), (1, .int (u)), (2, .long (md))]) (pc := 10) hx hb dX1_inThousandths_10 hl (by decide) rfl (fun ls hl => ?_)
  refine lv_lload (pc := 12) hx hb dX1_inThousandths_12 (lv_at hl 0 rfl) ?_
  refine lv_lconst (v := 0) (pc := 14) hx hb dX1_inThousandths_14 (by decide) ?_
  refine W.lcmp (pc := 15) hx hb dX1_inThousandths_15 ?_
  refine lv_if_le (tgt := 37) (pc := 16) hx hb dX1_inThousandths_16 (by decide) (fun c16 => ?_) (fun c16 => ?_)
  · skip
    have c16 := lg_le.mp c16
    refine lv_iconst (v := nI (0)) (pc := 37) hx hb dX1_inThousandths_37 (by decide) ?_
    exact hret _ _ _ _ _ _ hP hD hS (by first | exact (gTh_0 c16).symm | exact (gTh_1 (Int64.not_le.mp c16)).symm) rfl dX1_inThousandths_38
  · skip
    have c16 := fun z => c16 (lg_le.mpr z)
    refine lv_ldc2 (own := RX1) (v := (1000)) (pc := 19) hx hb hown (hts (.constantLong RX1 74 (1000)) (by decide +kernel)) dX1_inThousandths_19 ?_
    refine lv_iload_n (pc := 22) hx hb dX1_inThousandths_22 rfl (lv_at hl 2 rfl) ?_
    refine lv_i2l (v := (u).toInt64) (pc := 23) hx hb dX1_inThousandths_23 rfl ?_
    refine lv_lload (pc := 24) hx hb dX1_inThousandths_24 (lv_at hl 0 rfl) ?_
    refine lv_lmul (pc := 26) hx hb dX1_inThousandths_26 ?_
    refine lv_lload_n (pc := 27) hx hb dX1_inThousandths_27 rfl (lv_at hl 3 rfl) ?_
    refine lv_lsub (pc := 28) hx hb dX1_inThousandths_28 ?_
    refine lv_lmul (pc := 29) hx hb dX1_inThousandths_29 ?_
    refine lv_lload (pc := 30) hx hb dX1_inThousandths_30 (lv_at hl 0 rfl) ?_
    refine lv_ldiv (pc := 32) hx hb dX1_inThousandths_32 (fun q9 => c16 (by rw [q9]; exact Int64.le_refl _)) ?_
    refine lv_l2i (v := ((((1000) * (((u).toInt64 * (gSp (mn) (m1) (m2) (m3) (m4) (m5) (m6) (m7) * (nI (mn)).toInt64)) - md)) / (gSp (mn) (m1) (m2) (m3) (m4) (m5) (m6) (m7) * (nI (mn)).toInt64))).toInt32) (pc := 33) hx hb dX1_inThousandths_33 rfl ?_
    refine lv_goto (tgt := 38) (pc := 34) hx hb dX1_inThousandths_34 (by decide) ?_
    exact hret _ _ _ _ _ _ hP hD hS (by first | exact (gTh_0 c16).symm | exact (gTh_1 (Int64.not_le.mp c16)).symm) rfl dX1_inThousandths_38
set_option maxHeartbeats 4000000 in
set_option maxRecDepth 100000 in
theorem k_X1_offAcross {l : Launch} {D : va_G} {cI cZ : ClassId} {A : Nat → Prop} {g a : Nat → Nat} {G0 : va_W} {mx : Nat → Int32} {my : Nat → Int32} {mdx : Nat → Int32} {mdy : Nat → Int32} {mn : Nat} {m1 : Int64} {m2 : Int64} {m3 : Int64} {m4 : Int64} {m5 : Int64} {m6 : Int64} {m7 : Int64} {i : Nat} (hD : va_D A G0) (w11 : G0[11]? = some (a 11, .inr (1, [.ref (a 12), .ref (a 13), .ref (a 14), .ref (a 15), .int (nI (mn)), .long (m1), .long (m2), .long (m3), .long (m4), .long (m5), .long (m6), .long (m7)]))) (w12 : G0[12]? = some (a 12, .inl (cI, 8, .inl (mx)))) (w13 : G0[13]? = some (a 13, .inl (cI, 8, .inl (my)))) (w14 : G0[14]? = some (a 14, .inl (cI, 8, .inl (mdx)))) (w15 : G0[15]? = some (a 15, .inl (cI, 8, .inl (mdy)))) (hi : i < 8) : gMi l D cI cZ A g yX1_offAcross wsX1_offAcross ({ frames := 2, cells := 0, slots := 0, locals := 45 }) [.ref (a 11), .int (nI (i))] G0 (gTh (gSp mn m1 m2 m3 m4 m5 m6 m7 * (nI mn).toInt64) (mdx i) ((nI mn).toInt64 * (gStr mn m1 m2 m3 m4 m5 m6 m7 * (mx i).toInt64 - gTu mn m1 m2 m3 m4 m5 m6 m7 * (my i).toInt64) + gAc mn m1 m2 m3 m4 m5 m6 m7)) (fun G1 => G1 = G0) := by
  refine gof_i (cc := cX1_offAcross) (maxL := 4) (by decide) rfl (Nat.le_of_ble_eq_true rfl) hD ?_
  intro p e s m args below meth c Q hx hb hml hts hown hK hN hZ hP hS hret ls hl
  have hown : s.vm.findClass RX1 = some m.cls := hown
  have hl : lv_has ls 4 [(0, .ref (a 11)), (1, .int (nI (i)))] := hl
  obtain ⟨locs, elocs⟩ : ∃ q : List Loc, q = [] := ⟨_, rfl⟩
  rw [← elocs] at hS ⊢
  obtain ⟨H, eH⟩ : ∃ q : Heap, q = s.heap := ⟨_, rfl⟩
  have hP : va_P D vwCl G0 H := eH ▸ hP
  have hS : va_S A s.heap H locs := by rw [eH]; exact hS
  rw [← eH]
  clear elocs eH
  have hiX1 : ∀ w ∈ u_ws RX1 TX1 12, w ∈ wsX1_offAcross := by decide +kernel
  have hk : ∀ k, k ∉ ([] : List Nat) → G0[k]? = G0[k]? := fun _ _ => rfl
  refine lv_aload_n (pc := 0) hx hb dX1_offAcross_0 rfl (lv_at hl 0 rfl) ?_
  refine va_get (ci := 1) (C := RX1) (T := TX1) (N := 12) (pc := 1) hx hb hts hiX1 hown hK hP 11 w11 rfl 4 (by decide) (hts (.fieldLink RX1 28 "InkPress$Marks" "count" "I") (by decide +kernel)) (fun _ h9 => h9) rfl dX1_offAcross_1 ?_
  refine lv_i2l (v := (nI (mn)).toInt64) (pc := 4) hx hb dX1_offAcross_4 rfl ?_
  refine lv_aload_n (pc := 5) hx hb dX1_offAcross_5 rfl (lv_at hl 0 rfl) ?_
  refine mx_cVl (As := []) (rest := [.long ((nI (mn)).toInt64)]) (pc := 6) ⟨hx, hb, hml, hown, hts⟩ (k_X1_stretch (a := a) (mx := mx) (my := my) (mdx := mdx) (mdy := mdy) (mn := mn) (m1 := m1) (m2 := m2) (m3 := m3) (m4 := m4) (m5 := m5) (m6 := m6) (m7 := m7) hD w11 w12 w13 w14 w15 ) (cwV 0 hts gX1_offAcross_X1_stretch rfl rfl rfl (by decide +kernel) ⟨Nat.le_of_ble_eq_true rfl, Nat.le_of_ble_eq_true rfl⟩) 11 rfl rfl w11 hK hN hZ hP hS rfl hl.1 rfl (Nat.le_of_ble_eq_true rfl) dX1_offAcross_6 ⟨Nat.zero_le _, Nat.zero_le _⟩ (fun G' H locs hP hD hS hB => ?_)
  rw [hB] at hP hD
  clear hB G'
  refine lv_aload_n (pc := 9) hx hb dX1_offAcross_9 rfl (lv_at hl 0 rfl) ?_
  refine va_get (ci := 1) (C := RX1) (T := TX1) (N := 12) (pc := 10) hx hb hts hiX1 hown hK hP 11 w11 rfl 0 (by decide) (hts (.fieldLink RX1 11 "InkPress$Marks" "x" "[I") (by decide +kernel)) (fun _ h9 => h9) rfl dX1_offAcross_10 ?_
  refine lv_iload_n (pc := 13) hx hb dX1_offAcross_13 rfl (lv_at hl 1 rfl) ?_
  refine mx_iald (pc := 14) hx hb hK hP 12 w12 (i) (by omega) (by decide) dX1_offAcross_14 ?_
  refine lv_i2l (v := ((mx) (i)).toInt64) (pc := 15) hx hb dX1_offAcross_15 rfl ?_
  refine lv_lmul (pc := 16) hx hb dX1_offAcross_16 ?_
  refine lv_aload_n (pc := 17) hx hb dX1_offAcross_17 rfl (lv_at hl 0 rfl) ?_
  refine mx_cVl (As := []) (rest := [.long ((gStr (mn) (m1) (m2) (m3) (m4) (m5) (m6) (m7) * ((mx) (i)).toInt64)), .long ((nI (mn)).toInt64)]) (pc := 18) ⟨hx, hb, hml, hown, hts⟩ (k_X1_turn (a := a) (mx := mx) (my := my) (mdx := mdx) (mdy := mdy) (mn := mn) (m1 := m1) (m2 := m2) (m3 := m3) (m4 := m4) (m5 := m5) (m6 := m6) (m7 := m7) hD w11 w12 w13 w14 w15 ) (cwV 0 hts gX1_offAcross_X1_turn rfl rfl rfl (by decide +kernel) ⟨Nat.le_of_ble_eq_true rfl, Nat.le_of_ble_eq_true rfl⟩) 11 rfl rfl w11 hK hN hZ hP hS rfl hl.1 rfl (Nat.le_of_ble_eq_true rfl) dX1_offAcross_18 ⟨Nat.zero_le _, Nat.zero_le _⟩ (fun G' H locs hP hD hS hB => ?_)
  rw [hB] at hP hD
  clear hB G'
  refine lv_aload_n (pc := 21) hx hb dX1_offAcross_21 rfl (lv_at hl 0 rfl) ?_
  refine va_get (ci := 1) (C := RX1) (T := TX1) (N := 12) (pc := 22) hx hb hts hiX1 hown hK hP 11 w11 rfl 1 (by decide) (hts (.fieldLink RX1 15 "InkPress$Marks" "y" "[I") (by decide +kernel)) (fun _ h9 => h9) rfl dX1_offAcross_22 ?_
  refine lv_iload_n (pc := 25) hx hb dX1_offAcross_25 rfl (lv_at hl 1 rfl) ?_
  refine mx_iald (pc := 26) hx hb hK hP 13 w13 (i) (by omega) (by decide) dX1_offAcross_26 ?_
  refine lv_i2l (v := ((my) (i)).toInt64) (pc := 27) hx hb dX1_offAcross_27 rfl ?_
  refine lv_lmul (pc := 28) hx hb dX1_offAcross_28 ?_
  refine lv_lsub (pc := 29) hx hb dX1_offAcross_29 ?_
  refine lv_lmul (pc := 30) hx hb dX1_offAcross_30 ?_
  refine lv_aload_n (pc := 31) hx hb dX1_offAcross_31 rfl (lv_at hl 0 rfl) ?_
  refine mx_cVl (As := []) (rest := [.long (((nI (mn)).toInt64 * ((gStr (mn) (m1) (m2) (m3) (m4) (m5) (m6) (m7) * ((mx) (i)).toInt64) - (gTu (mn) (m1) (m2) (m3) (m4) (m5) (m6) (m7) * ((my) (i)).toInt64))))]) (pc := 32) ⟨hx, hb, hml, hown, hts⟩ (k_X1_across (a := a) (mx := mx) (my := my) (mdx := mdx) (mdy := mdy) (mn := mn) (m1 := m1) (m2 := m2) (m3 := m3) (m4 := m4) (m5 := m5) (m6 := m6) (m7 := m7) hD w11 w12 w13 w14 w15 ) (cwV 0 hts gX1_offAcross_X1_across rfl rfl rfl (by decide +kernel) ⟨Nat.le_of_ble_eq_true rfl, Nat.le_of_ble_eq_true rfl⟩) 11 rfl rfl w11 hK hN hZ hP hS rfl hl.1 rfl (Nat.le_of_ble_eq_true rfl) dX1_offAcross_32 ⟨Nat.zero_le _, Nat.zero_le _⟩ (fun G' H locs hP hD hS hB => ?_)
  rw [hB] at hP hD
  clear hB G'
  refine lv_ladd (pc := 35) hx hb dX1_offAcross_35 ?_
  refine lv_lstore_n (lv' := [(2, .long ((((nI (mn)).toInt64 * ((gStr (mn) (m1) (m2) (m3) (m4) (m5) (m6) (m7) * ((mx) (i)).toInt64) - (gTu (mn) (m1) (m2) (m3) (m4) (m5) (m6) (m7) * ((my) (i)).toInt64))) + gAc (mn) (m1) (m2) (m3) (m4) (m5) (m6) (m7)))), (0, .ref (a 11)), (1, .int (nI (i)))]) (pc := 36) hx hb dX1_offAcross_36 rfl hl (by decide) rfl (fun ls hl => ?_)
  refine lv_aload_n (pc := 37) hx hb dX1_offAcross_37 rfl (lv_at hl 1 rfl) ?_
  refine lv_aload_n (pc := 38) hx hb dX1_offAcross_38 rfl (lv_at hl 1 rfl) ?_
  refine va_get (ci := 1) (C := RX1) (T := TX1) (N := 12) (pc := 39) hx hb hts hiX1 hown hK hP 11 w11 rfl 2 (by decide) (hts (.fieldLink RX1 18 "InkPress$Marks" "dx" "[I") (by decide +kernel)) (fun _ h9 => h9) rfl dX1_offAcross_39 ?_
  refine lv_iload_n (pc := 42) hx hb dX1_offAcross_42 rfl (lv_at hl 2 rfl) ?_
  refine mx_iald (pc := 43) hx hb hK hP 14 w14 (i) (by omega) (by decide) dX1_offAcross_43 ?_
  refine lv_lload_n (pc := 44) hx hb dX1_offAcross_44 rfl (lv_at hl 0 rfl) ?_
  refine mx_cVi (As := [.int ((mdx) (i)), .long ((((nI (mn)).toInt64 * ((gStr (mn) (m1) (m2) (m3) (m4) (m5) (m6) (m7) * ((mx) (i)).toInt64) - (gTu (mn) (m1) (m2) (m3) (m4) (m5) (m6) (m7) * ((my) (i)).toInt64))) + gAc (mn) (m1) (m2) (m3) (m4) (m5) (m6) (m7)))]) (rest := []) (pc := 45) ⟨hx, hb, hml, hown, hts⟩ (k_X1_inThousandths (a := a) (mx := mx) (my := my) (mdx := mdx) (mdy := mdy) (mn := mn) (m1 := m1) (m2 := m2) (m3 := m3) (m4 := m4) (m5 := m5) (m6 := m6) (m7 := m7) (u := (mdx) (i)) (md := (((nI (mn)).toInt64 * ((gStr (mn) (m1) (m2) (m3) (m4) (m5) (m6) (m7) * ((mx) (i)).toInt64) - (gTu (mn) (m1) (m2) (m3) (m4) (m5) (m6) (m7) * ((my) (i)).toInt64))) + gAc (mn) (m1) (m2) (m3) (m4) (m5) (m6) (m7))) hD w11 w12 w13 w14 w15 ) (cwV 2 hts gX1_offAcross_X1_inThousandths rfl rfl rfl (by decide +kernel) ⟨Nat.le_of_ble_eq_true rfl, Nat.le_of_ble_eq_true rfl⟩) 11 rfl rfl w11 hK hN hZ hP hS rfl hl.1 rfl (Nat.le_of_ble_eq_true rfl) dX1_offAcross_45 ⟨Nat.zero_le _, Nat.zero_le _⟩ (fun G' H locs hP hD hS hB => ?_)
  rw [hB] at hP hD
  clear hB G'
  exact hret _ _ _ _ _ _ hP hD hS rfl rfl dX1_offAcross_48
set_option maxHeartbeats 4000000 in
set_option maxRecDepth 100000 in
theorem k_X1_offUp {l : Launch} {D : va_G} {cI cZ : ClassId} {A : Nat → Prop} {g a : Nat → Nat} {G0 : va_W} {mx : Nat → Int32} {my : Nat → Int32} {mdx : Nat → Int32} {mdy : Nat → Int32} {mn : Nat} {m1 : Int64} {m2 : Int64} {m3 : Int64} {m4 : Int64} {m5 : Int64} {m6 : Int64} {m7 : Int64} {i : Nat} (hD : va_D A G0) (w11 : G0[11]? = some (a 11, .inr (1, [.ref (a 12), .ref (a 13), .ref (a 14), .ref (a 15), .int (nI (mn)), .long (m1), .long (m2), .long (m3), .long (m4), .long (m5), .long (m6), .long (m7)]))) (w12 : G0[12]? = some (a 12, .inl (cI, 8, .inl (mx)))) (w13 : G0[13]? = some (a 13, .inl (cI, 8, .inl (my)))) (w14 : G0[14]? = some (a 14, .inl (cI, 8, .inl (mdx)))) (w15 : G0[15]? = some (a 15, .inl (cI, 8, .inl (mdy)))) (hi : i < 8) : gMi l D cI cZ A g yX1_offUp wsX1_offUp ({ frames := 2, cells := 0, slots := 0, locals := 45 }) [.ref (a 11), .int (nI (i))] G0 (gTh (gSp mn m1 m2 m3 m4 m5 m6 m7 * (nI mn).toInt64) (mdy i) ((nI mn).toInt64 * (gStr mn m1 m2 m3 m4 m5 m6 m7 * (my i).toInt64 + gTu mn m1 m2 m3 m4 m5 m6 m7 * (mx i).toInt64) + gUp mn m1 m2 m3 m4 m5 m6 m7)) (fun G1 => G1 = G0) := by
  refine gof_i (cc := cX1_offUp) (maxL := 4) (by decide) rfl (Nat.le_of_ble_eq_true rfl) hD ?_
  intro p e s m args below meth c Q hx hb hml hts hown hK hN hZ hP hS hret ls hl
  have hown : s.vm.findClass RX1 = some m.cls := hown
  have hl : lv_has ls 4 [(0, .ref (a 11)), (1, .int (nI (i)))] := hl
  obtain ⟨locs, elocs⟩ : ∃ q : List Loc, q = [] := ⟨_, rfl⟩
  rw [← elocs] at hS ⊢
  obtain ⟨H, eH⟩ : ∃ q : Heap, q = s.heap := ⟨_, rfl⟩
  have hP : va_P D vwCl G0 H := eH ▸ hP
  have hS : va_S A s.heap H locs := by rw [eH]; exact hS
  rw [← eH]
  clear elocs eH
  have hiX1 : ∀ w ∈ u_ws RX1 TX1 12, w ∈ wsX1_offUp := by decide +kernel
  have hk : ∀ k, k ∉ ([] : List Nat) → G0[k]? = G0[k]? := fun _ _ => rfl
  refine lv_aload_n (pc := 0) hx hb dX1_offUp_0 rfl (lv_at hl 0 rfl) ?_
  refine va_get (ci := 1) (C := RX1) (T := TX1) (N := 12) (pc := 1) hx hb hts hiX1 hown hK hP 11 w11 rfl 4 (by decide) (hts (.fieldLink RX1 28 "InkPress$Marks" "count" "I") (by decide +kernel)) (fun _ h9 => h9) rfl dX1_offUp_1 ?_
  refine lv_i2l (v := (nI (mn)).toInt64) (pc := 4) hx hb dX1_offUp_4 rfl ?_
  refine lv_aload_n (pc := 5) hx hb dX1_offUp_5 rfl (lv_at hl 0 rfl) ?_
  refine mx_cVl (As := []) (rest := [.long ((nI (mn)).toInt64)]) (pc := 6) ⟨hx, hb, hml, hown, hts⟩ (k_X1_stretch (a := a) (mx := mx) (my := my) (mdx := mdx) (mdy := mdy) (mn := mn) (m1 := m1) (m2 := m2) (m3 := m3) (m4 := m4) (m5 := m5) (m6 := m6) (m7 := m7) hD w11 w12 w13 w14 w15 ) (cwV 0 hts gX1_offUp_X1_stretch rfl rfl rfl (by decide +kernel) ⟨Nat.le_of_ble_eq_true rfl, Nat.le_of_ble_eq_true rfl⟩) 11 rfl rfl w11 hK hN hZ hP hS rfl hl.1 rfl (Nat.le_of_ble_eq_true rfl) dX1_offUp_6 ⟨Nat.zero_le _, Nat.zero_le _⟩ (fun G' H locs hP hD hS hB => ?_)
  rw [hB] at hP hD
  clear hB G'
  refine lv_aload_n (pc := 9) hx hb dX1_offUp_9 rfl (lv_at hl 0 rfl) ?_
  refine va_get (ci := 1) (C := RX1) (T := TX1) (N := 12) (pc := 10) hx hb hts hiX1 hown hK hP 11 w11 rfl 1 (by decide) (hts (.fieldLink RX1 15 "InkPress$Marks" "y" "[I") (by decide +kernel)) (fun _ h9 => h9) rfl dX1_offUp_10 ?_
  refine lv_iload_n (pc := 13) hx hb dX1_offUp_13 rfl (lv_at hl 1 rfl) ?_
  refine mx_iald (pc := 14) hx hb hK hP 13 w13 (i) (by omega) (by decide) dX1_offUp_14 ?_
  refine lv_i2l (v := ((my) (i)).toInt64) (pc := 15) hx hb dX1_offUp_15 rfl ?_
  refine lv_lmul (pc := 16) hx hb dX1_offUp_16 ?_
  refine lv_aload_n (pc := 17) hx hb dX1_offUp_17 rfl (lv_at hl 0 rfl) ?_
  refine mx_cVl (As := []) (rest := [.long ((gStr (mn) (m1) (m2) (m3) (m4) (m5) (m6) (m7) * ((my) (i)).toInt64)), .long ((nI (mn)).toInt64)]) (pc := 18) ⟨hx, hb, hml, hown, hts⟩ (k_X1_turn (a := a) (mx := mx) (my := my) (mdx := mdx) (mdy := mdy) (mn := mn) (m1 := m1) (m2 := m2) (m3 := m3) (m4 := m4) (m5 := m5) (m6 := m6) (m7 := m7) hD w11 w12 w13 w14 w15 ) (cwV 0 hts gX1_offUp_X1_turn rfl rfl rfl (by decide +kernel) ⟨Nat.le_of_ble_eq_true rfl, Nat.le_of_ble_eq_true rfl⟩) 11 rfl rfl w11 hK hN hZ hP hS rfl hl.1 rfl (Nat.le_of_ble_eq_true rfl) dX1_offUp_18 ⟨Nat.zero_le _, Nat.zero_le _⟩ (fun G' H locs hP hD hS hB => ?_)
  rw [hB] at hP hD
  clear hB G'
  refine lv_aload_n (pc := 21) hx hb dX1_offUp_21 rfl (lv_at hl 0 rfl) ?_
  refine va_get (ci := 1) (C := RX1) (T := TX1) (N := 12) (pc := 22) hx hb hts hiX1 hown hK hP 11 w11 rfl 0 (by decide) (hts (.fieldLink RX1 11 "InkPress$Marks" "x" "[I") (by decide +kernel)) (fun _ h9 => h9) rfl dX1_offUp_22 ?_
  refine lv_iload_n (pc := 25) hx hb dX1_offUp_25 rfl (lv_at hl 1 rfl) ?_
  refine mx_iald (pc := 26) hx hb hK hP 12 w12 (i) (by omega) (by decide) dX1_offUp_26 ?_
  refine lv_i2l (v := ((mx) (i)).toInt64) (pc := 27) hx hb dX1_offUp_27 rfl ?_
  refine lv_lmul (pc := 28) hx hb dX1_offUp_28 ?_
  refine lv_ladd (pc := 29) hx hb dX1_offUp_29 ?_
  refine lv_lmul (pc := 30) hx hb dX1_offUp_30 ?_
  refine lv_aload_n (pc := 31) hx hb dX1_offUp_31 rfl (lv_at hl 0 rfl) ?_
  refine mx_cVl (As := []) (rest := [.long (((nI (mn)).toInt64 * ((gStr (mn) (m1) (m2) (m3) (m4) (m5) (m6) (m7) * ((my) (i)).toInt64) + (gTu (mn) (m1) (m2) (m3) (m4) (m5) (m6) (m7) * ((mx) (i)).toInt64))))]) (pc := 32) ⟨hx, hb, hml, hown, hts⟩ (k_X1_up (a := a) (mx := mx) (my := my) (mdx := mdx) (mdy := mdy) (mn := mn) (m1 := m1) (m2 := m2) (m3 := m3) (m4 := m4) (m5 := m5) (m6 := m6) (m7 := m7) hD w11 w12 w13 w14 w15 ) (cwV 0 hts gX1_offUp_X1_up rfl rfl rfl (by decide +kernel) ⟨Nat.le_of_ble_eq_true rfl, Nat.le_of_ble_eq_true rfl⟩) 11 rfl rfl w11 hK hN hZ hP hS rfl hl.1 rfl (Nat.le_of_ble_eq_true rfl) dX1_offUp_32 ⟨Nat.zero_le _, Nat.zero_le _⟩ (fun G' H locs hP hD hS hB => ?_)
  rw [hB] at hP hD
  clear hB G'
  refine lv_ladd (pc := 35) hx hb dX1_offUp_35 ?_
  refine lv_lstore_n (lv' := [(2, .long ((((nI (mn)).toInt64 * ((gStr (mn) (m1) (m2) (m3) (m4) (m5) (m6) (m7) * ((my) (i)).toInt64) + (gTu (mn) (m1) (m2) (m3) (m4) (m5) (m6) (m7) * ((mx) (i)).toInt64))) + gUp (mn) (m1) (m2) (m3) (m4) (m5) (m6) (m7)))), (0, .ref (a 11)), (1, .int (nI (i)))]) (pc := 36) hx hb dX1_offUp_36 rfl hl (by decide) rfl (fun ls hl => ?_)
  refine lv_aload_n (pc := 37) hx hb dX1_offUp_37 rfl (lv_at hl 1 rfl) ?_
  refine lv_aload_n (pc := 38) hx hb dX1_offUp_38 rfl (lv_at hl 1 rfl) ?_
  refine va_get (ci := 1) (C := RX1) (T := TX1) (N := 12) (pc := 39) hx hb hts hiX1 hown hK hP 11 w11 rfl 3 (by decide) (hts (.fieldLink RX1 21 "InkPress$Marks" "dy" "[I") (by decide +kernel)) (fun _ h9 => h9) rfl dX1_offUp_39 ?_
  refine lv_iload_n (pc := 42) hx hb dX1_offUp_42 rfl (lv_at hl 2 rfl) ?_
  refine mx_iald (pc := 43) hx hb hK hP 15 w15 (i) (by omega) (by decide) dX1_offUp_43 ?_
  refine lv_lload_n (pc := 44) hx hb dX1_offUp_44 rfl (lv_at hl 0 rfl) ?_
  refine mx_cVi (As := [.int ((mdy) (i)), .long ((((nI (mn)).toInt64 * ((gStr (mn) (m1) (m2) (m3) (m4) (m5) (m6) (m7) * ((my) (i)).toInt64) + (gTu (mn) (m1) (m2) (m3) (m4) (m5) (m6) (m7) * ((mx) (i)).toInt64))) + gUp (mn) (m1) (m2) (m3) (m4) (m5) (m6) (m7)))]) (rest := []) (pc := 45) ⟨hx, hb, hml, hown, hts⟩ (k_X1_inThousandths (a := a) (mx := mx) (my := my) (mdx := mdx) (mdy := mdy) (mn := mn) (m1 := m1) (m2 := m2) (m3 := m3) (m4 := m4) (m5 := m5) (m6 := m6) (m7 := m7) (u := (mdy) (i)) (md := (((nI (mn)).toInt64 * ((gStr (mn) (m1) (m2) (m3) (m4) (m5) (m6) (m7) * ((my) (i)).toInt64) + (gTu (mn) (m1) (m2) (m3) (m4) (m5) (m6) (m7) * ((mx) (i)).toInt64))) + gUp (mn) (m1) (m2) (m3) (m4) (m5) (m6) (m7))) hD w11 w12 w13 w14 w15 ) (cwV 2 hts gX1_offUp_X1_inThousandths rfl rfl rfl (by decide +kernel) ⟨Nat.le_of_ble_eq_true rfl, Nat.le_of_ble_eq_true rfl⟩) 11 rfl rfl w11 hK hN hZ hP hS rfl hl.1 rfl (Nat.le_of_ble_eq_true rfl) dX1_offUp_45 ⟨Nat.zero_le _, Nat.zero_le _⟩ (fun G' H locs hP hD hS hB => ?_)
  rw [hB] at hP hD
  clear hB G'
  exact hret _ _ _ _ _ _ hP hD hS rfl rfl dX1_offUp_48
set_option maxHeartbeats 4000000 in
set_option maxRecDepth 100000 in
theorem k_X1_upper {l : Launch} {D : va_G} {cI cZ : ClassId} {A : Nat → Prop} {g a : Nat → Nat} {G0 : va_W} {mx : Nat → Int32} {my : Nat → Int32} {mdx : Nat → Int32} {mdy : Nat → Int32} {mn : Nat} {m1 : Int64} {m2 : Int64} {m3 : Int64} {m4 : Int64} {m5 : Int64} {m6 : Int64} {m7 : Int64} {wh : Nat} (hD : va_D A G0) (w11 : G0[11]? = some (a 11, .inr (1, [.ref (a 12), .ref (a 13), .ref (a 14), .ref (a 15), .int (nI (mn)), .long (m1), .long (m2), .long (m3), .long (m4), .long (m5), .long (m6), .long (m7)]))) (w12 : G0[12]? = some (a 12, .inl (cI, 8, .inl (mx)))) (w13 : G0[13]? = some (a 13, .inl (cI, 8, .inl (my)))) (w14 : G0[14]? = some (a 14, .inl (cI, 8, .inl (mdx)))) (w15 : G0[15]? = some (a 15, .inl (cI, 8, .inl (mdy)))) (hw : wh < 4) : gMl l D cI cZ A g yX1_upper wsX1_upper ({ frames := 2, cells := 0, slots := 0, locals := 40 }) [.ref (a 11), .int (nI (wh))] G0 (gUpp wh mn m1 m2 m3 m4 m5 m6 m7) (fun G1 => G1 = G0) := by
  refine gof_l (cc := cX1_upper) (maxL := 2) (by decide) rfl (Nat.le_of_ble_eq_true rfl) hD ?_
  intro p e s m args below meth c Q hx hb hml hts hown hK hN hZ hP hS hret ls hl
  have hown : s.vm.findClass RX1 = some m.cls := hown
  have hl : lv_has ls 2 [(0, .ref (a 11)), (1, .int (nI (wh)))] := hl
  obtain ⟨locs, elocs⟩ : ∃ q : List Loc, q = [] := ⟨_, rfl⟩
  rw [← elocs] at hS ⊢
  obtain ⟨H, eH⟩ : ∃ q : Heap, q = s.heap := ⟨_, rfl⟩
  have hP : va_P D vwCl G0 H := eH ▸ hP
  have hS : va_S A s.heap H locs := by rw [eH]; exact hS
  rw [← eH]
  clear elocs eH
  have hk : ∀ k, k ∉ ([] : List Nat) → G0[k]? = G0[k]? := fun _ _ => rfl
  rcases (show wh = 0 ∨ wh = 1 ∨ wh = 2 ∨ wh = 3 by omega) with rfl | rfl | rfl | rfl
  · skip
    refine lv_iload_n (pc := 0) hx hb dX1_upper_0 rfl (lv_at hl 1 rfl) ?_
    refine lv_tableIn (tgt := 28) (pc := 1) hx hb dX1_upper_1 (by decide) (by decide) rfl (by decide) ?_
    refine lv_aload_n (pc := 28) hx hb dX1_upper_28 rfl (lv_at hl 0 rfl) ?_
    refine mx_cVl (As := []) (rest := []) (pc := 29) ⟨hx, hb, hml, hown, hts⟩ (k_X1_stretch (a := a) (mx := mx) (my := my) (mdx := mdx) (mdy := mdy) (mn := mn) (m1 := m1) (m2 := m2) (m3 := m3) (m4 := m4) (m5 := m5) (m6 := m6) (m7 := m7) hD w11 w12 w13 w14 w15 ) (cwV 0 hts gX1_upper_X1_stretch rfl rfl rfl (by decide +kernel) ⟨Nat.le_of_ble_eq_true rfl, Nat.le_of_ble_eq_true rfl⟩) 11 rfl rfl w11 hK hN hZ hP hS rfl hl.1 rfl (Nat.le_of_ble_eq_true rfl) dX1_upper_29 ⟨Nat.zero_le _, Nat.zero_le _⟩ (fun G' H locs hP hD hS hB => ?_)
    rw [hB] at hP hD
    clear hB G'
    exact hret _ _ _ _ _ _ hP hD hS rfl rfl dX1_upper_32
  · skip
    refine lv_iload_n (pc := 0) hx hb dX1_upper_0 rfl (lv_at hl 1 rfl) ?_
    refine lv_tableIn (tgt := 33) (pc := 1) hx hb dX1_upper_1 (by decide) (by decide) rfl (by decide) ?_
    refine lv_aload_n (pc := 33) hx hb dX1_upper_33 rfl (lv_at hl 0 rfl) ?_
    refine mx_cVl (As := []) (rest := []) (pc := 34) ⟨hx, hb, hml, hown, hts⟩ (k_X1_turn (a := a) (mx := mx) (my := my) (mdx := mdx) (mdy := mdy) (mn := mn) (m1 := m1) (m2 := m2) (m3 := m3) (m4 := m4) (m5 := m5) (m6 := m6) (m7 := m7) hD w11 w12 w13 w14 w15 ) (cwV 0 hts gX1_upper_X1_turn rfl rfl rfl (by decide +kernel) ⟨Nat.le_of_ble_eq_true rfl, Nat.le_of_ble_eq_true rfl⟩) 11 rfl rfl w11 hK hN hZ hP hS rfl hl.1 rfl (Nat.le_of_ble_eq_true rfl) dX1_upper_34 ⟨Nat.zero_le _, Nat.zero_le _⟩ (fun G' H locs hP hD hS hB => ?_)
    rw [hB] at hP hD
    clear hB G'
    exact hret _ _ _ _ _ _ hP hD hS rfl rfl dX1_upper_37
  · skip
    refine lv_iload_n (pc := 0) hx hb dX1_upper_0 rfl (lv_at hl 1 rfl) ?_
    refine lv_tableIn (tgt := 38) (pc := 1) hx hb dX1_upper_1 (by decide) (by decide) rfl (by decide) ?_
    refine lv_aload_n (pc := 38) hx hb dX1_upper_38 rfl (lv_at hl 0 rfl) ?_
    refine mx_cVl (As := []) (rest := []) (pc := 39) ⟨hx, hb, hml, hown, hts⟩ (k_X1_across (a := a) (mx := mx) (my := my) (mdx := mdx) (mdy := mdy) (mn := mn) (m1 := m1) (m2 := m2) (m3 := m3) (m4 := m4) (m5 := m5) (m6 := m6) (m7 := m7) hD w11 w12 w13 w14 w15 ) (cwV 0 hts gX1_upper_X1_across rfl rfl rfl (by decide +kernel) ⟨Nat.le_of_ble_eq_true rfl, Nat.le_of_ble_eq_true rfl⟩) 11 rfl rfl w11 hK hN hZ hP hS rfl hl.1 rfl (Nat.le_of_ble_eq_true rfl) dX1_upper_39 ⟨Nat.zero_le _, Nat.zero_le _⟩ (fun G' H locs hP hD hS hB => ?_)
    rw [hB] at hP hD
    clear hB G'
    exact hret _ _ _ _ _ _ hP hD hS rfl rfl dX1_upper_42
  · skip
    refine lv_iload_n (pc := 0) hx hb dX1_upper_0 rfl (lv_at hl 1 rfl) ?_
    refine lv_tableOut (tgt := 43) (pc := 1) hx hb dX1_upper_1 (by decide) (by decide) ?_
    refine lv_aload_n (pc := 43) hx hb dX1_upper_43 rfl (lv_at hl 0 rfl) ?_
    refine mx_cVl (As := []) (rest := []) (pc := 44) ⟨hx, hb, hml, hown, hts⟩ (k_X1_up (a := a) (mx := mx) (my := my) (mdx := mdx) (mdy := mdy) (mn := mn) (m1 := m1) (m2 := m2) (m3 := m3) (m4 := m4) (m5 := m5) (m6 := m6) (m7 := m7) hD w11 w12 w13 w14 w15 ) (cwV 0 hts gX1_upper_X1_up rfl rfl rfl (by decide +kernel) ⟨Nat.le_of_ble_eq_true rfl, Nat.le_of_ble_eq_true rfl⟩) 11 rfl rfl w11 hK hN hZ hP hS rfl hl.1 rfl (Nat.le_of_ble_eq_true rfl) dX1_upper_44 ⟨Nat.zero_le _, Nat.zero_le _⟩ (fun G' H locs hP hD hS hB => ?_)
    rw [hB] at hP hD
    clear hB G'
    exact hret _ _ _ _ _ _ hP hD hS rfl rfl dX1_upper_47
set_option maxHeartbeats 4000000 in
set_option maxRecDepth 100000 in
theorem k_X1_lower {l : Launch} {D : va_G} {cI cZ : ClassId} {A : Nat → Prop} {g a : Nat → Nat} {G0 : va_W} {mx : Nat → Int32} {my : Nat → Int32} {mdx : Nat → Int32} {mdy : Nat → Int32} {mn : Nat} {m1 : Int64} {m2 : Int64} {m3 : Int64} {m4 : Int64} {m5 : Int64} {m6 : Int64} {m7 : Int64} {wh : Nat} (hD : va_D A G0) (w11 : G0[11]? = some (a 11, .inr (1, [.ref (a 12), .ref (a 13), .ref (a 14), .ref (a 15), .int (nI (mn)), .long (m1), .long (m2), .long (m3), .long (m4), .long (m5), .long (m6), .long (m7)]))) (w12 : G0[12]? = some (a 12, .inl (cI, 8, .inl (mx)))) (w13 : G0[13]? = some (a 13, .inl (cI, 8, .inl (my)))) (w14 : G0[14]? = some (a 14, .inl (cI, 8, .inl (mdx)))) (w15 : G0[15]? = some (a 15, .inl (cI, 8, .inl (mdy)))) (hw : wh < 4) : gMl l D cI cZ A g yX1_lower wsX1_lower ({ frames := 1, cells := 0, slots := 0, locals := 20 }) [.ref (a 11), .int (nI (wh))] G0 (gLow wh mn m1 m2 m3 m4 m5 m6 m7) (fun G1 => G1 = G0) := by
  refine gof_l (cc := cX1_lower) (maxL := 2) (by decide) rfl (Nat.le_of_ble_eq_true rfl) hD ?_
  intro p e s m args below meth c Q hx hb hml hts hown hK hN hZ hP hS hret ls hl
  have hown : s.vm.findClass RX1 = some m.cls := hown
  have hl : lv_has ls 2 [(0, .ref (a 11)), (1, .int (nI (wh)))] := hl
  obtain ⟨locs, elocs⟩ : ∃ q : List Loc, q = [] := ⟨_, rfl⟩
  rw [← elocs] at hS ⊢
  obtain ⟨H, eH⟩ : ∃ q : Heap, q = s.heap := ⟨_, rfl⟩
  have hP : va_P D vwCl G0 H := eH ▸ hP
  have hS : va_S A s.heap H locs := by rw [eH]; exact hS
  rw [← eH]
  clear elocs eH
  have hiX1 : ∀ w ∈ u_ws RX1 TX1 12, w ∈ wsX1_lower := by decide +kernel
  have hk : ∀ k, k ∉ ([] : List Nat) → G0[k]? = G0[k]? := fun _ _ => rfl
  rcases (show wh = 0 ∨ wh = 1 ∨ wh = 2 ∨ wh = 3 by omega) with rfl | rfl | rfl | rfl
  · skip
    refine lv_iload_n (pc := 0) hx hb dX1_lower_0 rfl (lv_at hl 1 rfl) ?_
    refine lv_if_eq (tgt := 9) (pc := 1) hx hb dX1_lower_1 (by decide) (fun c1 => ?_) (fun c1 => absurd (by decide) c1)
    refine lv_aload_n (pc := 9) hx hb dX1_lower_9 rfl (lv_at hl 0 rfl) ?_
    refine mx_cVl (As := []) (rest := []) (pc := 10) ⟨hx, hb, hml, hown, hts⟩ (k_X1_spread (a := a) (mx := mx) (my := my) (mdx := mdx) (mdy := mdy) (mn := mn) (m1 := m1) (m2 := m2) (m3 := m3) (m4 := m4) (m5 := m5) (m6 := m6) (m7 := m7) hD w11 w12 w13 w14 w15 ) (cwV 0 hts gX1_lower_X1_spread rfl rfl rfl (by decide +kernel) ⟨Nat.le_of_ble_eq_true rfl, Nat.le_of_ble_eq_true rfl⟩) 11 rfl rfl w11 hK hN hZ hP hS rfl hl.1 rfl (Nat.le_of_ble_eq_true rfl) dX1_lower_10 ⟨Nat.zero_le _, Nat.zero_le _⟩ (fun G' H locs hP hD hS hB => ?_)
    rw [hB] at hP hD
    clear hB G'
    refine lv_goto (tgt := 26) (pc := 13) hx hb dX1_lower_13 (by decide) ?_
    exact hret _ _ _ _ _ _ hP hD hS rfl rfl dX1_lower_26
  · skip
    refine lv_iload_n (pc := 0) hx hb dX1_lower_0 rfl (lv_at hl 1 rfl) ?_
    refine lv_if_eq (tgt := 9) (pc := 1) hx hb dX1_lower_1 (by decide) (fun c1 => absurd c1 (by decide)) (fun c1 => ?_)
    refine lv_iload_n (pc := 4) hx hb dX1_lower_4 rfl (lv_at hl 1 rfl) ?_
    refine lv_iconst (v := nI (1)) (pc := 5) hx hb dX1_lower_5 (by decide) ?_
    refine mx_cne (tgt := 16) (pc := 6) hx hb (by omega) (by omega) dX1_lower_6 (by decide) (fun c6 => absurd c6 (by omega)) (fun c6 => ?_)
    refine lv_aload_n (pc := 9) hx hb dX1_lower_9 rfl (lv_at hl 0 rfl) ?_
    refine mx_cVl (As := []) (rest := []) (pc := 10) ⟨hx, hb, hml, hown, hts⟩ (k_X1_spread (a := a) (mx := mx) (my := my) (mdx := mdx) (mdy := mdy) (mn := mn) (m1 := m1) (m2 := m2) (m3 := m3) (m4 := m4) (m5 := m5) (m6 := m6) (m7 := m7) hD w11 w12 w13 w14 w15 ) (cwV 0 hts gX1_lower_X1_spread rfl rfl rfl (by decide +kernel) ⟨Nat.le_of_ble_eq_true rfl, Nat.le_of_ble_eq_true rfl⟩) 11 rfl rfl w11 hK hN hZ hP hS rfl hl.1 rfl (Nat.le_of_ble_eq_true rfl) dX1_lower_10 ⟨Nat.zero_le _, Nat.zero_le _⟩ (fun G' H locs hP hD hS hB => ?_)
    rw [hB] at hP hD
    clear hB G'
    refine lv_goto (tgt := 26) (pc := 13) hx hb dX1_lower_13 (by decide) ?_
    exact hret _ _ _ _ _ _ hP hD hS rfl rfl dX1_lower_26
  · skip
    refine lv_iload_n (pc := 0) hx hb dX1_lower_0 rfl (lv_at hl 1 rfl) ?_
    refine lv_if_eq (tgt := 9) (pc := 1) hx hb dX1_lower_1 (by decide) (fun c1 => absurd c1 (by decide)) (fun c1 => ?_)
    refine lv_iload_n (pc := 4) hx hb dX1_lower_4 rfl (lv_at hl 1 rfl) ?_
    refine lv_iconst (v := nI (1)) (pc := 5) hx hb dX1_lower_5 (by decide) ?_
    refine mx_cne (tgt := 16) (pc := 6) hx hb (by omega) (by omega) dX1_lower_6 (by decide) (fun c6 => ?_) (fun c6 => absurd c6 (by omega))
    refine lv_aload_n (pc := 16) hx hb dX1_lower_16 rfl (lv_at hl 0 rfl) ?_
    refine mx_cVl (As := []) (rest := []) (pc := 17) ⟨hx, hb, hml, hown, hts⟩ (k_X1_spread (a := a) (mx := mx) (my := my) (mdx := mdx) (mdy := mdy) (mn := mn) (m1 := m1) (m2 := m2) (m3 := m3) (m4 := m4) (m5 := m5) (m6 := m6) (m7 := m7) hD w11 w12 w13 w14 w15 ) (cwV 0 hts gX1_lower_X1_spread rfl rfl rfl (by decide +kernel) ⟨Nat.le_of_ble_eq_true rfl, Nat.le_of_ble_eq_true rfl⟩) 11 rfl rfl w11 hK hN hZ hP hS rfl hl.1 rfl (Nat.le_of_ble_eq_true rfl) dX1_lower_17 ⟨Nat.zero_le _, Nat.zero_le _⟩ (fun G' H locs hP hD hS hB => ?_)
    rw [hB] at hP hD
    clear hB G'
    refine lv_aload_n (pc := 20) hx hb dX1_lower_20 rfl (lv_at hl 0 rfl) ?_
    refine va_get (ci := 1) (C := RX1) (T := TX1) (N := 12) (pc := 21) hx hb hts hiX1 hown hK hP 11 w11 rfl 4 (by decide) (hts (.fieldLink RX1 28 "InkPress$Marks" "count" "I") (by decide +kernel)) (fun _ h9 => h9) rfl dX1_lower_21 ?_
    refine lv_i2l (v := (nI (mn)).toInt64) (pc := 24) hx hb dX1_lower_24 rfl ?_
    refine lv_lmul (pc := 25) hx hb dX1_lower_25 ?_
    exact hret _ _ _ _ _ _ hP hD hS rfl rfl dX1_lower_26
  · skip
    refine lv_iload_n (pc := 0) hx hb dX1_lower_0 rfl (lv_at hl 1 rfl) ?_
    refine lv_if_eq (tgt := 9) (pc := 1) hx hb dX1_lower_1 (by decide) (fun c1 => absurd c1 (by decide)) (fun c1 => ?_)
    refine lv_iload_n (pc := 4) hx hb dX1_lower_4 rfl (lv_at hl 1 rfl) ?_
    refine lv_iconst (v := nI (1)) (pc := 5) hx hb dX1_lower_5 (by decide) ?_
    refine mx_cne (tgt := 16) (pc := 6) hx hb (by omega) (by omega) dX1_lower_6 (by decide) (fun c6 => ?_) (fun c6 => absurd c6 (by omega))
    refine lv_aload_n (pc := 16) hx hb dX1_lower_16 rfl (lv_at hl 0 rfl) ?_
    refine mx_cVl (As := []) (rest := []) (pc := 17) ⟨hx, hb, hml, hown, hts⟩ (k_X1_spread (a := a) (mx := mx) (my := my) (mdx := mdx) (mdy := mdy) (mn := mn) (m1 := m1) (m2 := m2) (m3 := m3) (m4 := m4) (m5 := m5) (m6 := m6) (m7 := m7) hD w11 w12 w13 w14 w15 ) (cwV 0 hts gX1_lower_X1_spread rfl rfl rfl (by decide +kernel) ⟨Nat.le_of_ble_eq_true rfl, Nat.le_of_ble_eq_true rfl⟩) 11 rfl rfl w11 hK hN hZ hP hS rfl hl.1 rfl (Nat.le_of_ble_eq_true rfl) dX1_lower_17 ⟨Nat.zero_le _, Nat.zero_le _⟩ (fun G' H locs hP hD hS hB => ?_)
    rw [hB] at hP hD
    clear hB G'
    refine lv_aload_n (pc := 20) hx hb dX1_lower_20 rfl (lv_at hl 0 rfl) ?_
    refine va_get (ci := 1) (C := RX1) (T := TX1) (N := 12) (pc := 21) hx hb hts hiX1 hown hK hP 11 w11 rfl 4 (by decide) (hts (.fieldLink RX1 28 "InkPress$Marks" "count" "I") (by decide +kernel)) (fun _ h9 => h9) rfl dX1_lower_21 ?_
    refine lv_i2l (v := (nI (mn)).toInt64) (pc := 24) hx hb dX1_lower_24 rfl ?_
    refine lv_lmul (pc := 25) hx hb dX1_lower_25 ?_
    exact hret _ _ _ _ _ _ hP hD hS rfl rfl dX1_lower_26
end
