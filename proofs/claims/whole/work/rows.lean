section
/-- a private method of a class that the tables say can be made, by its rows of tables_1 -/
def lw_okq (q : MethodName × Nat) : Prop := (q.1.cls ≠ "java/lang/invoke/MethodHandle" ∧ q.1.cls ≠ "java/lang/invoke/VarHandle") ∧ Cond.instantiable q.1.cls q.2 ∈ tables_1 ∧ Cond.privateMethod q.1 ∈ tables_1 ∧ Cond.instanceMethod q.1 ∈ tables_1
theorem lw_p0 : lw_okq (⟨"VotedFile", "clientAt", "(I)LVotedFile$Client;"⟩, 9) := ⟨⟨by decide +kernel, by decide +kernel⟩, List.mem_of_getElem? (i := 12) (by decide +kernel), List.mem_of_getElem? (i := 260) (by decide +kernel), List.mem_of_getElem? (i := 261) (by decide +kernel)⟩
theorem lw_p1 : lw_okq (⟨"VotedFile", "canBegin", "(LVotedFile$Client;)Z"⟩, 9) := ⟨⟨by decide +kernel, by decide +kernel⟩, List.mem_of_getElem? (i := 12) (by decide +kernel), List.mem_of_getElem? (i := 264) (by decide +kernel), List.mem_of_getElem? (i := 265) (by decide +kernel)⟩
theorem lw_p2 : lw_okq (⟨"VotedFile", "beginChange", "(LVotedFile$Client;I)I"⟩, 9) := ⟨⟨by decide +kernel, by decide +kernel⟩, List.mem_of_getElem? (i := 12) (by decide +kernel), List.mem_of_getElem? (i := 274) (by decide +kernel), List.mem_of_getElem? (i := 275) (by decide +kernel)⟩
theorem lw_p3 : lw_okq (⟨"VotedFile", "beginAct", "(LVotedFile$Client;LVotedFile$Act;I)I"⟩, 9) := ⟨⟨by decide +kernel, by decide +kernel⟩, List.mem_of_getElem? (i := 12) (by decide +kernel), List.mem_of_getElem? (i := 319) (by decide +kernel), List.mem_of_getElem? (i := 320) (by decide +kernel)⟩
theorem lw_p4 : lw_okq (⟨"VotedFile", "beginPhase", "(LVotedFile$Client;LVotedFile$Act;I)V"⟩, 9) := ⟨⟨by decide +kernel, by decide +kernel⟩, List.mem_of_getElem? (i := 12) (by decide +kernel), List.mem_of_getElem? (i := 327) (by decide +kernel), List.mem_of_getElem? (i := 328) (by decide +kernel)⟩
theorem lw_p5 : lw_okq (⟨"VotedFile", "sendRequests", "(LVotedFile$Client;LVotedFile$Act;)I"⟩, 9) := ⟨⟨by decide +kernel, by decide +kernel⟩, List.mem_of_getElem? (i := 12) (by decide +kernel), List.mem_of_getElem? (i := 331) (by decide +kernel), List.mem_of_getElem? (i := 332) (by decide +kernel)⟩
theorem lw_p6 : lw_okq (⟨"VotedFile", "sendRequest", "(LVotedFile$Client;LVotedFile$Act;I)V"⟩, 9) := ⟨⟨by decide +kernel, by decide +kernel⟩, List.mem_of_getElem? (i := 12) (by decide +kernel), List.mem_of_getElem? (i := 339) (by decide +kernel), List.mem_of_getElem? (i := 340) (by decide +kernel)⟩
theorem lw_p7 : lw_okq (⟨"VotedFile", "canPass", "(LVotedFile$Message;)Z"⟩, 9) := ⟨⟨by decide +kernel, by decide +kernel⟩, List.mem_of_getElem? (i := 12) (by decide +kernel), List.mem_of_getElem? (i := 383) (by decide +kernel), List.mem_of_getElem? (i := 384) (by decide +kernel)⟩
theorem lw_p8 : lw_okq (⟨"VotedFile", "copyAt", "(I)LVotedFile$Copy;"⟩, 9) := ⟨⟨by decide +kernel, by decide +kernel⟩, List.mem_of_getElem? (i := 12) (by decide +kernel), List.mem_of_getElem? (i := 387) (by decide +kernel), List.mem_of_getElem? (i := 388) (by decide +kernel)⟩
theorem lw_p9 : lw_okq (⟨"VotedFile", "hear", "(LVotedFile$Message;)V"⟩, 9) := ⟨⟨by decide +kernel, by decide +kernel⟩, List.mem_of_getElem? (i := 12) (by decide +kernel), List.mem_of_getElem? (i := 396) (by decide +kernel), List.mem_of_getElem? (i := 397) (by decide +kernel)⟩
theorem lw_p10 : lw_okq (⟨"VotedFile", "hasQuorum", "(LVotedFile$Client;LVotedFile$Act;)Z"⟩, 9) := ⟨⟨by decide +kernel, by decide +kernel⟩, List.mem_of_getElem? (i := 12) (by decide +kernel), List.mem_of_getElem? (i := 415) (by decide +kernel), List.mem_of_getElem? (i := 416) (by decide +kernel)⟩
theorem lw_p11 : lw_okq (⟨"VotedFile", "tableAt", "(I)LVotedFile$Table;"⟩, 9) := ⟨⟨by decide +kernel, by decide +kernel⟩, List.mem_of_getElem? (i := 12) (by decide +kernel), List.mem_of_getElem? (i := 419) (by decide +kernel), List.mem_of_getElem? (i := 420) (by decide +kernel)⟩
theorem lw_p12 : lw_okq (⟨"VotedFile", "endPhase", "(LVotedFile$Client;LVotedFile$Act;)I"⟩, 9) := ⟨⟨by decide +kernel, by decide +kernel⟩, List.mem_of_getElem? (i := 12) (by decide +kernel), List.mem_of_getElem? (i := 424) (by decide +kernel), List.mem_of_getElem? (i := 425) (by decide +kernel)⟩
theorem lw_p13 : lw_okq (⟨"VotedFile", "serve", "(LVotedFile$Message;)V"⟩, 9) := ⟨⟨by decide +kernel, by decide +kernel⟩, List.mem_of_getElem? (i := 12) (by decide +kernel), List.mem_of_getElem? (i := 432) (by decide +kernel), List.mem_of_getElem? (i := 433) (by decide +kernel)⟩
theorem lw_p14 : lw_okq (⟨"VotedFile", "actAt", "(I)LVotedFile$Act;"⟩, 9) := ⟨⟨by decide +kernel, by decide +kernel⟩, List.mem_of_getElem? (i := 12) (by decide +kernel), List.mem_of_getElem? (i := 490) (by decide +kernel), List.mem_of_getElem? (i := 491) (by decide +kernel)⟩
theorem lw_p15 : lw_okq (⟨"VotedFileModel", "isCopy", "(I)Z"⟩, 45) := ⟨⟨by decide +kernel, by decide +kernel⟩, List.mem_of_getElem? (i := 509) (by decide +kernel), List.mem_of_getElem? (i := 657) (by decide +kernel), List.mem_of_getElem? (i := 658) (by decide +kernel)⟩
def lw_privs_1 : List (MethodName × Nat) := [(⟨"VotedFile", "clientAt", "(I)LVotedFile$Client;"⟩, 9), (⟨"VotedFile", "canBegin", "(LVotedFile$Client;)Z"⟩, 9), (⟨"VotedFile", "beginChange", "(LVotedFile$Client;I)I"⟩, 9), (⟨"VotedFile", "beginAct", "(LVotedFile$Client;LVotedFile$Act;I)I"⟩, 9), (⟨"VotedFile", "beginPhase", "(LVotedFile$Client;LVotedFile$Act;I)V"⟩, 9), (⟨"VotedFile", "sendRequests", "(LVotedFile$Client;LVotedFile$Act;)I"⟩, 9), (⟨"VotedFile", "sendRequest", "(LVotedFile$Client;LVotedFile$Act;I)V"⟩, 9), (⟨"VotedFile", "canPass", "(LVotedFile$Message;)Z"⟩, 9), (⟨"VotedFile", "copyAt", "(I)LVotedFile$Copy;"⟩, 9), (⟨"VotedFile", "hear", "(LVotedFile$Message;)V"⟩, 9), (⟨"VotedFile", "hasQuorum", "(LVotedFile$Client;LVotedFile$Act;)Z"⟩, 9), (⟨"VotedFile", "tableAt", "(I)LVotedFile$Table;"⟩, 9), (⟨"VotedFile", "endPhase", "(LVotedFile$Client;LVotedFile$Act;)I"⟩, 9), (⟨"VotedFile", "serve", "(LVotedFile$Message;)V"⟩, 9), (⟨"VotedFile", "actAt", "(I)LVotedFile$Act;"⟩, 9), (⟨"VotedFileModel", "isCopy", "(I)Z"⟩, 45)]
theorem lw_r1 : ∀ q ∈ lw_privs_1, lw_okq q := List.forall_mem_cons.mpr ⟨lw_p0, List.forall_mem_cons.mpr ⟨lw_p1, List.forall_mem_cons.mpr ⟨lw_p2, List.forall_mem_cons.mpr ⟨lw_p3, List.forall_mem_cons.mpr ⟨lw_p4, List.forall_mem_cons.mpr ⟨lw_p5, List.forall_mem_cons.mpr ⟨lw_p6, List.forall_mem_cons.mpr ⟨lw_p7, List.forall_mem_cons.mpr ⟨lw_p8, List.forall_mem_cons.mpr ⟨lw_p9, List.forall_mem_cons.mpr ⟨lw_p10, List.forall_mem_cons.mpr ⟨lw_p11, List.forall_mem_cons.mpr ⟨lw_p12, List.forall_mem_cons.mpr ⟨lw_p13, List.forall_mem_cons.mpr ⟨lw_p14, List.forall_mem_cons.mpr ⟨lw_p15, fun _ h => absurd h List.not_mem_nil⟩⟩⟩⟩⟩⟩⟩⟩⟩⟩⟩⟩⟩⟩⟩⟩
theorem lw_p16 : lw_okq (⟨"VotedFileModel", "beginAct", "(IIJI)I"⟩, 45) := ⟨⟨by decide +kernel, by decide +kernel⟩, List.mem_of_getElem? (i := 509) (by decide +kernel), List.mem_of_getElem? (i := 665) (by decide +kernel), List.mem_of_getElem? (i := 666) (by decide +kernel)⟩
theorem lw_p17 : lw_okq (⟨"VotedFileModel", "beginPhase", "(II)V"⟩, 45) := ⟨⟨by decide +kernel, by decide +kernel⟩, List.mem_of_getElem? (i := 509) (by decide +kernel), List.mem_of_getElem? (i := 669) (by decide +kernel), List.mem_of_getElem? (i := 670) (by decide +kernel)⟩
theorem lw_p18 : lw_okq (⟨"VotedFileModel", "ask", "(II)V"⟩, 45) := ⟨⟨by decide +kernel, by decide +kernel⟩, List.mem_of_getElem? (i := 509) (by decide +kernel), List.mem_of_getElem? (i := 673) (by decide +kernel), List.mem_of_getElem? (i := 674) (by decide +kernel)⟩
theorem lw_p19 : lw_okq (⟨"VotedFileModel", "put", "(ZIIIIIIIJIII)V"⟩, 45) := ⟨⟨by decide +kernel, by decide +kernel⟩, List.mem_of_getElem? (i := 509) (by decide +kernel), List.mem_of_getElem? (i := 677) (by decide +kernel), List.mem_of_getElem? (i := 678) (by decide +kernel)⟩
theorem lw_p20 : lw_okq (⟨"VotedFileModel", "canBe", "(I)Z"⟩, 45) := ⟨⟨by decide +kernel, by decide +kernel⟩, List.mem_of_getElem? (i := 509) (by decide +kernel), List.mem_of_getElem? (i := 704) (by decide +kernel), List.mem_of_getElem? (i := 705) (by decide +kernel)⟩
theorem lw_p21 : lw_okq (⟨"VotedFileModel", "answer", "(I)V"⟩, 45) := ⟨⟨by decide +kernel, by decide +kernel⟩, List.mem_of_getElem? (i := 509) (by decide +kernel), List.mem_of_getElem? (i := 708) (by decide +kernel), List.mem_of_getElem? (i := 709) (by decide +kernel)⟩
theorem lw_p22 : lw_okq (⟨"VotedFileModel", "take", "(I)V"⟩, 45) := ⟨⟨by decide +kernel, by decide +kernel⟩, List.mem_of_getElem? (i := 509) (by decide +kernel), List.mem_of_getElem? (i := 712) (by decide +kernel), List.mem_of_getElem? (i := 713) (by decide +kernel)⟩
theorem lw_p23 : lw_okq (⟨"VotedFileModel", "isOver", "(I)Z"⟩, 45) := ⟨⟨by decide +kernel, by decide +kernel⟩, List.mem_of_getElem? (i := 509) (by decide +kernel), List.mem_of_getElem? (i := 719) (by decide +kernel), List.mem_of_getElem? (i := 720) (by decide +kernel)⟩
theorem lw_p24 : lw_okq (⟨"VotedFileModel", "areQuorums", "(IIII)Z"⟩, 45) := ⟨⟨by decide +kernel, by decide +kernel⟩, List.mem_of_getElem? (i := 509) (by decide +kernel), List.mem_of_getElem? (i := 723) (by decide +kernel), List.mem_of_getElem? (i := 724) (by decide +kernel)⟩
theorem lw_p25 : lw_okq (⟨"VotedFileModel", "isQuorum", "(III)Z"⟩, 45) := ⟨⟨by decide +kernel, by decide +kernel⟩, List.mem_of_getElem? (i := 509) (by decide +kernel), List.mem_of_getElem? (i := 727) (by decide +kernel), List.mem_of_getElem? (i := 728) (by decide +kernel)⟩
theorem lw_p26 : lw_okq (⟨"VotedFileModel", "goOn", "(I)V"⟩, 45) := ⟨⟨by decide +kernel, by decide +kernel⟩, List.mem_of_getElem? (i := 509) (by decide +kernel), List.mem_of_getElem? (i := 731) (by decide +kernel), List.mem_of_getElem? (i := 732) (by decide +kernel)⟩
theorem lw_p27 : lw_okq (⟨"VotedFileModel", "finish", "(I)V"⟩, 45) := ⟨⟨by decide +kernel, by decide +kernel⟩, List.mem_of_getElem? (i := 509) (by decide +kernel), List.mem_of_getElem? (i := 735) (by decide +kernel), List.mem_of_getElem? (i := 736) (by decide +kernel)⟩
theorem lw_p28 : lw_okq (⟨"VotedFileModel", "end", "(I)V"⟩, 45) := ⟨⟨by decide +kernel, by decide +kernel⟩, List.mem_of_getElem? (i := 509) (by decide +kernel), List.mem_of_getElem? (i := 739) (by decide +kernel), List.mem_of_getElem? (i := 740) (by decide +kernel)⟩
theorem lw_p29 : lw_okq (⟨"VotedFileModel", "request", "(I)V"⟩, 45) := ⟨⟨by decide +kernel, by decide +kernel⟩, List.mem_of_getElem? (i := 509) (by decide +kernel), List.mem_of_getElem? (i := 743) (by decide +kernel), List.mem_of_getElem? (i := 744) (by decide +kernel)⟩
theorem lw_p30 : lw_okq (⟨"VotedFileModel", "isAct", "(I)Z"⟩, 45) := ⟨⟨by decide +kernel, by decide +kernel⟩, List.mem_of_getElem? (i := 509) (by decide +kernel), List.mem_of_getElem? (i := 792) (by decide +kernel), List.mem_of_getElem? (i := 793) (by decide +kernel)⟩
def lw_privs_2 : List (MethodName × Nat) := [(⟨"VotedFileModel", "beginAct", "(IIJI)I"⟩, 45), (⟨"VotedFileModel", "beginPhase", "(II)V"⟩, 45), (⟨"VotedFileModel", "ask", "(II)V"⟩, 45), (⟨"VotedFileModel", "put", "(ZIIIIIIIJIII)V"⟩, 45), (⟨"VotedFileModel", "canBe", "(I)Z"⟩, 45), (⟨"VotedFileModel", "answer", "(I)V"⟩, 45), (⟨"VotedFileModel", "take", "(I)V"⟩, 45), (⟨"VotedFileModel", "isOver", "(I)Z"⟩, 45), (⟨"VotedFileModel", "areQuorums", "(IIII)Z"⟩, 45), (⟨"VotedFileModel", "isQuorum", "(III)Z"⟩, 45), (⟨"VotedFileModel", "goOn", "(I)V"⟩, 45), (⟨"VotedFileModel", "finish", "(I)V"⟩, 45), (⟨"VotedFileModel", "end", "(I)V"⟩, 45), (⟨"VotedFileModel", "request", "(I)V"⟩, 45), (⟨"VotedFileModel", "isAct", "(I)Z"⟩, 45)]
theorem lw_r2 : ∀ q ∈ lw_privs_2, lw_okq q := List.forall_mem_cons.mpr ⟨lw_p16, List.forall_mem_cons.mpr ⟨lw_p17, List.forall_mem_cons.mpr ⟨lw_p18, List.forall_mem_cons.mpr ⟨lw_p19, List.forall_mem_cons.mpr ⟨lw_p20, List.forall_mem_cons.mpr ⟨lw_p21, List.forall_mem_cons.mpr ⟨lw_p22, List.forall_mem_cons.mpr ⟨lw_p23, List.forall_mem_cons.mpr ⟨lw_p24, List.forall_mem_cons.mpr ⟨lw_p25, List.forall_mem_cons.mpr ⟨lw_p26, List.forall_mem_cons.mpr ⟨lw_p27, List.forall_mem_cons.mpr ⟨lw_p28, List.forall_mem_cons.mpr ⟨lw_p29, List.forall_mem_cons.mpr ⟨lw_p30, fun _ h => absurd h List.not_mem_nil⟩⟩⟩⟩⟩⟩⟩⟩⟩⟩⟩⟩⟩⟩⟩
def lw_privs : List (MethodName × Nat) := lw_privs_1 ++ (lw_privs_2)
def lw_tbl : List Cond := k2_sels lw_privs ++ tables_1
theorem lw_privs_ok : ∀ q ∈ lw_privs, lw_okq q := by
  show ∀ q ∈ lw_privs_1 ++ (lw_privs_2), lw_okq q
  exact List.forall_mem_append.mpr ⟨lw_r1, lw_r2⟩

/-- the tables' words that a callee may take from its caller -/
def zU : List Cond := lw_tbl.filter goodWord
theorem zU_good {y : Cond} (hy : y ∈ zU) {x : Cond} : GoodIn (x :: zU) (y :: zU) := by
  intro w hw
  have h : w ∈ zU := by
    rcases List.mem_cons.mp hw with rfl | h
    · exact hy
    · exact h
  exact ⟨List.mem_cons_of_mem _ h, good_of_word (List.mem_filter.mp h).2⟩
theorem zU_in {w : Cond} (i : Nat) (h : tables_1[i]? = some w) (hg : goodWord w = true) : w ∈ zU := List.mem_filter.mpr ⟨List.mem_append_right _ (List.mem_of_getElem? h), hg⟩
theorem zU_sel {w : Cond} (i : Nat) (h : (k2_sels lw_privs)[i]? = some w) (hg : goodWord w = true) : w ∈ zU := List.mem_filter.mpr ⟨List.mem_append_left _ (List.mem_of_getElem? h), hg⟩
theorem zU_low {s : State} {args : Array Value} {x : Cond} (h : ∀ w ∈ x :: zU, w.before args s = true) : ∀ w ∈ zU, w.before args s = true := fun w hw => h w (List.mem_cons_of_mem _ hw)
end
section
def RX0 : String := "VotedFile$Act"
def TX0 : u_T := fun k => match k with
  | 0 => ("VotedFile$Act", "number", "I", true)
  | 1 => ("VotedFile$Act", "kind", "I", true)
  | 2 => ("VotedFile$Act", "clientNumber", "I", true)
  | 3 => ("VotedFile$Act", "began", "I", false)
  | 4 => ("VotedFile$Act", "ended", "I", false)
  | 5 => ("VotedFile$Act", "often", "I", false)
  | 6 => ("VotedFile$Act", "writer", "I", false)
  | 7 => ("VotedFile$Act", "target", "I", false)
  | _ => ("VotedFile$Act", "result", "J", false)
def tyX0 : Nat → FieldType := fun k => match k with
  | 0 => .int
  | 1 => .int
  | 2 => .int
  | 3 => .int
  | 4 => .int
  | 5 => .int
  | 6 => .int
  | 7 => .int
  | _ => .long
abbrev wsX00 : List Cond := u_ws RX0 TX0 9
theorem nmX0 : ∀ a, a < 9 → ∀ b, b < 9 → a ≠ b → (TX0 a).2.1 ≠ (TX0 b).2.1 := by decide +kernel
theorem tyX0_ok : ∀ k, k < 9 → parseFieldDescriptor (TX0 k).2.2.1 = some (tyX0 k) := by decide +kernel
abbrev cX0_init : ByteArray := prog_2_method_1_code
def yX0_init : MethodName := ⟨RX0, "<init>", "(III)V"⟩
abbrev cX0_showTag : ByteArray := prog_2_method_2_code
def yX0_showTag : MethodName := ⟨RX0, "showTag", "(LVotedFile$Version;)V"⟩
def RX1 : String := "VotedFile$Air"
def TX1 : u_T := fun k => match k with
  | 0 => ("VotedFile$Air", "rows", "[LVotedFile$Message;", true)
  | 1 => ("VotedFile$Air", "taken", "LVotedFile$Message;", false)
  | 2 => ("VotedFile$Air", "count", "I", false)
  | _ => ("VotedFile$Air", "lost", "I", false)
def tyX1 : Nat → FieldType := fun k => match k with
  | 0 => .array (.object "VotedFile$Message")
  | 1 => .object "VotedFile$Message"
  | 2 => .int
  | _ => .int
abbrev wsX10 : List Cond := u_ws RX1 TX1 4
theorem nmX1 : ∀ a, a < 4 → ∀ b, b < 4 → a ≠ b → (TX1 a).2.1 ≠ (TX1 b).2.1 := by decide +kernel
theorem tyX1_ok : ∀ k, k < 4 → parseFieldDescriptor (TX1 k).2.2.1 = some (tyX1 k) := by decide +kernel
abbrev cX1_init : ByteArray := prog_3_method_1_code
def yX1_init : MethodName := ⟨RX1, "<init>", "()V"⟩
abbrev cX1_at : ByteArray := prog_3_method_2_code
def yX1_at : MethodName := ⟨RX1, "at", "(I)LVotedFile$Message;"⟩
abbrev cX1_next : ByteArray := prog_3_method_3_code
def yX1_next : MethodName := ⟨RX1, "next", "()LVotedFile$Message;"⟩
abbrev cX1_take : ByteArray := prog_3_method_4_code
def yX1_take : MethodName := ⟨RX1, "take", "(I)Z"⟩
def RX2 : String := "VotedFile$Client"
def TX2 : u_T := fun k => match k with
  | 0 => ("VotedFile$Client", "number", "I", true)
  | 1 => ("VotedFile$Client", "version", "LVotedFile$Version;", true)
  | 2 => ("VotedFile$Client", "doing", "LVotedFile$Act;", false)
  | 3 => ("VotedFile$Client", "phase", "I", false)
  | 4 => ("VotedFile$Client", "round", "I", false)
  | 5 => ("VotedFile$Client", "answered", "I", false)
  | 6 => ("VotedFile$Client", "base", "I", false)
  | 7 => ("VotedFile$Client", "last", "I", false)
  | _ => ("VotedFile$Client", "place", "I", false)
def tyX2 : Nat → FieldType := fun k => match k with
  | 0 => .int
  | 1 => .object "VotedFile$Version"
  | 2 => .object "VotedFile$Act"
  | 3 => .int
  | 4 => .int
  | 5 => .int
  | 6 => .int
  | 7 => .int
  | _ => .int
abbrev wsX20 : List Cond := u_ws RX2 TX2 9
theorem nmX2 : ∀ a, a < 9 → ∀ b, b < 9 → a ≠ b → (TX2 a).2.1 ≠ (TX2 b).2.1 := by decide +kernel
theorem tyX2_ok : ∀ k, k < 9 → parseFieldDescriptor (TX2 k).2.2.1 = some (tyX2 k) := by decide +kernel
abbrev cX2_init : ByteArray := prog_4_method_1_code
def yX2_init : MethodName := ⟨RX2, "<init>", "(I)V"⟩
abbrev cX2_hasAnswerOf : ByteArray := prog_4_method_2_code
def yX2_hasAnswerOf : MethodName := ⟨RX2, "hasAnswerOf", "(I)Z"⟩
abbrev cX2_counts : ByteArray := prog_4_method_3_code
def yX2_counts : MethodName := ⟨RX2, "counts", "(LVotedFile$Message;LVotedFile$Act;)Z"⟩
abbrev cX2_learn : ByteArray := prog_4_method_4_code
def yX2_learn : MethodName := ⟨RX2, "learn", "(LVotedFile$Message;)V"⟩
abbrev cX2_rest : ByteArray := prog_4_method_5_code
def yX2_rest : MethodName := ⟨RX2, "rest", "()V"⟩
def RX3 : String := "VotedFile$Copy"
def TX3 : u_T := fun k => match k with
  | 0 => ("VotedFile$Copy", "version", "LVotedFile$Version;", true)
  | 1 => ("VotedFile$Copy", "base", "I", false)
  | 2 => ("VotedFile$Copy", "last", "I", false)
  | 3 => ("VotedFile$Copy", "isSilent", "Z", false)
  | _ => ("VotedFile$Copy", "place", "I", false)
def tyX3 : Nat → FieldType := fun k => match k with
  | 0 => .object "VotedFile$Version"
  | 1 => .int
  | 2 => .int
  | 3 => .boolean
  | _ => .int
abbrev wsX30 : List Cond := u_ws RX3 TX3 5
theorem nmX3 : ∀ a, a < 5 → ∀ b, b < 5 → a ≠ b → (TX3 a).2.1 ≠ (TX3 b).2.1 := by decide +kernel
theorem tyX3_ok : ∀ k, k < 5 → parseFieldDescriptor (TX3 k).2.2.1 = some (tyX3 k) := by decide +kernel
abbrev cX3_init : ByteArray := prog_5_method_1_code
def yX3_init : MethodName := ⟨RX3, "<init>", "()V"⟩
abbrev cX3_obey : ByteArray := prog_5_method_2_code
def yX3_obey : MethodName := ⟨RX3, "obey", "(LVotedFile$Message;)V"⟩
def RX4 : String := "VotedFile$Message"
def TX4 : u_T := fun k => match k with
  | 0 => ("VotedFile$Message", "version", "LVotedFile$Version;", true)
  | 1 => ("VotedFile$Message", "isAnswer", "Z", false)
  | 2 => ("VotedFile$Message", "copyNumber", "I", false)
  | 3 => ("VotedFile$Message", "clientNumber", "I", false)
  | 4 => ("VotedFile$Message", "actNumber", "I", false)
  | 5 => ("VotedFile$Message", "phase", "I", false)
  | 6 => ("VotedFile$Message", "round", "I", false)
  | 7 => ("VotedFile$Message", "base", "I", false)
  | _ => ("VotedFile$Message", "last", "I", false)
def tyX4 : Nat → FieldType := fun k => match k with
  | 0 => .object "VotedFile$Version"
  | 1 => .boolean
  | 2 => .int
  | 3 => .int
  | 4 => .int
  | 5 => .int
  | 6 => .int
  | 7 => .int
  | _ => .int
abbrev wsX40 : List Cond := u_ws RX4 TX4 9
theorem nmX4 : ∀ a, a < 9 → ∀ b, b < 9 → a ≠ b → (TX4 a).2.1 ≠ (TX4 b).2.1 := by decide +kernel
theorem tyX4_ok : ∀ k, k < 9 → parseFieldDescriptor (TX4 k).2.2.1 = some (tyX4 k) := by decide +kernel
abbrev cX4_init : ByteArray := prog_6_method_1_code
def yX4_init : MethodName := ⟨RX4, "<init>", "()V"⟩
abbrev cX4_repeat : ByteArray := prog_6_method_2_code
def yX4_repeat : MethodName := ⟨RX4, "repeat", "(LVotedFile$Message;)V"⟩
def RX5 : String := "VotedFile$Table"
def TX5 : u_T := fun k => match k with
  | 0 => ("VotedFile$Table", "shares", "[I", true)
  | 1 => ("VotedFile$Table", "\x72", "I", true)
  | _ => ("VotedFile$Table", "w", "I", true)
def tyX5 : Nat → FieldType := fun k => match k with
  | 0 => .array .int
  | 1 => .int
  | _ => .int
abbrev wsX50 : List Cond := u_ws RX5 TX5 3
theorem nmX5 : ∀ a, a < 3 → ∀ b, b < 3 → a ≠ b → (TX5 a).2.1 ≠ (TX5 b).2.1 := by decide +kernel
theorem tyX5_ok : ∀ k, k < 3 → parseFieldDescriptor (TX5 k).2.2.1 = some (tyX5 k) := by decide +kernel
abbrev cX5_init : ByteArray := prog_7_method_1_code
def yX5_init : MethodName := ⟨RX5, "<init>", "([III)V"⟩
abbrev cX5_canBe : ByteArray := prog_7_method_2_code
def yX5_canBe : MethodName := ⟨RX5, "canBe", "([III)Z"⟩
abbrev cX5_sum : ByteArray := prog_7_method_3_code
def yX5_sum : MethodName := ⟨RX5, "sum", "([II)I"⟩
def RX6 : String := "VotedFile$Version"
def TX6 : u_T := fun k => match k with
  | 0 => ("VotedFile$Version", "often", "I", false)
  | 1 => ("VotedFile$Version", "writer", "I", false)
  | _ => ("VotedFile$Version", "content", "J", false)
def tyX6 : Nat → FieldType := fun k => match k with
  | 0 => .int
  | 1 => .int
  | _ => .long
abbrev wsX60 : List Cond := u_ws RX6 TX6 3
theorem nmX6 : ∀ a, a < 3 → ∀ b, b < 3 → a ≠ b → (TX6 a).2.1 ≠ (TX6 b).2.1 := by decide +kernel
theorem tyX6_ok : ∀ k, k < 3 → parseFieldDescriptor (TX6 k).2.2.1 = some (tyX6 k) := by decide +kernel
abbrev cX6_init : ByteArray := prog_8_method_1_code
def yX6_init : MethodName := ⟨RX6, "<init>", "()V"⟩
abbrev cX6_isAbove : ByteArray := prog_8_method_2_code
def yX6_isAbove : MethodName := ⟨RX6, "isAbove", "(LVotedFile$Version;)Z"⟩
abbrev cX6_put : ByteArray := prog_8_method_3_code
def yX6_put : MethodName := ⟨RX6, "put", "(IIJ)V"⟩
abbrev cX6_set : ByteArray := prog_8_method_4_code
def yX6_set : MethodName := ⟨RX6, "set", "(LVotedFile$Version;)V"⟩
def RX7 : String := "VotedFile"
def TX7 : u_T := fun k => match k with
  | 0 => ("VotedFile", "copies", "[LVotedFile$Copy;", true)
  | 1 => ("VotedFile", "clients", "[LVotedFile$Client;", true)
  | 2 => ("VotedFile", "tables", "[LVotedFile$Table;", true)
  | 3 => ("VotedFile", "acts", "[LVotedFile$Act;", true)
  | 4 => ("VotedFile", "air", "LVotedFile$Air;", true)
  | 5 => ("VotedFile", "votesOfNext", "[I", true)
  | 6 => ("VotedFile", "tableCount", "I", false)
  | 7 => ("VotedFile", "actCount", "I", false)
  | _ => ("VotedFile", "clock", "I", false)
def tyX7 : Nat → FieldType := fun k => match k with
  | 0 => .array (.object "VotedFile$Copy")
  | 1 => .array (.object "VotedFile$Client")
  | 2 => .array (.object "VotedFile$Table")
  | 3 => .array (.object "VotedFile$Act")
  | 4 => .object "VotedFile$Air"
  | 5 => .array .int
  | 6 => .int
  | 7 => .int
  | _ => .int
abbrev wsX70 : List Cond := u_ws RX7 TX7 9
theorem nmX7 : ∀ a, a < 9 → ∀ b, b < 9 → a ≠ b → (TX7 a).2.1 ≠ (TX7 b).2.1 := by decide +kernel
theorem tyX7_ok : ∀ k, k < 9 → parseFieldDescriptor (TX7 k).2.2.1 = some (tyX7 k) := by decide +kernel
abbrev cX7_init : ByteArray := prog_1_method_1_code
def yX7_init : MethodName := ⟨RX7, "<init>", "(I)V"⟩
abbrev cX7_votes : ByteArray := prog_1_method_2_code
def yX7_votes : MethodName := ⟨RX7, "votes", "(II)Z"⟩
abbrev cX7_change : ByteArray := prog_1_method_3_code
def yX7_change : MethodName := ⟨RX7, "change", "(II)I"⟩
abbrev cX7_resume : ByteArray := prog_1_method_4_code
def yX7_resume : MethodName := ⟨RX7, "resume", "()I"⟩
abbrev cX7_read : ByteArray := prog_1_method_5_code
def yX7_read : MethodName := ⟨RX7, "read", "(I)I"⟩
abbrev cX7_write : ByteArray := prog_1_method_6_code
def yX7_write : MethodName := ⟨RX7, "write", "(IJ)I"⟩
abbrev cX7_again : ByteArray := prog_1_method_7_code
def yX7_again : MethodName := ⟨RX7, "again", "(I)I"⟩
abbrev cX7_halt : ByteArray := prog_1_method_8_code
def yX7_halt : MethodName := ⟨RX7, "halt", "(I)I"⟩
abbrev cX7_deliver : ByteArray := prog_1_method_9_code
def yX7_deliver : MethodName := ⟨RX7, "deliver", "(I)Z"⟩
abbrev cX7_settle : ByteArray := prog_1_method_10_code
def yX7_settle : MethodName := ⟨RX7, "settle", "(I)I"⟩
abbrev cX7_lose : ByteArray := prog_1_method_11_code
def yX7_lose : MethodName := ⟨RX7, "lose", "(I)Z"⟩
abbrev cX7_twice : ByteArray := prog_1_method_12_code
def yX7_twice : MethodName := ⟨RX7, "twice", "(I)Z"⟩
abbrev cX7_silent : ByteArray := prog_1_method_13_code
def yX7_silent : MethodName := ⟨RX7, "silent", "(IZ)Z"⟩
abbrev cX7_side : ByteArray := prog_1_method_14_code
def yX7_side : MethodName := ⟨RX7, "side", "(II)Z"⟩
abbrev cX7_copy : ByteArray := prog_1_method_15_code
def yX7_copy : MethodName := ⟨RX7, "copy", "(II)I"⟩
abbrev cX7_kept : ByteArray := prog_1_method_16_code
def yX7_kept : MethodName := ⟨RX7, "kept", "(I)J"⟩
abbrev cX7_client : ByteArray := prog_1_method_17_code
def yX7_client : MethodName := ⟨RX7, "client", "(II)I"⟩
abbrev cX7_air : ByteArray := prog_1_method_18_code
def yX7_air : MethodName := ⟨RX7, "air", "(II)I"⟩
abbrev cX7_act : ByteArray := prog_1_method_19_code
def yX7_act : MethodName := ⟨RX7, "act", "(II)I"⟩
abbrev cX7_value : ByteArray := prog_1_method_20_code
def yX7_value : MethodName := ⟨RX7, "value", "(I)J"⟩
abbrev cX7_table : ByteArray := prog_1_method_21_code
def yX7_table : MethodName := ⟨RX7, "table", "(II)I"⟩
abbrev cX7_about : ByteArray := prog_1_method_22_code
def yX7_about : MethodName := ⟨RX7, "about", "(I)I"⟩
abbrev cX7_copyAt : ByteArray := prog_1_method_23_code
def yX7_copyAt : MethodName := ⟨RX7, "copyAt", "(I)LVotedFile$Copy;"⟩
abbrev cX7_clientAt : ByteArray := prog_1_method_24_code
def yX7_clientAt : MethodName := ⟨RX7, "clientAt", "(I)LVotedFile$Client;"⟩
abbrev cX7_tableAt : ByteArray := prog_1_method_25_code
def yX7_tableAt : MethodName := ⟨RX7, "tableAt", "(I)LVotedFile$Table;"⟩
abbrev cX7_actAt : ByteArray := prog_1_method_26_code
def yX7_actAt : MethodName := ⟨RX7, "actAt", "(I)LVotedFile$Act;"⟩
abbrev cX7_canBegin : ByteArray := prog_1_method_27_code
def yX7_canBegin : MethodName := ⟨RX7, "canBegin", "(LVotedFile$Client;)Z"⟩
abbrev cX7_beginChange : ByteArray := prog_1_method_28_code
def yX7_beginChange : MethodName := ⟨RX7, "beginChange", "(LVotedFile$Client;I)I"⟩
abbrev cX7_beginAct : ByteArray := prog_1_method_29_code
def yX7_beginAct : MethodName := ⟨RX7, "beginAct", "(LVotedFile$Client;LVotedFile$Act;I)I"⟩
abbrev cX7_beginPhase : ByteArray := prog_1_method_30_code
def yX7_beginPhase : MethodName := ⟨RX7, "beginPhase", "(LVotedFile$Client;LVotedFile$Act;I)V"⟩
abbrev cX7_sendRequests : ByteArray := prog_1_method_31_code
def yX7_sendRequests : MethodName := ⟨RX7, "sendRequests", "(LVotedFile$Client;LVotedFile$Act;)I"⟩
abbrev cX7_sendRequest : ByteArray := prog_1_method_32_code
def yX7_sendRequest : MethodName := ⟨RX7, "sendRequest", "(LVotedFile$Client;LVotedFile$Act;I)V"⟩
abbrev cX7_canPass : ByteArray := prog_1_method_33_code
def yX7_canPass : MethodName := ⟨RX7, "canPass", "(LVotedFile$Message;)Z"⟩
abbrev cX7_serve : ByteArray := prog_1_method_34_code
def yX7_serve : MethodName := ⟨RX7, "serve", "(LVotedFile$Message;)V"⟩
abbrev cX7_hear : ByteArray := prog_1_method_35_code
def yX7_hear : MethodName := ⟨RX7, "hear", "(LVotedFile$Message;)V"⟩
abbrev cX7_hasQuorum : ByteArray := prog_1_method_36_code
def yX7_hasQuorum : MethodName := ⟨RX7, "hasQuorum", "(LVotedFile$Client;LVotedFile$Act;)Z"⟩
abbrev cX7_endPhase : ByteArray := prog_1_method_37_code
def yX7_endPhase : MethodName := ⟨RX7, "endPhase", "(LVotedFile$Client;LVotedFile$Act;)I"⟩
def RX8 : String := "VotedFileModel"
def TX8 : u_T := fun k => match k with
  | 0 => ("VotedFileModel", "copies", "I", true)
  | 1 => ("VotedFileModel", "value", "[J", true)
  | 2 => ("VotedFileModel", "often", "[I", true)
  | 3 => ("VotedFileModel", "by", "[I", true)
  | 4 => ("VotedFileModel", "base", "[I", true)
  | 5 => ("VotedFileModel", "last", "[I", true)
  | 6 => ("VotedFileModel", "side", "[I", true)
  | 7 => ("VotedFileModel", "silent", "[Z", true)
  | 8 => ("VotedFileModel", "table", "[I", true)
  | 9 => ("VotedFileModel", "next", "[I", true)
  | 10 => ("VotedFileModel", "tables", "I", false)
  | 11 => ("VotedFileModel", "doing", "[I", true)
  | 12 => ("VotedFileModel", "phase", "[I", true)
  | 13 => ("VotedFileModel", "round", "[I", true)
  | 14 => ("VotedFileModel", "clientBase", "[I", true)
  | 15 => ("VotedFileModel", "clientLast", "[I", true)
  | 16 => ("VotedFileModel", "clientSide", "[I", true)
  | 17 => ("VotedFileModel", "answered", "[I", true)
  | 18 => ("VotedFileModel", "bestOften", "[I", true)
  | 19 => ("VotedFileModel", "bestBy", "[I", true)
  | 20 => ("VotedFileModel", "best", "[J", true)
  | 21 => ("VotedFileModel", "kind", "[I", true)
  | 22 => ("VotedFileModel", "whose", "[I", true)
  | 23 => ("VotedFileModel", "began", "[I", true)
  | 24 => ("VotedFileModel", "done", "[I", true)
  | 25 => ("VotedFileModel", "tagOften", "[I", true)
  | 26 => ("VotedFileModel", "tagBy", "[I", true)
  | 27 => ("VotedFileModel", "tableOf", "[I", true)
  | 28 => ("VotedFileModel", "told", "[J", true)
  | 29 => ("VotedFileModel", "acts", "I", false)
  | 30 => ("VotedFileModel", "clock", "I", false)
  | 31 => ("VotedFileModel", "lost", "I", false)
  | 32 => ("VotedFileModel", "isAnswer", "[Z", true)
  | 33 => ("VotedFileModel", "airCopy", "[I", true)
  | 34 => ("VotedFileModel", "airClient", "[I", true)
  | 35 => ("VotedFileModel", "airAct", "[I", true)
  | 36 => ("VotedFileModel", "airPhase", "[I", true)
  | 37 => ("VotedFileModel", "airRound", "[I", true)
  | 38 => ("VotedFileModel", "airOften", "[I", true)
  | 39 => ("VotedFileModel", "airBy", "[I", true)
  | 40 => ("VotedFileModel", "airTable", "[I", true)
  | 41 => ("VotedFileModel", "airBase", "[I", true)
  | 42 => ("VotedFileModel", "airLast", "[I", true)
  | 43 => ("VotedFileModel", "airValue", "[J", true)
  | _ => ("VotedFileModel", "air", "I", false)
def tyX8 : Nat → FieldType := fun k => match k with
  | 0 => .int
  | 1 => .array .long
  | 2 => .array .int
  | 3 => .array .int
  | 4 => .array .int
  | 5 => .array .int
  | 6 => .array .int
  | 7 => .array .boolean
  | 8 => .array .int
  | 9 => .array .int
  | 10 => .int
  | 11 => .array .int
  | 12 => .array .int
  | 13 => .array .int
  | 14 => .array .int
  | 15 => .array .int
  | 16 => .array .int
  | 17 => .array .int
  | 18 => .array .int
  | 19 => .array .int
  | 20 => .array .long
  | 21 => .array .int
  | 22 => .array .int
  | 23 => .array .int
  | 24 => .array .int
  | 25 => .array .int
  | 26 => .array .int
  | 27 => .array .int
  | 28 => .array .long
  | 29 => .int
  | 30 => .int
  | 31 => .int
  | 32 => .array .boolean
  | 33 => .array .int
  | 34 => .array .int
  | 35 => .array .int
  | 36 => .array .int
  | 37 => .array .int
  | 38 => .array .int
  | 39 => .array .int
  | 40 => .array .int
  | 41 => .array .int
  | 42 => .array .int
  | 43 => .array .long
  | _ => .int
abbrev wsX80 : List Cond := u_ws RX8 TX8 45
theorem nmX8 : ∀ a, a < 45 → ∀ b, b < 45 → a ≠ b → (TX8 a).2.1 ≠ (TX8 b).2.1 := by decide +kernel
theorem tyX8_ok : ∀ k, k < 45 → parseFieldDescriptor (TX8 k).2.2.1 = some (tyX8 k) := by decide +kernel
abbrev cX8_init : ByteArray := prog_10_method_1_code
def yX8_init : MethodName := ⟨RX8, "<init>", "(I)V"⟩
abbrev cX8_isCopy : ByteArray := prog_10_method_2_code
def yX8_isCopy : MethodName := ⟨RX8, "isCopy", "(I)Z"⟩
abbrev cX8_isClient : ByteArray := prog_10_method_3_code
def yX8_isClient : MethodName := ⟨RX8, "isClient", "(I)Z"⟩
abbrev cX8_votes : ByteArray := prog_10_method_4_code
def yX8_votes : MethodName := ⟨RX8, "votes", "(II)Z"⟩
abbrev cX8_put : ByteArray := prog_10_method_5_code
def yX8_put : MethodName := ⟨RX8, "put", "(ZIIIIIIIJIII)V"⟩
abbrev cX8_take : ByteArray := prog_10_method_6_code
def yX8_take : MethodName := ⟨RX8, "take", "(I)V"⟩
abbrev cX8_ask : ByteArray := prog_10_method_7_code
def yX8_ask : MethodName := ⟨RX8, "ask", "(II)V"⟩
abbrev cX8_beginPhase : ByteArray := prog_10_method_8_code
def yX8_beginPhase : MethodName := ⟨RX8, "beginPhase", "(II)V"⟩
abbrev cX8_beginAct : ByteArray := prog_10_method_9_code
def yX8_beginAct : MethodName := ⟨RX8, "beginAct", "(IIJI)I"⟩
abbrev cX8_change : ByteArray := prog_10_method_10_code
def yX8_change : MethodName := ⟨RX8, "change", "(II)I"⟩
abbrev cX8_resume : ByteArray := prog_10_method_11_code
def yX8_resume : MethodName := ⟨RX8, "resume", "()I"⟩
abbrev cX8_read : ByteArray := prog_10_method_12_code
def yX8_read : MethodName := ⟨RX8, "read", "(I)I"⟩
abbrev cX8_write : ByteArray := prog_10_method_13_code
def yX8_write : MethodName := ⟨RX8, "write", "(IJ)I"⟩
abbrev cX8_again : ByteArray := prog_10_method_14_code
def yX8_again : MethodName := ⟨RX8, "again", "(I)I"⟩
abbrev cX8_isGreater : ByteArray := prog_10_method_15_code
def yX8_isGreater : MethodName := ⟨RX8, "isGreater", "(IIII)Z"⟩
abbrev cX8_isQuorum : ByteArray := prog_10_method_16_code
def yX8_isQuorum : MethodName := ⟨RX8, "isQuorum", "(III)Z"⟩
abbrev cX8_areQuorums : ByteArray := prog_10_method_17_code
def yX8_areQuorums : MethodName := ⟨RX8, "areQuorums", "(IIII)Z"⟩
abbrev cX8_isOver : ByteArray := prog_10_method_18_code
def yX8_isOver : MethodName := ⟨RX8, "isOver", "(I)Z"⟩
abbrev cX8_finish : ByteArray := prog_10_method_19_code
def yX8_finish : MethodName := ⟨RX8, "finish", "(I)V"⟩
abbrev cX8_end : ByteArray := prog_10_method_20_code
def yX8_end : MethodName := ⟨RX8, "end", "(I)V"⟩
abbrev cX8_goOn : ByteArray := prog_10_method_21_code
def yX8_goOn : MethodName := ⟨RX8, "goOn", "(I)V"⟩
abbrev cX8_answer : ByteArray := prog_10_method_22_code
def yX8_answer : MethodName := ⟨RX8, "answer", "(I)V"⟩
abbrev cX8_request : ByteArray := prog_10_method_23_code
def yX8_request : MethodName := ⟨RX8, "request", "(I)V"⟩
abbrev cX8_canBe : ByteArray := prog_10_method_24_code
def yX8_canBe : MethodName := ⟨RX8, "canBe", "(I)Z"⟩
abbrev cX8_deliver : ByteArray := prog_10_method_25_code
def yX8_deliver : MethodName := ⟨RX8, "deliver", "(I)Z"⟩
abbrev cX8_settle : ByteArray := prog_10_method_26_code
def yX8_settle : MethodName := ⟨RX8, "settle", "(I)I"⟩
abbrev cX8_lose : ByteArray := prog_10_method_27_code
def yX8_lose : MethodName := ⟨RX8, "lose", "(I)Z"⟩
abbrev cX8_twice : ByteArray := prog_10_method_28_code
def yX8_twice : MethodName := ⟨RX8, "twice", "(I)Z"⟩
abbrev cX8_silent : ByteArray := prog_10_method_29_code
def yX8_silent : MethodName := ⟨RX8, "silent", "(IZ)Z"⟩
abbrev cX8_side : ByteArray := prog_10_method_30_code
def yX8_side : MethodName := ⟨RX8, "side", "(II)Z"⟩
abbrev cX8_halt : ByteArray := prog_10_method_31_code
def yX8_halt : MethodName := ⟨RX8, "halt", "(I)I"⟩
abbrev cX8_copy : ByteArray := prog_10_method_32_code
def yX8_copy : MethodName := ⟨RX8, "copy", "(II)I"⟩
abbrev cX8_kept : ByteArray := prog_10_method_33_code
def yX8_kept : MethodName := ⟨RX8, "kept", "(I)J"⟩
abbrev cX8_client : ByteArray := prog_10_method_34_code
def yX8_client : MethodName := ⟨RX8, "client", "(II)I"⟩
abbrev cX8_air : ByteArray := prog_10_method_35_code
def yX8_air : MethodName := ⟨RX8, "air", "(II)I"⟩
abbrev cX8_isAct : ByteArray := prog_10_method_36_code
def yX8_isAct : MethodName := ⟨RX8, "isAct", "(I)Z"⟩
abbrev cX8_act : ByteArray := prog_10_method_37_code
def yX8_act : MethodName := ⟨RX8, "act", "(II)I"⟩
abbrev cX8_value : ByteArray := prog_10_method_38_code
def yX8_value : MethodName := ⟨RX8, "value", "(I)J"⟩
abbrev cX8_table : ByteArray := prog_10_method_39_code
def yX8_table : MethodName := ⟨RX8, "table", "(II)I"⟩
abbrev cX8_about : ByteArray := prog_10_method_40_code
def yX8_about : MethodName := ⟨RX8, "about", "(I)I"⟩
def RJx8e188 : String := "java/lang/Cloneable"
def RJ9 : String := "java/lang/Math"
abbrev cJ9_max_7cf53 : ByteArray := prog_12_method_65_code
def yJ9_max_7cf53 : MethodName := ⟨RJ9, "max", "(II)I"⟩
abbrev cJ9_min_7cf53 : ByteArray := prog_12_method_69_code
def yJ9_min_7cf53 : MethodName := ⟨RJ9, "min", "(II)I"⟩
def RL : String := "VotedFileLaw"
abbrev cL_cell : ByteArray := method_2_code
def yL_cell : MethodName := ⟨RL, "cell", "([II)I"⟩
abbrev cL_law : ByteArray := code
def yL_law : MethodName := ⟨RL, "law", "([I)Z"⟩
abbrev vwCl : List vw_C := [(RX0, TX0, 9), (RX1, TX1, 4), (RX2, TX2, 9), (RX3, TX3, 5), (RX4, TX4, 9), (RX5, TX5, 3), (RX6, TX6, 3), (RX7, TX7, 9), (RX8, TX8, 45)]
end
section
theorem dX0_init_0 : decode cX0_init 0 = .ok (.aload_n 0, 1) := by decide +kernel
theorem dX0_init_1 : decode cX0_init 1 = .ok (.invokespecial 3, 3) := by decide +kernel
theorem dX0_init_4 : decode cX0_init 4 = .ok (.aload_n 0, 1) := by decide +kernel
theorem dX0_init_5 : decode cX0_init 5 = .ok (.iconst (-1), 1) := by decide +kernel
theorem dX0_init_6 : decode cX0_init 6 = .ok (.putfield 9, 3) := by decide +kernel
theorem dX0_init_9 : decode cX0_init 9 = .ok (.aload_n 0, 1) := by decide +kernel
theorem dX0_init_10 : decode cX0_init 10 = .ok (.iconst (-1), 1) := by decide +kernel
theorem dX0_init_11 : decode cX0_init 11 = .ok (.putfield 15, 3) := by decide +kernel
theorem dX0_init_14 : decode cX0_init 14 = .ok (.aload_n 0, 1) := by decide +kernel
theorem dX0_init_15 : decode cX0_init 15 = .ok (.iconst (-1), 1) := by decide +kernel
theorem dX0_init_16 : decode cX0_init 16 = .ok (.putfield 18, 3) := by decide +kernel
theorem dX0_init_19 : decode cX0_init 19 = .ok (.aload_n 0, 1) := by decide +kernel
theorem dX0_init_20 : decode cX0_init 20 = .ok (.iconst (-1), 1) := by decide +kernel
theorem dX0_init_21 : decode cX0_init 21 = .ok (.putfield 21, 3) := by decide +kernel
theorem dX0_init_24 : decode cX0_init 24 = .ok (.aload_n 0, 1) := by decide +kernel
theorem dX0_init_25 : decode cX0_init 25 = .ok (.iload_n 1, 1) := by decide +kernel
theorem dX0_init_26 : decode cX0_init 26 = .ok (.putfield 24, 3) := by decide +kernel
theorem dX0_init_29 : decode cX0_init 29 = .ok (.aload_n 0, 1) := by decide +kernel
theorem dX0_init_30 : decode cX0_init 30 = .ok (.iload_n 2, 1) := by decide +kernel
theorem dX0_init_31 : decode cX0_init 31 = .ok (.putfield 27, 3) := by decide +kernel
theorem dX0_init_34 : decode cX0_init 34 = .ok (.aload_n 0, 1) := by decide +kernel
theorem dX0_init_35 : decode cX0_init 35 = .ok (.iload_n 3, 1) := by decide +kernel
theorem dX0_init_36 : decode cX0_init 36 = .ok (.putfield 30, 3) := by decide +kernel
theorem dX0_init_39 : decode cX0_init 39 = .ok (.return_, 1) := by decide +kernel
theorem dX0_showTag_0 : decode cX0_showTag 0 = .ok (.aload_n 0, 1) := by decide +kernel
theorem dX0_showTag_1 : decode cX0_showTag 1 = .ok (.aload_n 1, 1) := by decide +kernel
theorem dX0_showTag_2 : decode cX0_showTag 2 = .ok (.getfield 33, 3) := by decide +kernel
theorem dX0_showTag_5 : decode cX0_showTag 5 = .ok (.putfield 15, 3) := by decide +kernel
theorem dX0_showTag_8 : decode cX0_showTag 8 = .ok (.aload_n 0, 1) := by decide +kernel
theorem dX0_showTag_9 : decode cX0_showTag 9 = .ok (.aload_n 1, 1) := by decide +kernel
theorem dX0_showTag_10 : decode cX0_showTag 10 = .ok (.getfield 36, 3) := by decide +kernel
theorem dX0_showTag_13 : decode cX0_showTag 13 = .ok (.putfield 18, 3) := by decide +kernel
theorem dX0_showTag_16 : decode cX0_showTag 16 = .ok (.return_, 1) := by decide +kernel
theorem dX1_init_0 : decode cX1_init 0 = .ok (.aload_n 0, 1) := by decide +kernel
theorem dX1_init_1 : decode cX1_init 1 = .ok (.invokespecial 3, 3) := by decide +kernel
theorem dX1_init_4 : decode cX1_init 4 = .ok (.aload_n 0, 1) := by decide +kernel
theorem dX1_init_5 : decode cX1_init 5 = .ok (.sipush 300, 3) := by decide +kernel
theorem dX1_init_8 : decode cX1_init 8 = .ok (.anewarray 9, 3) := by decide +kernel
theorem dX1_init_11 : decode cX1_init 11 = .ok (.putfield 11, 3) := by decide +kernel
theorem dX1_init_14 : decode cX1_init 14 = .ok (.aload_n 0, 1) := by decide +kernel
theorem dX1_init_15 : decode cX1_init 15 = .ok (.new 9, 3) := by decide +kernel
theorem dX1_init_18 : decode cX1_init 18 = .ok (.dup, 1) := by decide +kernel
theorem dX1_init_19 : decode cX1_init 19 = .ok (.invokespecial 17, 3) := by decide +kernel
theorem dX1_init_22 : decode cX1_init 22 = .ok (.putfield 18, 3) := by decide +kernel
theorem dX1_init_25 : decode cX1_init 25 = .ok (.iconst 0, 1) := by decide +kernel
theorem dX1_init_26 : decode cX1_init 26 = .ok (.istore_n 1, 1) := by decide +kernel
theorem dX1_init_27 : decode cX1_init 27 = .ok (.iload_n 1, 1) := by decide +kernel
theorem dX1_init_28 : decode cX1_init 28 = .ok (.aload_n 0, 1) := by decide +kernel
theorem dX1_init_29 : decode cX1_init 29 = .ok (.getfield 11, 3) := by decide +kernel
theorem dX1_init_32 : decode cX1_init 32 = .ok (.arraylength, 1) := by decide +kernel
theorem dX1_init_33 : decode cX1_init 33 = .ok (.if_icmp .ge 22, 3) := by decide +kernel
theorem dX1_init_36 : decode cX1_init 36 = .ok (.aload_n 0, 1) := by decide +kernel
theorem dX1_init_37 : decode cX1_init 37 = .ok (.getfield 11, 3) := by decide +kernel
theorem dX1_init_40 : decode cX1_init 40 = .ok (.iload_n 1, 1) := by decide +kernel
theorem dX1_init_41 : decode cX1_init 41 = .ok (.new 9, 3) := by decide +kernel
theorem dX1_init_44 : decode cX1_init 44 = .ok (.dup, 1) := by decide +kernel
theorem dX1_init_45 : decode cX1_init 45 = .ok (.invokespecial 17, 3) := by decide +kernel
theorem dX1_init_48 : decode cX1_init 48 = .ok (.aastore, 1) := by decide +kernel
theorem dX1_init_49 : decode cX1_init 49 = .ok (.iinc 1 1, 3) := by decide +kernel
theorem dX1_init_52 : decode cX1_init 52 = .ok (.goto (-25), 3) := by decide +kernel
theorem dX1_init_55 : decode cX1_init 55 = .ok (.return_, 1) := by decide +kernel
theorem dX1_at_0 : decode cX1_at 0 = .ok (.iload_n 1, 1) := by decide +kernel
theorem dX1_at_1 : decode cX1_at 1 = .ok (.ifCond .lt 29, 3) := by decide +kernel
theorem dX1_at_4 : decode cX1_at 4 = .ok (.iload_n 1, 1) := by decide +kernel
theorem dX1_at_5 : decode cX1_at 5 = .ok (.aload_n 0, 1) := by decide +kernel
theorem dX1_at_6 : decode cX1_at 6 = .ok (.getfield 22, 3) := by decide +kernel
theorem dX1_at_9 : decode cX1_at 9 = .ok (.if_icmp .ge 21, 3) := by decide +kernel
theorem dX1_at_12 : decode cX1_at 12 = .ok (.iload_n 1, 1) := by decide +kernel
theorem dX1_at_13 : decode cX1_at 13 = .ok (.aload_n 0, 1) := by decide +kernel
theorem dX1_at_14 : decode cX1_at 14 = .ok (.getfield 11, 3) := by decide +kernel
theorem dX1_at_17 : decode cX1_at 17 = .ok (.arraylength, 1) := by decide +kernel
theorem dX1_at_18 : decode cX1_at 18 = .ok (.if_icmp .ge 12, 3) := by decide +kernel
theorem dX1_at_21 : decode cX1_at 21 = .ok (.aload_n 0, 1) := by decide +kernel
theorem dX1_at_22 : decode cX1_at 22 = .ok (.getfield 11, 3) := by decide +kernel
theorem dX1_at_25 : decode cX1_at 25 = .ok (.iload_n 1, 1) := by decide +kernel
theorem dX1_at_26 : decode cX1_at 26 = .ok (.aaload, 1) := by decide +kernel
theorem dX1_at_27 : decode cX1_at 27 = .ok (.goto 4, 3) := by decide +kernel
theorem dX1_at_30 : decode cX1_at 30 = .ok (.aconst_null, 1) := by decide +kernel
theorem dX1_at_31 : decode cX1_at 31 = .ok (.areturn, 1) := by decide +kernel
theorem dX1_next_0 : decode cX1_next 0 = .ok (.aload_n 0, 1) := by decide +kernel
theorem dX1_next_1 : decode cX1_next 1 = .ok (.getfield 22, 3) := by decide +kernel
theorem dX1_next_4 : decode cX1_next 4 = .ok (.aload_n 0, 1) := by decide +kernel
theorem dX1_next_5 : decode cX1_next 5 = .ok (.getfield 11, 3) := by decide +kernel
theorem dX1_next_8 : decode cX1_next 8 = .ok (.arraylength, 1) := by decide +kernel
theorem dX1_next_9 : decode cX1_next 9 = .ok (.if_icmp .lt 15, 3) := by decide +kernel
theorem dX1_next_12 : decode cX1_next 12 = .ok (.aload_n 0, 1) := by decide +kernel
theorem dX1_next_13 : decode cX1_next 13 = .ok (.dup, 1) := by decide +kernel
theorem dX1_next_14 : decode cX1_next 14 = .ok (.getfield 26, 3) := by decide +kernel
theorem dX1_next_17 : decode cX1_next 17 = .ok (.iconst 1, 1) := by decide +kernel
theorem dX1_next_18 : decode cX1_next 18 = .ok (.iadd, 1) := by decide +kernel
theorem dX1_next_19 : decode cX1_next 19 = .ok (.putfield 26, 3) := by decide +kernel
theorem dX1_next_22 : decode cX1_next 22 = .ok (.aconst_null, 1) := by decide +kernel
theorem dX1_next_23 : decode cX1_next 23 = .ok (.areturn, 1) := by decide +kernel
theorem dX1_next_24 : decode cX1_next 24 = .ok (.aload_n 0, 1) := by decide +kernel
theorem dX1_next_25 : decode cX1_next 25 = .ok (.getfield 11, 3) := by decide +kernel
theorem dX1_next_28 : decode cX1_next 28 = .ok (.aload_n 0, 1) := by decide +kernel
theorem dX1_next_29 : decode cX1_next 29 = .ok (.getfield 22, 3) := by decide +kernel
theorem dX1_next_32 : decode cX1_next 32 = .ok (.aaload, 1) := by decide +kernel
theorem dX1_next_33 : decode cX1_next 33 = .ok (.astore_n 1, 1) := by decide +kernel
theorem dX1_next_34 : decode cX1_next 34 = .ok (.aload_n 0, 1) := by decide +kernel
theorem dX1_next_35 : decode cX1_next 35 = .ok (.dup, 1) := by decide +kernel
theorem dX1_next_36 : decode cX1_next 36 = .ok (.getfield 22, 3) := by decide +kernel
theorem dX1_next_39 : decode cX1_next 39 = .ok (.iconst 1, 1) := by decide +kernel
theorem dX1_next_40 : decode cX1_next 40 = .ok (.iadd, 1) := by decide +kernel
theorem dX1_next_41 : decode cX1_next 41 = .ok (.putfield 22, 3) := by decide +kernel
theorem dX1_next_44 : decode cX1_next 44 = .ok (.aload_n 1, 1) := by decide +kernel
theorem dX1_next_45 : decode cX1_next 45 = .ok (.areturn, 1) := by decide +kernel
theorem dX1_take_0 : decode cX1_take 0 = .ok (.aload_n 0, 1) := by decide +kernel
theorem dX1_take_1 : decode cX1_take 1 = .ok (.iload_n 1, 1) := by decide +kernel
theorem dX1_take_2 : decode cX1_take 2 = .ok (.invokevirtual 29, 3) := by decide +kernel
theorem dX1_take_5 : decode cX1_take 5 = .ok (.astore_n 2, 1) := by decide +kernel
theorem dX1_take_6 : decode cX1_take 6 = .ok (.aload_n 2, 1) := by decide +kernel
theorem dX1_take_7 : decode cX1_take 7 = .ok (.ifnonnull 5, 3) := by decide +kernel
theorem dX1_take_10 : decode cX1_take 10 = .ok (.iconst 0, 1) := by decide +kernel
theorem dX1_take_11 : decode cX1_take 11 = .ok (.ireturn, 1) := by decide +kernel
theorem dX1_take_12 : decode cX1_take 12 = .ok (.iload_n 1, 1) := by decide +kernel
theorem dX1_take_13 : decode cX1_take 13 = .ok (.iconst 1, 1) := by decide +kernel
theorem dX1_take_14 : decode cX1_take 14 = .ok (.iadd, 1) := by decide +kernel
theorem dX1_take_15 : decode cX1_take 15 = .ok (.istore_n 3, 1) := by decide +kernel
theorem dX1_take_16 : decode cX1_take 16 = .ok (.iload_n 3, 1) := by decide +kernel
theorem dX1_take_17 : decode cX1_take 17 = .ok (.aload_n 0, 1) := by decide +kernel
theorem dX1_take_18 : decode cX1_take 18 = .ok (.getfield 22, 3) := by decide +kernel
theorem dX1_take_21 : decode cX1_take 21 = .ok (.if_icmp .ge 32, 3) := by decide +kernel
theorem dX1_take_24 : decode cX1_take 24 = .ok (.iload_n 3, 1) := by decide +kernel
theorem dX1_take_25 : decode cX1_take 25 = .ok (.aload_n 0, 1) := by decide +kernel
theorem dX1_take_26 : decode cX1_take 26 = .ok (.getfield 11, 3) := by decide +kernel
theorem dX1_take_29 : decode cX1_take 29 = .ok (.arraylength, 1) := by decide +kernel
theorem dX1_take_30 : decode cX1_take 30 = .ok (.if_icmp .ge 23, 3) := by decide +kernel
theorem dX1_take_33 : decode cX1_take 33 = .ok (.aload_n 0, 1) := by decide +kernel
theorem dX1_take_34 : decode cX1_take 34 = .ok (.getfield 11, 3) := by decide +kernel
theorem dX1_take_37 : decode cX1_take 37 = .ok (.iload_n 3, 1) := by decide +kernel
theorem dX1_take_38 : decode cX1_take 38 = .ok (.iconst 1, 1) := by decide +kernel
theorem dX1_take_39 : decode cX1_take 39 = .ok (.isub, 1) := by decide +kernel
theorem dX1_take_40 : decode cX1_take 40 = .ok (.aload_n 0, 1) := by decide +kernel
theorem dX1_take_41 : decode cX1_take 41 = .ok (.getfield 11, 3) := by decide +kernel
theorem dX1_take_44 : decode cX1_take 44 = .ok (.iload_n 3, 1) := by decide +kernel
theorem dX1_take_45 : decode cX1_take 45 = .ok (.aaload, 1) := by decide +kernel
theorem dX1_take_46 : decode cX1_take 46 = .ok (.aastore, 1) := by decide +kernel
theorem dX1_take_47 : decode cX1_take 47 = .ok (.iinc 3 1, 3) := by decide +kernel
theorem dX1_take_50 : decode cX1_take 50 = .ok (.goto (-34), 3) := by decide +kernel
theorem dX1_take_53 : decode cX1_take 53 = .ok (.aload_n 0, 1) := by decide +kernel
theorem dX1_take_54 : decode cX1_take 54 = .ok (.dup, 1) := by decide +kernel
theorem dX1_take_55 : decode cX1_take 55 = .ok (.getfield 22, 3) := by decide +kernel
theorem dX1_take_58 : decode cX1_take 58 = .ok (.iconst 1, 1) := by decide +kernel
theorem dX1_take_59 : decode cX1_take 59 = .ok (.isub, 1) := by decide +kernel
theorem dX1_take_60 : decode cX1_take 60 = .ok (.putfield 22, 3) := by decide +kernel
theorem dX1_take_63 : decode cX1_take 63 = .ok (.aload_n 0, 1) := by decide +kernel
theorem dX1_take_64 : decode cX1_take 64 = .ok (.getfield 11, 3) := by decide +kernel
theorem dX1_take_67 : decode cX1_take 67 = .ok (.aload_n 0, 1) := by decide +kernel
theorem dX1_take_68 : decode cX1_take 68 = .ok (.getfield 22, 3) := by decide +kernel
theorem dX1_take_71 : decode cX1_take 71 = .ok (.aload_n 0, 1) := by decide +kernel
theorem dX1_take_72 : decode cX1_take 72 = .ok (.getfield 18, 3) := by decide +kernel
theorem dX1_take_75 : decode cX1_take 75 = .ok (.aastore, 1) := by decide +kernel
theorem dX1_take_76 : decode cX1_take 76 = .ok (.aload_n 0, 1) := by decide +kernel
theorem dX1_take_77 : decode cX1_take 77 = .ok (.aload_n 2, 1) := by decide +kernel
theorem dX1_take_78 : decode cX1_take 78 = .ok (.putfield 18, 3) := by decide +kernel
theorem dX1_take_81 : decode cX1_take 81 = .ok (.iconst 1, 1) := by decide +kernel
theorem dX1_take_82 : decode cX1_take 82 = .ok (.ireturn, 1) := by decide +kernel
theorem dX2_init_0 : decode cX2_init 0 = .ok (.aload_n 0, 1) := by decide +kernel
theorem dX2_init_1 : decode cX2_init 1 = .ok (.invokespecial 3, 3) := by decide +kernel
theorem dX2_init_4 : decode cX2_init 4 = .ok (.aload_n 0, 1) := by decide +kernel
theorem dX2_init_5 : decode cX2_init 5 = .ok (.new 9, 3) := by decide +kernel
theorem dX2_init_8 : decode cX2_init 8 = .ok (.dup, 1) := by decide +kernel
theorem dX2_init_9 : decode cX2_init 9 = .ok (.invokespecial 11, 3) := by decide +kernel
theorem dX2_init_12 : decode cX2_init 12 = .ok (.putfield 12, 3) := by decide +kernel
theorem dX2_init_15 : decode cX2_init 15 = .ok (.aload_n 0, 1) := by decide +kernel
theorem dX2_init_16 : decode cX2_init 16 = .ok (.iload_n 1, 1) := by decide +kernel
theorem dX2_init_17 : decode cX2_init 17 = .ok (.putfield 18, 3) := by decide +kernel
theorem dX2_init_20 : decode cX2_init 20 = .ok (.return_, 1) := by decide +kernel
theorem dX2_hasAnswerOf_0 : decode cX2_hasAnswerOf 0 = .ok (.aload_n 0, 1) := by decide +kernel
theorem dX2_hasAnswerOf_1 : decode cX2_hasAnswerOf 1 = .ok (.getfield 22, 3) := by decide +kernel
theorem dX2_hasAnswerOf_4 : decode cX2_hasAnswerOf 4 = .ok (.iload_n 1, 1) := by decide +kernel
theorem dX2_hasAnswerOf_5 : decode cX2_hasAnswerOf 5 = .ok (.ishr, 1) := by decide +kernel
theorem dX2_hasAnswerOf_6 : decode cX2_hasAnswerOf 6 = .ok (.iconst 1, 1) := by decide +kernel
theorem dX2_hasAnswerOf_7 : decode cX2_hasAnswerOf 7 = .ok (.iand, 1) := by decide +kernel
theorem dX2_hasAnswerOf_8 : decode cX2_hasAnswerOf 8 = .ok (.iconst 1, 1) := by decide +kernel
theorem dX2_hasAnswerOf_9 : decode cX2_hasAnswerOf 9 = .ok (.if_icmp .ne 7, 3) := by decide +kernel
theorem dX2_hasAnswerOf_12 : decode cX2_hasAnswerOf 12 = .ok (.iconst 1, 1) := by decide +kernel
theorem dX2_hasAnswerOf_13 : decode cX2_hasAnswerOf 13 = .ok (.goto 4, 3) := by decide +kernel
theorem dX2_hasAnswerOf_16 : decode cX2_hasAnswerOf 16 = .ok (.iconst 0, 1) := by decide +kernel
theorem dX2_hasAnswerOf_17 : decode cX2_hasAnswerOf 17 = .ok (.ireturn, 1) := by decide +kernel
theorem dX2_counts_0 : decode cX2_counts 0 = .ok (.aload_n 1, 1) := by decide +kernel
theorem dX2_counts_1 : decode cX2_counts 1 = .ok (.getfield 25, 3) := by decide +kernel
theorem dX2_counts_4 : decode cX2_counts 4 = .ok (.aload_n 2, 1) := by decide +kernel
theorem dX2_counts_5 : decode cX2_counts 5 = .ok (.getfield 30, 3) := by decide +kernel
theorem dX2_counts_8 : decode cX2_counts 8 = .ok (.if_icmp .ne 29, 3) := by decide +kernel
theorem dX2_counts_11 : decode cX2_counts 11 = .ok (.aload_n 1, 1) := by decide +kernel
theorem dX2_counts_12 : decode cX2_counts 12 = .ok (.getfield 33, 3) := by decide +kernel
theorem dX2_counts_15 : decode cX2_counts 15 = .ok (.aload_n 0, 1) := by decide +kernel
theorem dX2_counts_16 : decode cX2_counts 16 = .ok (.getfield 36, 3) := by decide +kernel
theorem dX2_counts_19 : decode cX2_counts 19 = .ok (.if_icmp .ne 18, 3) := by decide +kernel
theorem dX2_counts_22 : decode cX2_counts 22 = .ok (.aload_n 0, 1) := by decide +kernel
theorem dX2_counts_23 : decode cX2_counts 23 = .ok (.aload_n 1, 1) := by decide +kernel
theorem dX2_counts_24 : decode cX2_counts 24 = .ok (.getfield 37, 3) := by decide +kernel
theorem dX2_counts_27 : decode cX2_counts 27 = .ok (.invokevirtual 40, 3) := by decide +kernel
theorem dX2_counts_30 : decode cX2_counts 30 = .ok (.ifCond .ne 7, 3) := by decide +kernel
theorem dX2_counts_33 : decode cX2_counts 33 = .ok (.iconst 1, 1) := by decide +kernel
theorem dX2_counts_34 : decode cX2_counts 34 = .ok (.goto 4, 3) := by decide +kernel
theorem dX2_counts_37 : decode cX2_counts 37 = .ok (.iconst 0, 1) := by decide +kernel
theorem dX2_counts_38 : decode cX2_counts 38 = .ok (.ireturn, 1) := by decide +kernel
theorem dX2_learn_0 : decode cX2_learn 0 = .ok (.aload_n 0, 1) := by decide +kernel
theorem dX2_learn_1 : decode cX2_learn 1 = .ok (.dup, 1) := by decide +kernel
theorem dX2_learn_2 : decode cX2_learn 2 = .ok (.getfield 22, 3) := by decide +kernel
theorem dX2_learn_5 : decode cX2_learn 5 = .ok (.iconst 1, 1) := by decide +kernel
theorem dX2_learn_6 : decode cX2_learn 6 = .ok (.aload_n 1, 1) := by decide +kernel
theorem dX2_learn_7 : decode cX2_learn 7 = .ok (.getfield 37, 3) := by decide +kernel
theorem dX2_learn_10 : decode cX2_learn 10 = .ok (.ishl, 1) := by decide +kernel
theorem dX2_learn_11 : decode cX2_learn 11 = .ok (.ior, 1) := by decide +kernel
theorem dX2_learn_12 : decode cX2_learn 12 = .ok (.putfield 22, 3) := by decide +kernel
theorem dX2_learn_15 : decode cX2_learn 15 = .ok (.aload_n 0, 1) := by decide +kernel
theorem dX2_learn_16 : decode cX2_learn 16 = .ok (.aload_n 0, 1) := by decide +kernel
theorem dX2_learn_17 : decode cX2_learn 17 = .ok (.getfield 44, 3) := by decide +kernel
theorem dX2_learn_20 : decode cX2_learn 20 = .ok (.aload_n 1, 1) := by decide +kernel
theorem dX2_learn_21 : decode cX2_learn 21 = .ok (.getfield 47, 3) := by decide +kernel
theorem dX2_learn_24 : decode cX2_learn 24 = .ok (.invokestatic 48, 3) := by decide +kernel
theorem dX2_learn_27 : decode cX2_learn 27 = .ok (.putfield 44, 3) := by decide +kernel
theorem dX2_learn_30 : decode cX2_learn 30 = .ok (.aload_n 0, 1) := by decide +kernel
theorem dX2_learn_31 : decode cX2_learn 31 = .ok (.aload_n 0, 1) := by decide +kernel
theorem dX2_learn_32 : decode cX2_learn 32 = .ok (.getfield 54, 3) := by decide +kernel
theorem dX2_learn_35 : decode cX2_learn 35 = .ok (.aload_n 1, 1) := by decide +kernel
theorem dX2_learn_36 : decode cX2_learn 36 = .ok (.getfield 57, 3) := by decide +kernel
theorem dX2_learn_39 : decode cX2_learn 39 = .ok (.invokestatic 48, 3) := by decide +kernel
theorem dX2_learn_42 : decode cX2_learn 42 = .ok (.putfield 54, 3) := by decide +kernel
theorem dX2_learn_45 : decode cX2_learn 45 = .ok (.aload_n 0, 1) := by decide +kernel
theorem dX2_learn_46 : decode cX2_learn 46 = .ok (.getfield 58, 3) := by decide +kernel
theorem dX2_learn_49 : decode cX2_learn 49 = .ok (.iconst 1, 1) := by decide +kernel
theorem dX2_learn_50 : decode cX2_learn 50 = .ok (.if_icmp .eq 11, 3) := by decide +kernel
theorem dX2_learn_53 : decode cX2_learn 53 = .ok (.aload_n 0, 1) := by decide +kernel
theorem dX2_learn_54 : decode cX2_learn 54 = .ok (.getfield 58, 3) := by decide +kernel
theorem dX2_learn_57 : decode cX2_learn 57 = .ok (.iconst 3, 1) := by decide +kernel
theorem dX2_learn_58 : decode cX2_learn 58 = .ok (.if_icmp .ne 7, 3) := by decide +kernel
theorem dX2_learn_61 : decode cX2_learn 61 = .ok (.iconst 1, 1) := by decide +kernel
theorem dX2_learn_62 : decode cX2_learn 62 = .ok (.goto 4, 3) := by decide +kernel
theorem dX2_learn_65 : decode cX2_learn 65 = .ok (.iconst 0, 1) := by decide +kernel
theorem dX2_learn_66 : decode cX2_learn 66 = .ok (.istore_n 2, 1) := by decide +kernel
theorem dX2_learn_67 : decode cX2_learn 67 = .ok (.iload_n 2, 1) := by decide +kernel
theorem dX2_learn_68 : decode cX2_learn 68 = .ok (.ifCond .eq 28, 3) := by decide +kernel
theorem dX2_learn_71 : decode cX2_learn 71 = .ok (.aload_n 1, 1) := by decide +kernel
theorem dX2_learn_72 : decode cX2_learn 72 = .ok (.getfield 61, 3) := by decide +kernel
theorem dX2_learn_75 : decode cX2_learn 75 = .ok (.aload_n 0, 1) := by decide +kernel
theorem dX2_learn_76 : decode cX2_learn 76 = .ok (.getfield 12, 3) := by decide +kernel
theorem dX2_learn_79 : decode cX2_learn 79 = .ok (.invokevirtual 62, 3) := by decide +kernel
theorem dX2_learn_82 : decode cX2_learn 82 = .ok (.ifCond .eq 14, 3) := by decide +kernel
theorem dX2_learn_85 : decode cX2_learn 85 = .ok (.aload_n 0, 1) := by decide +kernel
theorem dX2_learn_86 : decode cX2_learn 86 = .ok (.getfield 12, 3) := by decide +kernel
theorem dX2_learn_89 : decode cX2_learn 89 = .ok (.aload_n 1, 1) := by decide +kernel
theorem dX2_learn_90 : decode cX2_learn 90 = .ok (.getfield 61, 3) := by decide +kernel
theorem dX2_learn_93 : decode cX2_learn 93 = .ok (.invokevirtual 66, 3) := by decide +kernel
theorem dX2_learn_96 : decode cX2_learn 96 = .ok (.return_, 1) := by decide +kernel
theorem dX2_rest_0 : decode cX2_rest 0 = .ok (.aload_n 0, 1) := by decide +kernel
theorem dX2_rest_1 : decode cX2_rest 1 = .ok (.aconst_null, 1) := by decide +kernel
theorem dX2_rest_2 : decode cX2_rest 2 = .ok (.putfield 70, 3) := by decide +kernel
theorem dX2_rest_5 : decode cX2_rest 5 = .ok (.aload_n 0, 1) := by decide +kernel
theorem dX2_rest_6 : decode cX2_rest 6 = .ok (.iconst 0, 1) := by decide +kernel
theorem dX2_rest_7 : decode cX2_rest 7 = .ok (.putfield 58, 3) := by decide +kernel
theorem dX2_rest_10 : decode cX2_rest 10 = .ok (.aload_n 0, 1) := by decide +kernel
theorem dX2_rest_11 : decode cX2_rest 11 = .ok (.iconst 0, 1) := by decide +kernel
theorem dX2_rest_12 : decode cX2_rest 12 = .ok (.putfield 22, 3) := by decide +kernel
theorem dX2_rest_15 : decode cX2_rest 15 = .ok (.return_, 1) := by decide +kernel
theorem dX3_init_0 : decode cX3_init 0 = .ok (.aload_n 0, 1) := by decide +kernel
theorem dX3_init_1 : decode cX3_init 1 = .ok (.invokespecial 3, 3) := by decide +kernel
theorem dX3_init_4 : decode cX3_init 4 = .ok (.aload_n 0, 1) := by decide +kernel
theorem dX3_init_5 : decode cX3_init 5 = .ok (.new 9, 3) := by decide +kernel
theorem dX3_init_8 : decode cX3_init 8 = .ok (.dup, 1) := by decide +kernel
theorem dX3_init_9 : decode cX3_init 9 = .ok (.invokespecial 11, 3) := by decide +kernel
theorem dX3_init_12 : decode cX3_init 12 = .ok (.putfield 12, 3) := by decide +kernel
theorem dX3_init_15 : decode cX3_init 15 = .ok (.return_, 1) := by decide +kernel
theorem dX3_obey_0 : decode cX3_obey 0 = .ok (.aload_n 1, 1) := by decide +kernel
theorem dX3_obey_1 : decode cX3_obey 1 = .ok (.getfield 18, 3) := by decide +kernel
theorem dX3_obey_4 : decode cX3_obey 4 = .ok (.tableswitch 111 2 5 #[32, 60, 32, 78], 32) := by decide +kernel
theorem dX3_obey_36 : decode cX3_obey 36 = .ok (.aload_n 1, 1) := by decide +kernel
theorem dX3_obey_37 : decode cX3_obey 37 = .ok (.getfield 24, 3) := by decide +kernel
theorem dX3_obey_40 : decode cX3_obey 40 = .ok (.aload_n 0, 1) := by decide +kernel
theorem dX3_obey_41 : decode cX3_obey 41 = .ok (.getfield 12, 3) := by decide +kernel
theorem dX3_obey_44 : decode cX3_obey 44 = .ok (.invokevirtual 25, 3) := by decide +kernel
theorem dX3_obey_47 : decode cX3_obey 47 = .ok (.ifCond .eq 68, 3) := by decide +kernel
theorem dX3_obey_50 : decode cX3_obey 50 = .ok (.aload_n 0, 1) := by decide +kernel
theorem dX3_obey_51 : decode cX3_obey 51 = .ok (.getfield 12, 3) := by decide +kernel
theorem dX3_obey_54 : decode cX3_obey 54 = .ok (.aload_n 1, 1) := by decide +kernel
theorem dX3_obey_55 : decode cX3_obey 55 = .ok (.getfield 24, 3) := by decide +kernel
theorem dX3_obey_58 : decode cX3_obey 58 = .ok (.invokevirtual 29, 3) := by decide +kernel
theorem dX3_obey_61 : decode cX3_obey 61 = .ok (.goto 54, 3) := by decide +kernel
theorem dX3_obey_64 : decode cX3_obey 64 = .ok (.aload_n 0, 1) := by decide +kernel
theorem dX3_obey_65 : decode cX3_obey 65 = .ok (.aload_n 0, 1) := by decide +kernel
theorem dX3_obey_66 : decode cX3_obey 66 = .ok (.getfield 33, 3) := by decide +kernel
theorem dX3_obey_69 : decode cX3_obey 69 = .ok (.aload_n 1, 1) := by decide +kernel
theorem dX3_obey_70 : decode cX3_obey 70 = .ok (.getfield 36, 3) := by decide +kernel
theorem dX3_obey_73 : decode cX3_obey 73 = .ok (.invokestatic 37, 3) := by decide +kernel
theorem dX3_obey_76 : decode cX3_obey 76 = .ok (.putfield 33, 3) := by decide +kernel
theorem dX3_obey_79 : decode cX3_obey 79 = .ok (.goto 36, 3) := by decide +kernel
theorem dX3_obey_82 : decode cX3_obey 82 = .ok (.aload_n 0, 1) := by decide +kernel
theorem dX3_obey_83 : decode cX3_obey 83 = .ok (.aload_n 0, 1) := by decide +kernel
theorem dX3_obey_84 : decode cX3_obey 84 = .ok (.getfield 43, 3) := by decide +kernel
theorem dX3_obey_87 : decode cX3_obey 87 = .ok (.aload_n 1, 1) := by decide +kernel
theorem dX3_obey_88 : decode cX3_obey 88 = .ok (.getfield 36, 3) := by decide +kernel
theorem dX3_obey_91 : decode cX3_obey 91 = .ok (.invokestatic 37, 3) := by decide +kernel
theorem dX3_obey_94 : decode cX3_obey 94 = .ok (.putfield 43, 3) := by decide +kernel
theorem dX3_obey_97 : decode cX3_obey 97 = .ok (.aload_n 0, 1) := by decide +kernel
theorem dX3_obey_98 : decode cX3_obey 98 = .ok (.aload_n 0, 1) := by decide +kernel
theorem dX3_obey_99 : decode cX3_obey 99 = .ok (.getfield 33, 3) := by decide +kernel
theorem dX3_obey_102 : decode cX3_obey 102 = .ok (.aload_n 1, 1) := by decide +kernel
theorem dX3_obey_103 : decode cX3_obey 103 = .ok (.getfield 36, 3) := by decide +kernel
theorem dX3_obey_106 : decode cX3_obey 106 = .ok (.invokestatic 37, 3) := by decide +kernel
theorem dX3_obey_109 : decode cX3_obey 109 = .ok (.putfield 33, 3) := by decide +kernel
theorem dX3_obey_112 : decode cX3_obey 112 = .ok (.goto 3, 3) := by decide +kernel
theorem dX3_obey_115 : decode cX3_obey 115 = .ok (.return_, 1) := by decide +kernel
theorem dX4_init_0 : decode cX4_init 0 = .ok (.aload_n 0, 1) := by decide +kernel
theorem dX4_init_1 : decode cX4_init 1 = .ok (.invokespecial 1, 3) := by decide +kernel
theorem dX4_init_4 : decode cX4_init 4 = .ok (.aload_n 0, 1) := by decide +kernel
theorem dX4_init_5 : decode cX4_init 5 = .ok (.new 7, 3) := by decide +kernel
theorem dX4_init_8 : decode cX4_init 8 = .ok (.dup, 1) := by decide +kernel
theorem dX4_init_9 : decode cX4_init 9 = .ok (.invokespecial 9, 3) := by decide +kernel
theorem dX4_init_12 : decode cX4_init 12 = .ok (.putfield 10, 3) := by decide +kernel
theorem dX4_init_15 : decode cX4_init 15 = .ok (.return_, 1) := by decide +kernel
theorem dX4_repeat_0 : decode cX4_repeat 0 = .ok (.aload_n 0, 1) := by decide +kernel
theorem dX4_repeat_1 : decode cX4_repeat 1 = .ok (.aload_n 1, 1) := by decide +kernel
theorem dX4_repeat_2 : decode cX4_repeat 2 = .ok (.getfield 16, 3) := by decide +kernel
theorem dX4_repeat_5 : decode cX4_repeat 5 = .ok (.putfield 16, 3) := by decide +kernel
theorem dX4_repeat_8 : decode cX4_repeat 8 = .ok (.aload_n 0, 1) := by decide +kernel
theorem dX4_repeat_9 : decode cX4_repeat 9 = .ok (.aload_n 1, 1) := by decide +kernel
theorem dX4_repeat_10 : decode cX4_repeat 10 = .ok (.getfield 20, 3) := by decide +kernel
theorem dX4_repeat_13 : decode cX4_repeat 13 = .ok (.putfield 20, 3) := by decide +kernel
theorem dX4_repeat_16 : decode cX4_repeat 16 = .ok (.aload_n 0, 1) := by decide +kernel
theorem dX4_repeat_17 : decode cX4_repeat 17 = .ok (.aload_n 1, 1) := by decide +kernel
theorem dX4_repeat_18 : decode cX4_repeat 18 = .ok (.getfield 24, 3) := by decide +kernel
theorem dX4_repeat_21 : decode cX4_repeat 21 = .ok (.putfield 24, 3) := by decide +kernel
theorem dX4_repeat_24 : decode cX4_repeat 24 = .ok (.aload_n 0, 1) := by decide +kernel
theorem dX4_repeat_25 : decode cX4_repeat 25 = .ok (.aload_n 1, 1) := by decide +kernel
theorem dX4_repeat_26 : decode cX4_repeat 26 = .ok (.getfield 27, 3) := by decide +kernel
theorem dX4_repeat_29 : decode cX4_repeat 29 = .ok (.putfield 27, 3) := by decide +kernel
theorem dX4_repeat_32 : decode cX4_repeat 32 = .ok (.aload_n 0, 1) := by decide +kernel
theorem dX4_repeat_33 : decode cX4_repeat 33 = .ok (.aload_n 1, 1) := by decide +kernel
theorem dX4_repeat_34 : decode cX4_repeat 34 = .ok (.getfield 30, 3) := by decide +kernel
theorem dX4_repeat_37 : decode cX4_repeat 37 = .ok (.putfield 30, 3) := by decide +kernel
theorem dX4_repeat_40 : decode cX4_repeat 40 = .ok (.aload_n 0, 1) := by decide +kernel
theorem dX4_repeat_41 : decode cX4_repeat 41 = .ok (.aload_n 1, 1) := by decide +kernel
theorem dX4_repeat_42 : decode cX4_repeat 42 = .ok (.getfield 33, 3) := by decide +kernel
theorem dX4_repeat_45 : decode cX4_repeat 45 = .ok (.putfield 33, 3) := by decide +kernel
theorem dX4_repeat_48 : decode cX4_repeat 48 = .ok (.aload_n 0, 1) := by decide +kernel
theorem dX4_repeat_49 : decode cX4_repeat 49 = .ok (.aload_n 1, 1) := by decide +kernel
theorem dX4_repeat_50 : decode cX4_repeat 50 = .ok (.getfield 36, 3) := by decide +kernel
theorem dX4_repeat_53 : decode cX4_repeat 53 = .ok (.putfield 36, 3) := by decide +kernel
theorem dX4_repeat_56 : decode cX4_repeat 56 = .ok (.aload_n 0, 1) := by decide +kernel
theorem dX4_repeat_57 : decode cX4_repeat 57 = .ok (.aload_n 1, 1) := by decide +kernel
theorem dX4_repeat_58 : decode cX4_repeat 58 = .ok (.getfield 39, 3) := by decide +kernel
theorem dX4_repeat_61 : decode cX4_repeat 61 = .ok (.putfield 39, 3) := by decide +kernel
theorem dX4_repeat_64 : decode cX4_repeat 64 = .ok (.aload_n 0, 1) := by decide +kernel
theorem dX4_repeat_65 : decode cX4_repeat 65 = .ok (.getfield 10, 3) := by decide +kernel
theorem dX4_repeat_68 : decode cX4_repeat 68 = .ok (.aload_n 1, 1) := by decide +kernel
theorem dX4_repeat_69 : decode cX4_repeat 69 = .ok (.getfield 10, 3) := by decide +kernel
theorem dX4_repeat_72 : decode cX4_repeat 72 = .ok (.invokevirtual 42, 3) := by decide +kernel
theorem dX4_repeat_75 : decode cX4_repeat 75 = .ok (.return_, 1) := by decide +kernel
theorem dX5_init_0 : decode cX5_init 0 = .ok (.aload_n 0, 1) := by decide +kernel
theorem dX5_init_1 : decode cX5_init 1 = .ok (.invokespecial 1, 3) := by decide +kernel
theorem dX5_init_4 : decode cX5_init 4 = .ok (.aload_n 0, 1) := by decide +kernel
theorem dX5_init_5 : decode cX5_init 5 = .ok (.aload_n 1, 1) := by decide +kernel
theorem dX5_init_6 : decode cX5_init 6 = .ok (.putfield 7, 3) := by decide +kernel
theorem dX5_init_9 : decode cX5_init 9 = .ok (.aload_n 0, 1) := by decide +kernel
theorem dX5_init_10 : decode cX5_init 10 = .ok (.iload_n 2, 1) := by decide +kernel
theorem dX5_init_11 : decode cX5_init 11 = .ok (.putfield 13, 3) := by decide +kernel
theorem dX5_init_14 : decode cX5_init 14 = .ok (.aload_n 0, 1) := by decide +kernel
theorem dX5_init_15 : decode cX5_init 15 = .ok (.iload_n 3, 1) := by decide +kernel
theorem dX5_init_16 : decode cX5_init 16 = .ok (.putfield 17, 3) := by decide +kernel
theorem dX5_init_19 : decode cX5_init 19 = .ok (.return_, 1) := by decide +kernel
theorem dX5_canBe_0 : decode cX5_canBe 0 = .ok (.aload_n 0, 1) := by decide +kernel
theorem dX5_canBe_1 : decode cX5_canBe 1 = .ok (.iconst (-1), 1) := by decide +kernel
theorem dX5_canBe_2 : decode cX5_canBe 2 = .ok (.invokestatic 20, 3) := by decide +kernel
theorem dX5_canBe_5 : decode cX5_canBe 5 = .ok (.istore_n 3, 1) := by decide +kernel
theorem dX5_canBe_6 : decode cX5_canBe 6 = .ok (.iload_n 1, 1) := by decide +kernel
theorem dX5_canBe_7 : decode cX5_canBe 7 = .ok (.iconst 1, 1) := by decide +kernel
theorem dX5_canBe_8 : decode cX5_canBe 8 = .ok (.if_icmp .lt 36, 3) := by decide +kernel
theorem dX5_canBe_11 : decode cX5_canBe 11 = .ok (.iload_n 2, 1) := by decide +kernel
theorem dX5_canBe_12 : decode cX5_canBe 12 = .ok (.iconst 1, 1) := by decide +kernel
theorem dX5_canBe_13 : decode cX5_canBe 13 = .ok (.if_icmp .lt 31, 3) := by decide +kernel
theorem dX5_canBe_16 : decode cX5_canBe 16 = .ok (.iload_n 1, 1) := by decide +kernel
theorem dX5_canBe_17 : decode cX5_canBe 17 = .ok (.iload_n 3, 1) := by decide +kernel
theorem dX5_canBe_18 : decode cX5_canBe 18 = .ok (.if_icmp .gt 26, 3) := by decide +kernel
theorem dX5_canBe_21 : decode cX5_canBe 21 = .ok (.iload_n 2, 1) := by decide +kernel
theorem dX5_canBe_22 : decode cX5_canBe 22 = .ok (.iload_n 3, 1) := by decide +kernel
theorem dX5_canBe_23 : decode cX5_canBe 23 = .ok (.if_icmp .gt 21, 3) := by decide +kernel
theorem dX5_canBe_26 : decode cX5_canBe 26 = .ok (.iload_n 1, 1) := by decide +kernel
theorem dX5_canBe_27 : decode cX5_canBe 27 = .ok (.iload_n 2, 1) := by decide +kernel
theorem dX5_canBe_28 : decode cX5_canBe 28 = .ok (.iadd, 1) := by decide +kernel
theorem dX5_canBe_29 : decode cX5_canBe 29 = .ok (.iload_n 3, 1) := by decide +kernel
theorem dX5_canBe_30 : decode cX5_canBe 30 = .ok (.if_icmp .le 14, 3) := by decide +kernel
theorem dX5_canBe_33 : decode cX5_canBe 33 = .ok (.iconst 2, 1) := by decide +kernel
theorem dX5_canBe_34 : decode cX5_canBe 34 = .ok (.iload_n 2, 1) := by decide +kernel
theorem dX5_canBe_35 : decode cX5_canBe 35 = .ok (.imul, 1) := by decide +kernel
theorem dX5_canBe_36 : decode cX5_canBe 36 = .ok (.iload_n 3, 1) := by decide +kernel
theorem dX5_canBe_37 : decode cX5_canBe 37 = .ok (.if_icmp .le 7, 3) := by decide +kernel
theorem dX5_canBe_40 : decode cX5_canBe 40 = .ok (.iconst 1, 1) := by decide +kernel
theorem dX5_canBe_41 : decode cX5_canBe 41 = .ok (.goto 4, 3) := by decide +kernel
theorem dX5_canBe_44 : decode cX5_canBe 44 = .ok (.iconst 0, 1) := by decide +kernel
theorem dX5_canBe_45 : decode cX5_canBe 45 = .ok (.ireturn, 1) := by decide +kernel
theorem dX5_sum_0 : decode cX5_sum 0 = .ok (.iconst 0, 1) := by decide +kernel
theorem dX5_sum_1 : decode cX5_sum 1 = .ok (.istore_n 2, 1) := by decide +kernel
theorem dX5_sum_2 : decode cX5_sum 2 = .ok (.iconst 0, 1) := by decide +kernel
theorem dX5_sum_3 : decode cX5_sum 3 = .ok (.istore_n 3, 1) := by decide +kernel
theorem dX5_sum_4 : decode cX5_sum 4 = .ok (.iload_n 3, 1) := by decide +kernel
theorem dX5_sum_5 : decode cX5_sum 5 = .ok (.aload_n 0, 1) := by decide +kernel
theorem dX5_sum_6 : decode cX5_sum 6 = .ok (.arraylength, 1) := by decide +kernel
theorem dX5_sum_7 : decode cX5_sum 7 = .ok (.if_icmp .ge 24, 3) := by decide +kernel
theorem dX5_sum_10 : decode cX5_sum 10 = .ok (.iload_n 1, 1) := by decide +kernel
theorem dX5_sum_11 : decode cX5_sum 11 = .ok (.iload_n 3, 1) := by decide +kernel
theorem dX5_sum_12 : decode cX5_sum 12 = .ok (.ishr, 1) := by decide +kernel
theorem dX5_sum_13 : decode cX5_sum 13 = .ok (.iconst 1, 1) := by decide +kernel
theorem dX5_sum_14 : decode cX5_sum 14 = .ok (.iand, 1) := by decide +kernel
theorem dX5_sum_15 : decode cX5_sum 15 = .ok (.iconst 1, 1) := by decide +kernel
theorem dX5_sum_16 : decode cX5_sum 16 = .ok (.if_icmp .ne 9, 3) := by decide +kernel
theorem dX5_sum_19 : decode cX5_sum 19 = .ok (.iload_n 2, 1) := by decide +kernel
theorem dX5_sum_20 : decode cX5_sum 20 = .ok (.aload_n 0, 1) := by decide +kernel
theorem dX5_sum_21 : decode cX5_sum 21 = .ok (.iload_n 3, 1) := by decide +kernel
theorem dX5_sum_22 : decode cX5_sum 22 = .ok (.iaload, 1) := by decide +kernel
theorem dX5_sum_23 : decode cX5_sum 23 = .ok (.iadd, 1) := by decide +kernel
theorem dX5_sum_24 : decode cX5_sum 24 = .ok (.istore_n 2, 1) := by decide +kernel
theorem dX5_sum_25 : decode cX5_sum 25 = .ok (.iinc 3 1, 3) := by decide +kernel
theorem dX5_sum_28 : decode cX5_sum 28 = .ok (.goto (-24), 3) := by decide +kernel
theorem dX5_sum_31 : decode cX5_sum 31 = .ok (.iload_n 2, 1) := by decide +kernel
theorem dX5_sum_32 : decode cX5_sum 32 = .ok (.ireturn, 1) := by decide +kernel
theorem dX6_init_0 : decode cX6_init 0 = .ok (.aload_n 0, 1) := by decide +kernel
theorem dX6_init_1 : decode cX6_init 1 = .ok (.invokespecial 1, 3) := by decide +kernel
theorem dX6_init_4 : decode cX6_init 4 = .ok (.return_, 1) := by decide +kernel
theorem dX6_isAbove_0 : decode cX6_isAbove 0 = .ok (.aload_n 0, 1) := by decide +kernel
theorem dX6_isAbove_1 : decode cX6_isAbove 1 = .ok (.getfield 7, 3) := by decide +kernel
theorem dX6_isAbove_4 : decode cX6_isAbove 4 = .ok (.aload_n 1, 1) := by decide +kernel
theorem dX6_isAbove_5 : decode cX6_isAbove 5 = .ok (.getfield 7, 3) := by decide +kernel
theorem dX6_isAbove_8 : decode cX6_isAbove 8 = .ok (.if_icmp .gt 25, 3) := by decide +kernel
theorem dX6_isAbove_11 : decode cX6_isAbove 11 = .ok (.aload_n 0, 1) := by decide +kernel
theorem dX6_isAbove_12 : decode cX6_isAbove 12 = .ok (.getfield 7, 3) := by decide +kernel
theorem dX6_isAbove_15 : decode cX6_isAbove 15 = .ok (.aload_n 1, 1) := by decide +kernel
theorem dX6_isAbove_16 : decode cX6_isAbove 16 = .ok (.getfield 7, 3) := by decide +kernel
theorem dX6_isAbove_19 : decode cX6_isAbove 19 = .ok (.if_icmp .ne 18, 3) := by decide +kernel
theorem dX6_isAbove_22 : decode cX6_isAbove 22 = .ok (.aload_n 0, 1) := by decide +kernel
theorem dX6_isAbove_23 : decode cX6_isAbove 23 = .ok (.getfield 13, 3) := by decide +kernel
theorem dX6_isAbove_26 : decode cX6_isAbove 26 = .ok (.aload_n 1, 1) := by decide +kernel
theorem dX6_isAbove_27 : decode cX6_isAbove 27 = .ok (.getfield 13, 3) := by decide +kernel
theorem dX6_isAbove_30 : decode cX6_isAbove 30 = .ok (.if_icmp .le 7, 3) := by decide +kernel
theorem dX6_isAbove_33 : decode cX6_isAbove 33 = .ok (.iconst 1, 1) := by decide +kernel
theorem dX6_isAbove_34 : decode cX6_isAbove 34 = .ok (.goto 4, 3) := by decide +kernel
theorem dX6_isAbove_37 : decode cX6_isAbove 37 = .ok (.iconst 0, 1) := by decide +kernel
theorem dX6_isAbove_38 : decode cX6_isAbove 38 = .ok (.ireturn, 1) := by decide +kernel
theorem dX6_put_0 : decode cX6_put 0 = .ok (.aload_n 0, 1) := by decide +kernel
theorem dX6_put_1 : decode cX6_put 1 = .ok (.iload_n 1, 1) := by decide +kernel
theorem dX6_put_2 : decode cX6_put 2 = .ok (.putfield 7, 3) := by decide +kernel
theorem dX6_put_5 : decode cX6_put 5 = .ok (.aload_n 0, 1) := by decide +kernel
theorem dX6_put_6 : decode cX6_put 6 = .ok (.iload_n 2, 1) := by decide +kernel
theorem dX6_put_7 : decode cX6_put 7 = .ok (.putfield 13, 3) := by decide +kernel
theorem dX6_put_10 : decode cX6_put 10 = .ok (.aload_n 0, 1) := by decide +kernel
theorem dX6_put_11 : decode cX6_put 11 = .ok (.lload_n 3, 1) := by decide +kernel
theorem dX6_put_12 : decode cX6_put 12 = .ok (.putfield 16, 3) := by decide +kernel
theorem dX6_put_15 : decode cX6_put 15 = .ok (.return_, 1) := by decide +kernel
theorem dX6_set_0 : decode cX6_set 0 = .ok (.aload_n 0, 1) := by decide +kernel
theorem dX6_set_1 : decode cX6_set 1 = .ok (.aload_n 1, 1) := by decide +kernel
theorem dX6_set_2 : decode cX6_set 2 = .ok (.getfield 7, 3) := by decide +kernel
theorem dX6_set_5 : decode cX6_set 5 = .ok (.putfield 7, 3) := by decide +kernel
theorem dX6_set_8 : decode cX6_set 8 = .ok (.aload_n 0, 1) := by decide +kernel
theorem dX6_set_9 : decode cX6_set 9 = .ok (.aload_n 1, 1) := by decide +kernel
theorem dX6_set_10 : decode cX6_set 10 = .ok (.getfield 13, 3) := by decide +kernel
theorem dX6_set_13 : decode cX6_set 13 = .ok (.putfield 13, 3) := by decide +kernel
theorem dX6_set_16 : decode cX6_set 16 = .ok (.aload_n 0, 1) := by decide +kernel
theorem dX6_set_17 : decode cX6_set 17 = .ok (.aload_n 1, 1) := by decide +kernel
theorem dX6_set_18 : decode cX6_set 18 = .ok (.getfield 16, 3) := by decide +kernel
theorem dX6_set_21 : decode cX6_set 21 = .ok (.putfield 16, 3) := by decide +kernel
theorem dX6_set_24 : decode cX6_set 24 = .ok (.return_, 1) := by decide +kernel
theorem dX7_init_0 : decode cX7_init 0 = .ok (.aload_n 0, 1) := by decide +kernel
theorem dX7_init_1 : decode cX7_init 1 = .ok (.invokespecial 1, 3) := by decide +kernel
theorem dX7_init_4 : decode cX7_init 4 = .ok (.iconst 1, 1) := by decide +kernel
theorem dX7_init_5 : decode cX7_init 5 = .ok (.iload_n 1, 1) := by decide +kernel
theorem dX7_init_6 : decode cX7_init 6 = .ok (.bipush 7, 2) := by decide +kernel
theorem dX7_init_8 : decode cX7_init 8 = .ok (.invokestatic 9, 3) := by decide +kernel
theorem dX7_init_11 : decode cX7_init 11 = .ok (.invokestatic 15, 3) := by decide +kernel
theorem dX7_init_14 : decode cX7_init 14 = .ok (.istore_n 2, 1) := by decide +kernel
theorem dX7_init_15 : decode cX7_init 15 = .ok (.aload_n 0, 1) := by decide +kernel
theorem dX7_init_16 : decode cX7_init 16 = .ok (.iload_n 2, 1) := by decide +kernel
theorem dX7_init_17 : decode cX7_init 17 = .ok (.anewarray 18, 3) := by decide +kernel
theorem dX7_init_20 : decode cX7_init 20 = .ok (.putfield 20, 3) := by decide +kernel
theorem dX7_init_23 : decode cX7_init 23 = .ok (.aload_n 0, 1) := by decide +kernel
theorem dX7_init_24 : decode cX7_init 24 = .ok (.iload_n 2, 1) := by decide +kernel
theorem dX7_init_25 : decode cX7_init 25 = .ok (.newarray .int, 2) := by decide +kernel
theorem dX7_init_27 : decode cX7_init 27 = .ok (.putfield 24, 3) := by decide +kernel
theorem dX7_init_30 : decode cX7_init 30 = .ok (.iconst 0, 1) := by decide +kernel
theorem dX7_init_31 : decode cX7_init 31 = .ok (.istore_n 3, 1) := by decide +kernel
theorem dX7_init_32 : decode cX7_init 32 = .ok (.iload_n 3, 1) := by decide +kernel
theorem dX7_init_33 : decode cX7_init 33 = .ok (.iload_n 2, 1) := by decide +kernel
theorem dX7_init_34 : decode cX7_init 34 = .ok (.if_icmp .ge 29, 3) := by decide +kernel
theorem dX7_init_37 : decode cX7_init 37 = .ok (.aload_n 0, 1) := by decide +kernel
theorem dX7_init_38 : decode cX7_init 38 = .ok (.getfield 20, 3) := by decide +kernel
theorem dX7_init_41 : decode cX7_init 41 = .ok (.iload_n 3, 1) := by decide +kernel
theorem dX7_init_42 : decode cX7_init 42 = .ok (.new 18, 3) := by decide +kernel
theorem dX7_init_45 : decode cX7_init 45 = .ok (.dup, 1) := by decide +kernel
theorem dX7_init_46 : decode cX7_init 46 = .ok (.invokespecial 28, 3) := by decide +kernel
theorem dX7_init_49 : decode cX7_init 49 = .ok (.aastore, 1) := by decide +kernel
theorem dX7_init_50 : decode cX7_init 50 = .ok (.aload_n 0, 1) := by decide +kernel
theorem dX7_init_51 : decode cX7_init 51 = .ok (.getfield 24, 3) := by decide +kernel
theorem dX7_init_54 : decode cX7_init 54 = .ok (.iload_n 3, 1) := by decide +kernel
theorem dX7_init_55 : decode cX7_init 55 = .ok (.iconst 1, 1) := by decide +kernel
theorem dX7_init_56 : decode cX7_init 56 = .ok (.iastore, 1) := by decide +kernel
theorem dX7_init_57 : decode cX7_init 57 = .ok (.iinc 3 1, 3) := by decide +kernel
theorem dX7_init_60 : decode cX7_init 60 = .ok (.goto (-28), 3) := by decide +kernel
theorem dX7_init_63 : decode cX7_init 63 = .ok (.aload_n 0, 1) := by decide +kernel
theorem dX7_init_64 : decode cX7_init 64 = .ok (.iconst 4, 1) := by decide +kernel
theorem dX7_init_65 : decode cX7_init 65 = .ok (.anewarray 29, 3) := by decide +kernel
theorem dX7_init_68 : decode cX7_init 68 = .ok (.putfield 31, 3) := by decide +kernel
theorem dX7_init_71 : decode cX7_init 71 = .ok (.iconst 0, 1) := by decide +kernel
theorem dX7_init_72 : decode cX7_init 72 = .ok (.istore_n 3, 1) := by decide +kernel
theorem dX7_init_73 : decode cX7_init 73 = .ok (.iload_n 3, 1) := by decide +kernel
theorem dX7_init_74 : decode cX7_init 74 = .ok (.iconst 4, 1) := by decide +kernel
theorem dX7_init_75 : decode cX7_init 75 = .ok (.if_icmp .ge 23, 3) := by decide +kernel
theorem dX7_init_78 : decode cX7_init 78 = .ok (.aload_n 0, 1) := by decide +kernel
theorem dX7_init_79 : decode cX7_init 79 = .ok (.getfield 31, 3) := by decide +kernel
theorem dX7_init_82 : decode cX7_init 82 = .ok (.iload_n 3, 1) := by decide +kernel
theorem dX7_init_83 : decode cX7_init 83 = .ok (.new 29, 3) := by decide +kernel
theorem dX7_init_86 : decode cX7_init 86 = .ok (.dup, 1) := by decide +kernel
theorem dX7_init_87 : decode cX7_init 87 = .ok (.iload_n 3, 1) := by decide +kernel
theorem dX7_init_88 : decode cX7_init 88 = .ok (.invokespecial 35, 3) := by decide +kernel
theorem dX7_init_91 : decode cX7_init 91 = .ok (.aastore, 1) := by decide +kernel
theorem dX7_init_92 : decode cX7_init 92 = .ok (.iinc 3 1, 3) := by decide +kernel
theorem dX7_init_95 : decode cX7_init 95 = .ok (.goto (-22), 3) := by decide +kernel
theorem dX7_init_98 : decode cX7_init 98 = .ok (.aload_n 0, 1) := by decide +kernel
theorem dX7_init_99 : decode cX7_init 99 = .ok (.bipush 16, 2) := by decide +kernel
theorem dX7_init_101 : decode cX7_init 101 = .ok (.anewarray 38, 3) := by decide +kernel
theorem dX7_init_104 : decode cX7_init 104 = .ok (.putfield 40, 3) := by decide +kernel
theorem dX7_init_107 : decode cX7_init 107 = .ok (.aload_n 0, 1) := by decide +kernel
theorem dX7_init_108 : decode cX7_init 108 = .ok (.getfield 40, 3) := by decide +kernel
theorem dX7_init_111 : decode cX7_init 111 = .ok (.iconst 0, 1) := by decide +kernel
theorem dX7_init_112 : decode cX7_init 112 = .ok (.new 38, 3) := by decide +kernel
theorem dX7_init_115 : decode cX7_init 115 = .ok (.dup, 1) := by decide +kernel
theorem dX7_init_116 : decode cX7_init 116 = .ok (.aload_n 0, 1) := by decide +kernel
theorem dX7_init_117 : decode cX7_init 117 = .ok (.getfield 24, 3) := by decide +kernel
theorem dX7_init_120 : decode cX7_init 120 = .ok (.invokevirtual 44, 3) := by decide +kernel
theorem dX7_init_123 : decode cX7_init 123 = .ok (.checkcast 45, 3) := by decide +kernel
theorem dX7_init_126 : decode cX7_init 126 = .ok (.iload_n 2, 1) := by decide +kernel
theorem dX7_init_127 : decode cX7_init 127 = .ok (.iconst 2, 1) := by decide +kernel
theorem dX7_init_128 : decode cX7_init 128 = .ok (.idiv, 1) := by decide +kernel
theorem dX7_init_129 : decode cX7_init 129 = .ok (.iconst 1, 1) := by decide +kernel
theorem dX7_init_130 : decode cX7_init 130 = .ok (.iadd, 1) := by decide +kernel
theorem dX7_init_131 : decode cX7_init 131 = .ok (.iload_n 2, 1) := by decide +kernel
theorem dX7_init_132 : decode cX7_init 132 = .ok (.iconst 2, 1) := by decide +kernel
theorem dX7_init_133 : decode cX7_init 133 = .ok (.idiv, 1) := by decide +kernel
theorem dX7_init_134 : decode cX7_init 134 = .ok (.iconst 1, 1) := by decide +kernel
theorem dX7_init_135 : decode cX7_init 135 = .ok (.iadd, 1) := by decide +kernel
theorem dX7_init_136 : decode cX7_init 136 = .ok (.invokespecial 49, 3) := by decide +kernel
theorem dX7_init_139 : decode cX7_init 139 = .ok (.aastore, 1) := by decide +kernel
theorem dX7_init_140 : decode cX7_init 140 = .ok (.aload_n 0, 1) := by decide +kernel
theorem dX7_init_141 : decode cX7_init 141 = .ok (.iconst 1, 1) := by decide +kernel
theorem dX7_init_142 : decode cX7_init 142 = .ok (.putfield 52, 3) := by decide +kernel
theorem dX7_init_145 : decode cX7_init 145 = .ok (.aload_n 0, 1) := by decide +kernel
theorem dX7_init_146 : decode cX7_init 146 = .ok (.sipush 200, 3) := by decide +kernel
theorem dX7_init_149 : decode cX7_init 149 = .ok (.anewarray 56, 3) := by decide +kernel
theorem dX7_init_152 : decode cX7_init 152 = .ok (.putfield 58, 3) := by decide +kernel
theorem dX7_init_155 : decode cX7_init 155 = .ok (.aload_n 0, 1) := by decide +kernel
theorem dX7_init_156 : decode cX7_init 156 = .ok (.new 62, 3) := by decide +kernel
theorem dX7_init_159 : decode cX7_init 159 = .ok (.dup, 1) := by decide +kernel
theorem dX7_init_160 : decode cX7_init 160 = .ok (.invokespecial 64, 3) := by decide +kernel
theorem dX7_init_163 : decode cX7_init 163 = .ok (.putfield 65, 3) := by decide +kernel
theorem dX7_init_166 : decode cX7_init 166 = .ok (.return_, 1) := by decide +kernel
theorem dX7_votes_0 : decode cX7_votes 0 = .ok (.iload_n 1, 1) := by decide +kernel
theorem dX7_votes_1 : decode cX7_votes 1 = .ok (.ifCond .lt 22, 3) := by decide +kernel
theorem dX7_votes_4 : decode cX7_votes 4 = .ok (.iload_n 1, 1) := by decide +kernel
theorem dX7_votes_5 : decode cX7_votes 5 = .ok (.aload_n 0, 1) := by decide +kernel
theorem dX7_votes_6 : decode cX7_votes 6 = .ok (.getfield 24, 3) := by decide +kernel
theorem dX7_votes_9 : decode cX7_votes 9 = .ok (.arraylength, 1) := by decide +kernel
theorem dX7_votes_10 : decode cX7_votes 10 = .ok (.if_icmp .ge 13, 3) := by decide +kernel
theorem dX7_votes_13 : decode cX7_votes 13 = .ok (.iload_n 2, 1) := by decide +kernel
theorem dX7_votes_14 : decode cX7_votes 14 = .ok (.ifCond .lt 9, 3) := by decide +kernel
theorem dX7_votes_17 : decode cX7_votes 17 = .ok (.iload_n 2, 1) := by decide +kernel
theorem dX7_votes_18 : decode cX7_votes 18 = .ok (.bipush 9, 2) := by decide +kernel
theorem dX7_votes_20 : decode cX7_votes 20 = .ok (.if_icmp .le 5, 3) := by decide +kernel
theorem dX7_votes_23 : decode cX7_votes 23 = .ok (.iconst 0, 1) := by decide +kernel
theorem dX7_votes_24 : decode cX7_votes 24 = .ok (.ireturn, 1) := by decide +kernel
theorem dX7_votes_25 : decode cX7_votes 25 = .ok (.aload_n 0, 1) := by decide +kernel
theorem dX7_votes_26 : decode cX7_votes 26 = .ok (.getfield 24, 3) := by decide +kernel
theorem dX7_votes_29 : decode cX7_votes 29 = .ok (.iload_n 1, 1) := by decide +kernel
theorem dX7_votes_30 : decode cX7_votes 30 = .ok (.iload_n 2, 1) := by decide +kernel
theorem dX7_votes_31 : decode cX7_votes 31 = .ok (.iastore, 1) := by decide +kernel
theorem dX7_votes_32 : decode cX7_votes 32 = .ok (.iconst 1, 1) := by decide +kernel
theorem dX7_votes_33 : decode cX7_votes 33 = .ok (.ireturn, 1) := by decide +kernel
theorem dX7_change_0 : decode cX7_change 0 = .ok (.aload_n 0, 1) := by decide +kernel
theorem dX7_change_1 : decode cX7_change 1 = .ok (.iconst 0, 1) := by decide +kernel
theorem dX7_change_2 : decode cX7_change 2 = .ok (.invokevirtual 69, 3) := by decide +kernel
theorem dX7_change_5 : decode cX7_change 5 = .ok (.astore_n 3, 1) := by decide +kernel
theorem dX7_change_6 : decode cX7_change 6 = .ok (.aload_n 3, 1) := by decide +kernel
theorem dX7_change_7 : decode cX7_change 7 = .ok (.ifnull 22, 3) := by decide +kernel
theorem dX7_change_10 : decode cX7_change 10 = .ok (.aload_n 0, 1) := by decide +kernel
theorem dX7_change_11 : decode cX7_change 11 = .ok (.aload_n 3, 1) := by decide +kernel
theorem dX7_change_12 : decode cX7_change 12 = .ok (.invokevirtual 73, 3) := by decide +kernel
theorem dX7_change_15 : decode cX7_change 15 = .ok (.ifCond .eq 14, 3) := by decide +kernel
theorem dX7_change_18 : decode cX7_change 18 = .ok (.aload_n 3, 1) := by decide +kernel
theorem dX7_change_19 : decode cX7_change 19 = .ok (.getfield 77, 3) := by decide +kernel
theorem dX7_change_22 : decode cX7_change 22 = .ok (.aload_n 3, 1) := by decide +kernel
theorem dX7_change_23 : decode cX7_change 23 = .ok (.getfield 80, 3) := by decide +kernel
theorem dX7_change_26 : decode cX7_change 26 = .ok (.if_icmp .ge 5, 3) := by decide +kernel
theorem dX7_change_29 : decode cX7_change 29 = .ok (.iconst (-1), 1) := by decide +kernel
theorem dX7_change_30 : decode cX7_change 30 = .ok (.ireturn, 1) := by decide +kernel
theorem dX7_change_31 : decode cX7_change 31 = .ok (.aload_n 0, 1) := by decide +kernel
theorem dX7_change_32 : decode cX7_change 32 = .ok (.getfield 52, 3) := by decide +kernel
theorem dX7_change_35 : decode cX7_change 35 = .ok (.aload_n 0, 1) := by decide +kernel
theorem dX7_change_36 : decode cX7_change 36 = .ok (.getfield 40, 3) := by decide +kernel
theorem dX7_change_39 : decode cX7_change 39 = .ok (.arraylength, 1) := by decide +kernel
theorem dX7_change_40 : decode cX7_change 40 = .ok (.if_icmp .ge 15, 3) := by decide +kernel
theorem dX7_change_43 : decode cX7_change 43 = .ok (.aload_n 0, 1) := by decide +kernel
theorem dX7_change_44 : decode cX7_change 44 = .ok (.getfield 24, 3) := by decide +kernel
theorem dX7_change_47 : decode cX7_change 47 = .ok (.iload_n 1, 1) := by decide +kernel
theorem dX7_change_48 : decode cX7_change 48 = .ok (.iload_n 2, 1) := by decide +kernel
theorem dX7_change_49 : decode cX7_change 49 = .ok (.invokestatic 83, 3) := by decide +kernel
theorem dX7_change_52 : decode cX7_change 52 = .ok (.ifCond .ne 5, 3) := by decide +kernel
theorem dX7_change_55 : decode cX7_change 55 = .ok (.iconst (-1), 1) := by decide +kernel
theorem dX7_change_56 : decode cX7_change 56 = .ok (.ireturn, 1) := by decide +kernel
theorem dX7_change_57 : decode cX7_change 57 = .ok (.aload_n 0, 1) := by decide +kernel
theorem dX7_change_58 : decode cX7_change 58 = .ok (.getfield 52, 3) := by decide +kernel
theorem dX7_change_61 : decode cX7_change 61 = .ok (.istore 4, 2) := by decide +kernel
theorem dX7_change_63 : decode cX7_change 63 = .ok (.aload_n 0, 1) := by decide +kernel
theorem dX7_change_64 : decode cX7_change 64 = .ok (.getfield 40, 3) := by decide +kernel
theorem dX7_change_67 : decode cX7_change 67 = .ok (.iload 4, 2) := by decide +kernel
theorem dX7_change_69 : decode cX7_change 69 = .ok (.new 38, 3) := by decide +kernel
theorem dX7_change_72 : decode cX7_change 72 = .ok (.dup, 1) := by decide +kernel
theorem dX7_change_73 : decode cX7_change 73 = .ok (.aload_n 0, 1) := by decide +kernel
theorem dX7_change_74 : decode cX7_change 74 = .ok (.getfield 24, 3) := by decide +kernel
theorem dX7_change_77 : decode cX7_change 77 = .ok (.invokevirtual 44, 3) := by decide +kernel
theorem dX7_change_80 : decode cX7_change 80 = .ok (.checkcast 45, 3) := by decide +kernel
theorem dX7_change_83 : decode cX7_change 83 = .ok (.iload_n 1, 1) := by decide +kernel
theorem dX7_change_84 : decode cX7_change 84 = .ok (.iload_n 2, 1) := by decide +kernel
theorem dX7_change_85 : decode cX7_change 85 = .ok (.invokespecial 49, 3) := by decide +kernel
theorem dX7_change_88 : decode cX7_change 88 = .ok (.aastore, 1) := by decide +kernel
theorem dX7_change_89 : decode cX7_change 89 = .ok (.aload_n 0, 1) := by decide +kernel
theorem dX7_change_90 : decode cX7_change 90 = .ok (.dup, 1) := by decide +kernel
theorem dX7_change_91 : decode cX7_change 91 = .ok (.getfield 52, 3) := by decide +kernel
theorem dX7_change_94 : decode cX7_change 94 = .ok (.iconst 1, 1) := by decide +kernel
theorem dX7_change_95 : decode cX7_change 95 = .ok (.iadd, 1) := by decide +kernel
theorem dX7_change_96 : decode cX7_change 96 = .ok (.putfield 52, 3) := by decide +kernel
theorem dX7_change_99 : decode cX7_change 99 = .ok (.aload_n 0, 1) := by decide +kernel
theorem dX7_change_100 : decode cX7_change 100 = .ok (.aload_n 3, 1) := by decide +kernel
theorem dX7_change_101 : decode cX7_change 101 = .ok (.iload 4, 2) := by decide +kernel
theorem dX7_change_103 : decode cX7_change 103 = .ok (.invokevirtual 87, 3) := by decide +kernel
theorem dX7_change_106 : decode cX7_change 106 = .ok (.ireturn, 1) := by decide +kernel
theorem dX7_resume_0 : decode cX7_resume 0 = .ok (.aload_n 0, 1) := by decide +kernel
theorem dX7_resume_1 : decode cX7_resume 1 = .ok (.iconst 0, 1) := by decide +kernel
theorem dX7_resume_2 : decode cX7_resume 2 = .ok (.invokevirtual 69, 3) := by decide +kernel
theorem dX7_resume_5 : decode cX7_resume 5 = .ok (.astore_n 1, 1) := by decide +kernel
theorem dX7_resume_6 : decode cX7_resume 6 = .ok (.aload_n 1, 1) := by decide +kernel
theorem dX7_resume_7 : decode cX7_resume 7 = .ok (.ifnull 22, 3) := by decide +kernel
theorem dX7_resume_10 : decode cX7_resume 10 = .ok (.aload_n 0, 1) := by decide +kernel
theorem dX7_resume_11 : decode cX7_resume 11 = .ok (.aload_n 1, 1) := by decide +kernel
theorem dX7_resume_12 : decode cX7_resume 12 = .ok (.invokevirtual 73, 3) := by decide +kernel
theorem dX7_resume_15 : decode cX7_resume 15 = .ok (.ifCond .eq 14, 3) := by decide +kernel
theorem dX7_resume_18 : decode cX7_resume 18 = .ok (.aload_n 1, 1) := by decide +kernel
theorem dX7_resume_19 : decode cX7_resume 19 = .ok (.getfield 77, 3) := by decide +kernel
theorem dX7_resume_22 : decode cX7_resume 22 = .ok (.aload_n 1, 1) := by decide +kernel
theorem dX7_resume_23 : decode cX7_resume 23 = .ok (.getfield 80, 3) := by decide +kernel
theorem dX7_resume_26 : decode cX7_resume 26 = .ok (.if_icmp .lt 5, 3) := by decide +kernel
theorem dX7_resume_29 : decode cX7_resume 29 = .ok (.iconst (-1), 1) := by decide +kernel
theorem dX7_resume_30 : decode cX7_resume 30 = .ok (.ireturn, 1) := by decide +kernel
theorem dX7_resume_31 : decode cX7_resume 31 = .ok (.aload_n 0, 1) := by decide +kernel
theorem dX7_resume_32 : decode cX7_resume 32 = .ok (.aload_n 1, 1) := by decide +kernel
theorem dX7_resume_33 : decode cX7_resume 33 = .ok (.aload_n 1, 1) := by decide +kernel
theorem dX7_resume_34 : decode cX7_resume 34 = .ok (.getfield 80, 3) := by decide +kernel
theorem dX7_resume_37 : decode cX7_resume 37 = .ok (.invokevirtual 87, 3) := by decide +kernel
theorem dX7_resume_40 : decode cX7_resume 40 = .ok (.ireturn, 1) := by decide +kernel
theorem dX7_read_0 : decode cX7_read 0 = .ok (.aload_n 0, 1) := by decide +kernel
theorem dX7_read_1 : decode cX7_read 1 = .ok (.iload_n 1, 1) := by decide +kernel
theorem dX7_read_2 : decode cX7_read 2 = .ok (.invokevirtual 69, 3) := by decide +kernel
theorem dX7_read_5 : decode cX7_read 5 = .ok (.astore_n 2, 1) := by decide +kernel
theorem dX7_read_6 : decode cX7_read 6 = .ok (.aload_n 2, 1) := by decide +kernel
theorem dX7_read_7 : decode cX7_read 7 = .ok (.ifnull 11, 3) := by decide +kernel
theorem dX7_read_10 : decode cX7_read 10 = .ok (.aload_n 0, 1) := by decide +kernel
theorem dX7_read_11 : decode cX7_read 11 = .ok (.aload_n 2, 1) := by decide +kernel
theorem dX7_read_12 : decode cX7_read 12 = .ok (.invokevirtual 73, 3) := by decide +kernel
theorem dX7_read_15 : decode cX7_read 15 = .ok (.ifCond .ne 5, 3) := by decide +kernel
theorem dX7_read_18 : decode cX7_read 18 = .ok (.iconst (-1), 1) := by decide +kernel
theorem dX7_read_19 : decode cX7_read 19 = .ok (.ireturn, 1) := by decide +kernel
theorem dX7_read_20 : decode cX7_read 20 = .ok (.aload_n 0, 1) := by decide +kernel
theorem dX7_read_21 : decode cX7_read 21 = .ok (.aload_n 2, 1) := by decide +kernel
theorem dX7_read_22 : decode cX7_read 22 = .ok (.new 56, 3) := by decide +kernel
theorem dX7_read_25 : decode cX7_read 25 = .ok (.dup, 1) := by decide +kernel
theorem dX7_read_26 : decode cX7_read 26 = .ok (.aload_n 0, 1) := by decide +kernel
theorem dX7_read_27 : decode cX7_read 27 = .ok (.getfield 91, 3) := by decide +kernel
theorem dX7_read_30 : decode cX7_read 30 = .ok (.iconst 1, 1) := by decide +kernel
theorem dX7_read_31 : decode cX7_read 31 = .ok (.iadd, 1) := by decide +kernel
theorem dX7_read_32 : decode cX7_read 32 = .ok (.iconst 0, 1) := by decide +kernel
theorem dX7_read_33 : decode cX7_read 33 = .ok (.iload_n 1, 1) := by decide +kernel
theorem dX7_read_34 : decode cX7_read 34 = .ok (.invokespecial 94, 3) := by decide +kernel
theorem dX7_read_37 : decode cX7_read 37 = .ok (.iconst 1, 1) := by decide +kernel
theorem dX7_read_38 : decode cX7_read 38 = .ok (.invokevirtual 97, 3) := by decide +kernel
theorem dX7_read_41 : decode cX7_read 41 = .ok (.ireturn, 1) := by decide +kernel
theorem dX7_write_0 : decode cX7_write 0 = .ok (.aload_n 0, 1) := by decide +kernel
theorem dX7_write_1 : decode cX7_write 1 = .ok (.iload_n 1, 1) := by decide +kernel
theorem dX7_write_2 : decode cX7_write 2 = .ok (.invokevirtual 69, 3) := by decide +kernel
theorem dX7_write_5 : decode cX7_write 5 = .ok (.astore 4, 2) := by decide +kernel
theorem dX7_write_7 : decode cX7_write 7 = .ok (.aload 4, 2) := by decide +kernel
theorem dX7_write_9 : decode cX7_write 9 = .ok (.ifnull 12, 3) := by decide +kernel
theorem dX7_write_12 : decode cX7_write 12 = .ok (.aload_n 0, 1) := by decide +kernel
theorem dX7_write_13 : decode cX7_write 13 = .ok (.aload 4, 2) := by decide +kernel
theorem dX7_write_15 : decode cX7_write 15 = .ok (.invokevirtual 73, 3) := by decide +kernel
theorem dX7_write_18 : decode cX7_write 18 = .ok (.ifCond .ne 5, 3) := by decide +kernel
theorem dX7_write_21 : decode cX7_write 21 = .ok (.iconst (-1), 1) := by decide +kernel
theorem dX7_write_22 : decode cX7_write 22 = .ok (.ireturn, 1) := by decide +kernel
theorem dX7_write_23 : decode cX7_write 23 = .ok (.new 56, 3) := by decide +kernel
theorem dX7_write_26 : decode cX7_write 26 = .ok (.dup, 1) := by decide +kernel
theorem dX7_write_27 : decode cX7_write 27 = .ok (.aload_n 0, 1) := by decide +kernel
theorem dX7_write_28 : decode cX7_write 28 = .ok (.getfield 91, 3) := by decide +kernel
theorem dX7_write_31 : decode cX7_write 31 = .ok (.iconst 1, 1) := by decide +kernel
theorem dX7_write_32 : decode cX7_write 32 = .ok (.iadd, 1) := by decide +kernel
theorem dX7_write_33 : decode cX7_write 33 = .ok (.iconst 1, 1) := by decide +kernel
theorem dX7_write_34 : decode cX7_write 34 = .ok (.iload_n 1, 1) := by decide +kernel
theorem dX7_write_35 : decode cX7_write 35 = .ok (.invokespecial 94, 3) := by decide +kernel
theorem dX7_write_38 : decode cX7_write 38 = .ok (.astore 5, 2) := by decide +kernel
theorem dX7_write_40 : decode cX7_write 40 = .ok (.aload 5, 2) := by decide +kernel
theorem dX7_write_42 : decode cX7_write 42 = .ok (.lload_n 2, 1) := by decide +kernel
theorem dX7_write_43 : decode cX7_write 43 = .ok (.putfield 101, 3) := by decide +kernel
theorem dX7_write_46 : decode cX7_write 46 = .ok (.aload_n 0, 1) := by decide +kernel
theorem dX7_write_47 : decode cX7_write 47 = .ok (.aload 4, 2) := by decide +kernel
theorem dX7_write_49 : decode cX7_write 49 = .ok (.aload 5, 2) := by decide +kernel
theorem dX7_write_51 : decode cX7_write 51 = .ok (.iconst 1, 1) := by decide +kernel
theorem dX7_write_52 : decode cX7_write 52 = .ok (.invokevirtual 97, 3) := by decide +kernel
theorem dX7_write_55 : decode cX7_write 55 = .ok (.ireturn, 1) := by decide +kernel
end
section
theorem dX7_again_0 : decode cX7_again 0 = .ok (.aload_n 0, 1) := by decide +kernel
theorem dX7_again_1 : decode cX7_again 1 = .ok (.iload_n 1, 1) := by decide +kernel
theorem dX7_again_2 : decode cX7_again 2 = .ok (.invokevirtual 69, 3) := by decide +kernel
theorem dX7_again_5 : decode cX7_again 5 = .ok (.astore_n 2, 1) := by decide +kernel
theorem dX7_again_6 : decode cX7_again 6 = .ok (.aload_n 2, 1) := by decide +kernel
theorem dX7_again_7 : decode cX7_again 7 = .ok (.ifnull 10, 3) := by decide +kernel
theorem dX7_again_10 : decode cX7_again 10 = .ok (.aload_n 2, 1) := by decide +kernel
theorem dX7_again_11 : decode cX7_again 11 = .ok (.getfield 105, 3) := by decide +kernel
theorem dX7_again_14 : decode cX7_again 14 = .ok (.ifnonnull 5, 3) := by decide +kernel
theorem dX7_again_17 : decode cX7_again 17 = .ok (.iconst (-1), 1) := by decide +kernel
theorem dX7_again_18 : decode cX7_again 18 = .ok (.ireturn, 1) := by decide +kernel
theorem dX7_again_19 : decode cX7_again 19 = .ok (.aload_n 0, 1) := by decide +kernel
theorem dX7_again_20 : decode cX7_again 20 = .ok (.aload_n 2, 1) := by decide +kernel
theorem dX7_again_21 : decode cX7_again 21 = .ok (.aload_n 2, 1) := by decide +kernel
theorem dX7_again_22 : decode cX7_again 22 = .ok (.getfield 105, 3) := by decide +kernel
theorem dX7_again_25 : decode cX7_again 25 = .ok (.invokevirtual 109, 3) := by decide +kernel
theorem dX7_again_28 : decode cX7_again 28 = .ok (.ireturn, 1) := by decide +kernel
theorem dX7_halt_0 : decode cX7_halt 0 = .ok (.aload_n 0, 1) := by decide +kernel
theorem dX7_halt_1 : decode cX7_halt 1 = .ok (.iload_n 1, 1) := by decide +kernel
theorem dX7_halt_2 : decode cX7_halt 2 = .ok (.invokevirtual 69, 3) := by decide +kernel
theorem dX7_halt_5 : decode cX7_halt 5 = .ok (.astore_n 2, 1) := by decide +kernel
theorem dX7_halt_6 : decode cX7_halt 6 = .ok (.aload_n 2, 1) := by decide +kernel
theorem dX7_halt_7 : decode cX7_halt 7 = .ok (.ifnonnull 5, 3) := by decide +kernel
theorem dX7_halt_10 : decode cX7_halt 10 = .ok (.iconst (-1), 1) := by decide +kernel
theorem dX7_halt_11 : decode cX7_halt 11 = .ok (.ireturn, 1) := by decide +kernel
theorem dX7_halt_12 : decode cX7_halt 12 = .ok (.aload_n 2, 1) := by decide +kernel
theorem dX7_halt_13 : decode cX7_halt 13 = .ok (.getfield 105, 3) := by decide +kernel
theorem dX7_halt_16 : decode cX7_halt 16 = .ok (.astore_n 3, 1) := by decide +kernel
theorem dX7_halt_17 : decode cX7_halt 17 = .ok (.aload_n 3, 1) := by decide +kernel
theorem dX7_halt_18 : decode cX7_halt 18 = .ok (.ifnonnull 5, 3) := by decide +kernel
theorem dX7_halt_21 : decode cX7_halt 21 = .ok (.iconst (-1), 1) := by decide +kernel
theorem dX7_halt_22 : decode cX7_halt 22 = .ok (.ireturn, 1) := by decide +kernel
theorem dX7_halt_23 : decode cX7_halt 23 = .ok (.aload_n 0, 1) := by decide +kernel
theorem dX7_halt_24 : decode cX7_halt 24 = .ok (.dup, 1) := by decide +kernel
theorem dX7_halt_25 : decode cX7_halt 25 = .ok (.getfield 113, 3) := by decide +kernel
theorem dX7_halt_28 : decode cX7_halt 28 = .ok (.iconst 1, 1) := by decide +kernel
theorem dX7_halt_29 : decode cX7_halt 29 = .ok (.iadd, 1) := by decide +kernel
theorem dX7_halt_30 : decode cX7_halt 30 = .ok (.putfield 113, 3) := by decide +kernel
theorem dX7_halt_33 : decode cX7_halt 33 = .ok (.aload_n 2, 1) := by decide +kernel
theorem dX7_halt_34 : decode cX7_halt 34 = .ok (.invokevirtual 116, 3) := by decide +kernel
theorem dX7_halt_37 : decode cX7_halt 37 = .ok (.aload_n 3, 1) := by decide +kernel
theorem dX7_halt_38 : decode cX7_halt 38 = .ok (.getfield 119, 3) := by decide +kernel
theorem dX7_halt_41 : decode cX7_halt 41 = .ok (.ireturn, 1) := by decide +kernel
theorem dX7_deliver_0 : decode cX7_deliver 0 = .ok (.aload_n 0, 1) := by decide +kernel
theorem dX7_deliver_1 : decode cX7_deliver 1 = .ok (.getfield 65, 3) := by decide +kernel
theorem dX7_deliver_4 : decode cX7_deliver 4 = .ok (.iload_n 1, 1) := by decide +kernel
theorem dX7_deliver_5 : decode cX7_deliver 5 = .ok (.invokevirtual 122, 3) := by decide +kernel
theorem dX7_deliver_8 : decode cX7_deliver 8 = .ok (.astore_n 2, 1) := by decide +kernel
theorem dX7_deliver_9 : decode cX7_deliver 9 = .ok (.aload_n 2, 1) := by decide +kernel
theorem dX7_deliver_10 : decode cX7_deliver 10 = .ok (.ifnull 11, 3) := by decide +kernel
theorem dX7_deliver_13 : decode cX7_deliver 13 = .ok (.aload_n 0, 1) := by decide +kernel
theorem dX7_deliver_14 : decode cX7_deliver 14 = .ok (.aload_n 2, 1) := by decide +kernel
theorem dX7_deliver_15 : decode cX7_deliver 15 = .ok (.invokevirtual 126, 3) := by decide +kernel
theorem dX7_deliver_18 : decode cX7_deliver 18 = .ok (.ifCond .ne 5, 3) := by decide +kernel
theorem dX7_deliver_21 : decode cX7_deliver 21 = .ok (.iconst 0, 1) := by decide +kernel
theorem dX7_deliver_22 : decode cX7_deliver 22 = .ok (.ireturn, 1) := by decide +kernel
theorem dX7_deliver_23 : decode cX7_deliver 23 = .ok (.aload_n 0, 1) := by decide +kernel
theorem dX7_deliver_24 : decode cX7_deliver 24 = .ok (.getfield 65, 3) := by decide +kernel
theorem dX7_deliver_27 : decode cX7_deliver 27 = .ok (.iload_n 1, 1) := by decide +kernel
theorem dX7_deliver_28 : decode cX7_deliver 28 = .ok (.invokevirtual 130, 3) := by decide +kernel
theorem dX7_deliver_31 : decode cX7_deliver 31 = .ok (.pop, 1) := by decide +kernel
theorem dX7_deliver_32 : decode cX7_deliver 32 = .ok (.aload_n 0, 1) := by decide +kernel
theorem dX7_deliver_33 : decode cX7_deliver 33 = .ok (.dup, 1) := by decide +kernel
theorem dX7_deliver_34 : decode cX7_deliver 34 = .ok (.getfield 113, 3) := by decide +kernel
theorem dX7_deliver_37 : decode cX7_deliver 37 = .ok (.iconst 1, 1) := by decide +kernel
theorem dX7_deliver_38 : decode cX7_deliver 38 = .ok (.iadd, 1) := by decide +kernel
theorem dX7_deliver_39 : decode cX7_deliver 39 = .ok (.putfield 113, 3) := by decide +kernel
theorem dX7_deliver_42 : decode cX7_deliver 42 = .ok (.aload_n 2, 1) := by decide +kernel
theorem dX7_deliver_43 : decode cX7_deliver 43 = .ok (.getfield 134, 3) := by decide +kernel
theorem dX7_deliver_46 : decode cX7_deliver 46 = .ok (.ifCond .eq 11, 3) := by decide +kernel
theorem dX7_deliver_49 : decode cX7_deliver 49 = .ok (.aload_n 0, 1) := by decide +kernel
theorem dX7_deliver_50 : decode cX7_deliver 50 = .ok (.aload_n 2, 1) := by decide +kernel
theorem dX7_deliver_51 : decode cX7_deliver 51 = .ok (.invokevirtual 140, 3) := by decide +kernel
theorem dX7_deliver_54 : decode cX7_deliver 54 = .ok (.goto 8, 3) := by decide +kernel
theorem dX7_deliver_57 : decode cX7_deliver 57 = .ok (.aload_n 0, 1) := by decide +kernel
theorem dX7_deliver_58 : decode cX7_deliver 58 = .ok (.aload_n 2, 1) := by decide +kernel
theorem dX7_deliver_59 : decode cX7_deliver 59 = .ok (.invokevirtual 144, 3) := by decide +kernel
theorem dX7_deliver_62 : decode cX7_deliver 62 = .ok (.iconst 1, 1) := by decide +kernel
theorem dX7_deliver_63 : decode cX7_deliver 63 = .ok (.ireturn, 1) := by decide +kernel
theorem dX7_settle_0 : decode cX7_settle 0 = .ok (.iload_n 1, 1) := by decide +kernel
theorem dX7_settle_1 : decode cX7_settle 1 = .ok (.ifCond .ge 5, 3) := by decide +kernel
theorem dX7_settle_4 : decode cX7_settle 4 = .ok (.iconst (-1), 1) := by decide +kernel
theorem dX7_settle_5 : decode cX7_settle 5 = .ok (.ireturn, 1) := by decide +kernel
theorem dX7_settle_6 : decode cX7_settle 6 = .ok (.iconst 0, 1) := by decide +kernel
theorem dX7_settle_7 : decode cX7_settle 7 = .ok (.istore_n 2, 1) := by decide +kernel
theorem dX7_settle_8 : decode cX7_settle 8 = .ok (.iconst 0, 1) := by decide +kernel
theorem dX7_settle_9 : decode cX7_settle 9 = .ok (.istore_n 3, 1) := by decide +kernel
theorem dX7_settle_10 : decode cX7_settle 10 = .ok (.iconst 0, 1) := by decide +kernel
theorem dX7_settle_11 : decode cX7_settle 11 = .ok (.istore 4, 2) := by decide +kernel
theorem dX7_settle_13 : decode cX7_settle 13 = .ok (.iload 4, 2) := by decide +kernel
theorem dX7_settle_15 : decode cX7_settle 15 = .ok (.ldc 147, 2) := by decide +kernel
theorem dX7_settle_17 : decode cX7_settle 17 = .ok (.if_icmp .ge 42, 3) := by decide +kernel
theorem dX7_settle_20 : decode cX7_settle 20 = .ok (.iload_n 2, 1) := by decide +kernel
theorem dX7_settle_21 : decode cX7_settle 21 = .ok (.iload_n 1, 1) := by decide +kernel
theorem dX7_settle_22 : decode cX7_settle 22 = .ok (.if_icmp .ge 37, 3) := by decide +kernel
theorem dX7_settle_25 : decode cX7_settle 25 = .ok (.iload_n 3, 1) := by decide +kernel
theorem dX7_settle_26 : decode cX7_settle 26 = .ok (.aload_n 0, 1) := by decide +kernel
theorem dX7_settle_27 : decode cX7_settle 27 = .ok (.getfield 65, 3) := by decide +kernel
theorem dX7_settle_30 : decode cX7_settle 30 = .ok (.getfield 148, 3) := by decide +kernel
theorem dX7_settle_33 : decode cX7_settle 33 = .ok (.if_icmp .ge 26, 3) := by decide +kernel
theorem dX7_settle_36 : decode cX7_settle 36 = .ok (.aload_n 0, 1) := by decide +kernel
theorem dX7_settle_37 : decode cX7_settle 37 = .ok (.iload_n 3, 1) := by decide +kernel
theorem dX7_settle_38 : decode cX7_settle 38 = .ok (.invokevirtual 151, 3) := by decide +kernel
theorem dX7_settle_41 : decode cX7_settle 41 = .ok (.ifCond .eq 9, 3) := by decide +kernel
theorem dX7_settle_44 : decode cX7_settle 44 = .ok (.iinc 2 1, 3) := by decide +kernel
theorem dX7_settle_47 : decode cX7_settle 47 = .ok (.goto 6, 3) := by decide +kernel
theorem dX7_settle_50 : decode cX7_settle 50 = .ok (.iinc 3 1, 3) := by decide +kernel
theorem dX7_settle_53 : decode cX7_settle 53 = .ok (.iinc 4 1, 3) := by decide +kernel
theorem dX7_settle_56 : decode cX7_settle 56 = .ok (.goto (-43), 3) := by decide +kernel
theorem dX7_settle_59 : decode cX7_settle 59 = .ok (.iload_n 2, 1) := by decide +kernel
theorem dX7_settle_60 : decode cX7_settle 60 = .ok (.ireturn, 1) := by decide +kernel
theorem dX7_lose_0 : decode cX7_lose 0 = .ok (.aload_n 0, 1) := by decide +kernel
theorem dX7_lose_1 : decode cX7_lose 1 = .ok (.getfield 65, 3) := by decide +kernel
theorem dX7_lose_4 : decode cX7_lose 4 = .ok (.iload_n 1, 1) := by decide +kernel
theorem dX7_lose_5 : decode cX7_lose 5 = .ok (.invokevirtual 130, 3) := by decide +kernel
theorem dX7_lose_8 : decode cX7_lose 8 = .ok (.ireturn, 1) := by decide +kernel
theorem dX7_twice_0 : decode cX7_twice 0 = .ok (.aload_n 0, 1) := by decide +kernel
theorem dX7_twice_1 : decode cX7_twice 1 = .ok (.getfield 65, 3) := by decide +kernel
theorem dX7_twice_4 : decode cX7_twice 4 = .ok (.iload_n 1, 1) := by decide +kernel
theorem dX7_twice_5 : decode cX7_twice 5 = .ok (.invokevirtual 122, 3) := by decide +kernel
theorem dX7_twice_8 : decode cX7_twice 8 = .ok (.astore_n 2, 1) := by decide +kernel
theorem dX7_twice_9 : decode cX7_twice 9 = .ok (.aload_n 2, 1) := by decide +kernel
theorem dX7_twice_10 : decode cX7_twice 10 = .ok (.ifnull 16, 3) := by decide +kernel
theorem dX7_twice_13 : decode cX7_twice 13 = .ok (.aload_n 0, 1) := by decide +kernel
theorem dX7_twice_14 : decode cX7_twice 14 = .ok (.getfield 65, 3) := by decide +kernel
theorem dX7_twice_17 : decode cX7_twice 17 = .ok (.getfield 148, 3) := by decide +kernel
theorem dX7_twice_20 : decode cX7_twice 20 = .ok (.sipush 300, 3) := by decide +kernel
theorem dX7_twice_23 : decode cX7_twice 23 = .ok (.if_icmp .lt 5, 3) := by decide +kernel
theorem dX7_twice_26 : decode cX7_twice 26 = .ok (.iconst 0, 1) := by decide +kernel
theorem dX7_twice_27 : decode cX7_twice 27 = .ok (.ireturn, 1) := by decide +kernel
theorem dX7_twice_28 : decode cX7_twice 28 = .ok (.aload_n 0, 1) := by decide +kernel
theorem dX7_twice_29 : decode cX7_twice 29 = .ok (.getfield 65, 3) := by decide +kernel
theorem dX7_twice_32 : decode cX7_twice 32 = .ok (.invokevirtual 154, 3) := by decide +kernel
theorem dX7_twice_35 : decode cX7_twice 35 = .ok (.astore_n 3, 1) := by decide +kernel
theorem dX7_twice_36 : decode cX7_twice 36 = .ok (.aload_n 3, 1) := by decide +kernel
theorem dX7_twice_37 : decode cX7_twice 37 = .ok (.ifnonnull 5, 3) := by decide +kernel
theorem dX7_twice_40 : decode cX7_twice 40 = .ok (.iconst 0, 1) := by decide +kernel
theorem dX7_twice_41 : decode cX7_twice 41 = .ok (.ireturn, 1) := by decide +kernel
theorem dX7_twice_42 : decode cX7_twice 42 = .ok (.aload_n 3, 1) := by decide +kernel
theorem dX7_twice_43 : decode cX7_twice 43 = .ok (.aload_n 2, 1) := by decide +kernel
theorem dX7_twice_44 : decode cX7_twice 44 = .ok (.invokevirtual 158, 3) := by decide +kernel
theorem dX7_twice_47 : decode cX7_twice 47 = .ok (.iconst 1, 1) := by decide +kernel
theorem dX7_twice_48 : decode cX7_twice 48 = .ok (.ireturn, 1) := by decide +kernel
theorem dX7_silent_0 : decode cX7_silent 0 = .ok (.aload_n 0, 1) := by decide +kernel
theorem dX7_silent_1 : decode cX7_silent 1 = .ok (.iload_n 1, 1) := by decide +kernel
theorem dX7_silent_2 : decode cX7_silent 2 = .ok (.invokevirtual 161, 3) := by decide +kernel
theorem dX7_silent_5 : decode cX7_silent 5 = .ok (.astore_n 3, 1) := by decide +kernel
theorem dX7_silent_6 : decode cX7_silent 6 = .ok (.aload_n 3, 1) := by decide +kernel
theorem dX7_silent_7 : decode cX7_silent 7 = .ok (.ifnonnull 5, 3) := by decide +kernel
theorem dX7_silent_10 : decode cX7_silent 10 = .ok (.iconst 0, 1) := by decide +kernel
theorem dX7_silent_11 : decode cX7_silent 11 = .ok (.ireturn, 1) := by decide +kernel
theorem dX7_silent_12 : decode cX7_silent 12 = .ok (.aload_n 3, 1) := by decide +kernel
theorem dX7_silent_13 : decode cX7_silent 13 = .ok (.iload_n 2, 1) := by decide +kernel
theorem dX7_silent_14 : decode cX7_silent 14 = .ok (.putfield 165, 3) := by decide +kernel
theorem dX7_silent_17 : decode cX7_silent 17 = .ok (.iconst 1, 1) := by decide +kernel
theorem dX7_silent_18 : decode cX7_silent 18 = .ok (.ireturn, 1) := by decide +kernel
theorem dX7_side_0 : decode cX7_side 0 = .ok (.iload_n 2, 1) := by decide +kernel
theorem dX7_side_1 : decode cX7_side 1 = .ok (.ifCond .lt 8, 3) := by decide +kernel
theorem dX7_side_4 : decode cX7_side 4 = .ok (.iload_n 2, 1) := by decide +kernel
theorem dX7_side_5 : decode cX7_side 5 = .ok (.iconst 4, 1) := by decide +kernel
theorem dX7_side_6 : decode cX7_side 6 = .ok (.if_icmp .lt 5, 3) := by decide +kernel
theorem dX7_side_9 : decode cX7_side 9 = .ok (.iconst 0, 1) := by decide +kernel
theorem dX7_side_10 : decode cX7_side 10 = .ok (.ireturn, 1) := by decide +kernel
theorem dX7_side_11 : decode cX7_side 11 = .ok (.aload_n 0, 1) := by decide +kernel
theorem dX7_side_12 : decode cX7_side 12 = .ok (.iload_n 1, 1) := by decide +kernel
theorem dX7_side_13 : decode cX7_side 13 = .ok (.invokevirtual 161, 3) := by decide +kernel
theorem dX7_side_16 : decode cX7_side 16 = .ok (.astore_n 3, 1) := by decide +kernel
theorem dX7_side_17 : decode cX7_side 17 = .ok (.aload_n 3, 1) := by decide +kernel
theorem dX7_side_18 : decode cX7_side 18 = .ok (.ifnull 10, 3) := by decide +kernel
theorem dX7_side_21 : decode cX7_side 21 = .ok (.aload_n 3, 1) := by decide +kernel
theorem dX7_side_22 : decode cX7_side 22 = .ok (.iload_n 2, 1) := by decide +kernel
theorem dX7_side_23 : decode cX7_side 23 = .ok (.putfield 168, 3) := by decide +kernel
theorem dX7_side_26 : decode cX7_side 26 = .ok (.iconst 1, 1) := by decide +kernel
theorem dX7_side_27 : decode cX7_side 27 = .ok (.ireturn, 1) := by decide +kernel
theorem dX7_side_28 : decode cX7_side 28 = .ok (.iload_n 1, 1) := by decide +kernel
theorem dX7_side_29 : decode cX7_side 29 = .ok (.bipush 10, 2) := by decide +kernel
theorem dX7_side_31 : decode cX7_side 31 = .ok (.if_icmp .ge 5, 3) := by decide +kernel
theorem dX7_side_34 : decode cX7_side 34 = .ok (.iconst 0, 1) := by decide +kernel
theorem dX7_side_35 : decode cX7_side 35 = .ok (.ireturn, 1) := by decide +kernel
theorem dX7_side_36 : decode cX7_side 36 = .ok (.aload_n 0, 1) := by decide +kernel
theorem dX7_side_37 : decode cX7_side 37 = .ok (.iload_n 1, 1) := by decide +kernel
theorem dX7_side_38 : decode cX7_side 38 = .ok (.bipush 10, 2) := by decide +kernel
theorem dX7_side_40 : decode cX7_side 40 = .ok (.isub, 1) := by decide +kernel
theorem dX7_side_41 : decode cX7_side 41 = .ok (.invokevirtual 69, 3) := by decide +kernel
theorem dX7_side_44 : decode cX7_side 44 = .ok (.astore 4, 2) := by decide +kernel
theorem dX7_side_46 : decode cX7_side 46 = .ok (.aload 4, 2) := by decide +kernel
theorem dX7_side_48 : decode cX7_side 48 = .ok (.ifnonnull 5, 3) := by decide +kernel
theorem dX7_side_51 : decode cX7_side 51 = .ok (.iconst 0, 1) := by decide +kernel
theorem dX7_side_52 : decode cX7_side 52 = .ok (.ireturn, 1) := by decide +kernel
theorem dX7_side_53 : decode cX7_side 53 = .ok (.aload 4, 2) := by decide +kernel
theorem dX7_side_55 : decode cX7_side 55 = .ok (.iload_n 2, 1) := by decide +kernel
theorem dX7_side_56 : decode cX7_side 56 = .ok (.putfield 171, 3) := by decide +kernel
theorem dX7_side_59 : decode cX7_side 59 = .ok (.iconst 1, 1) := by decide +kernel
theorem dX7_side_60 : decode cX7_side 60 = .ok (.ireturn, 1) := by decide +kernel
theorem dX7_copy_0 : decode cX7_copy 0 = .ok (.aload_n 0, 1) := by decide +kernel
theorem dX7_copy_1 : decode cX7_copy 1 = .ok (.iload_n 1, 1) := by decide +kernel
theorem dX7_copy_2 : decode cX7_copy 2 = .ok (.invokevirtual 161, 3) := by decide +kernel
theorem dX7_copy_5 : decode cX7_copy 5 = .ok (.astore_n 3, 1) := by decide +kernel
theorem dX7_copy_6 : decode cX7_copy 6 = .ok (.aload_n 3, 1) := by decide +kernel
theorem dX7_copy_7 : decode cX7_copy 7 = .ok (.ifnonnull 5, 3) := by decide +kernel
theorem dX7_copy_10 : decode cX7_copy 10 = .ok (.iconst (-1), 1) := by decide +kernel
theorem dX7_copy_11 : decode cX7_copy 11 = .ok (.ireturn, 1) := by decide +kernel
theorem dX7_copy_12 : decode cX7_copy 12 = .ok (.iload_n 2, 1) := by decide +kernel
theorem dX7_copy_13 : decode cX7_copy 13 = .ok (.tableswitch 83 0 5 #[39, 47, 55, 60, 65, 78], 39) := by decide +kernel
theorem dX7_copy_52 : decode cX7_copy 52 = .ok (.aload_n 3, 1) := by decide +kernel
theorem dX7_copy_53 : decode cX7_copy 53 = .ok (.getfield 172, 3) := by decide +kernel
theorem dX7_copy_56 : decode cX7_copy 56 = .ok (.getfield 176, 3) := by decide +kernel
theorem dX7_copy_59 : decode cX7_copy 59 = .ok (.ireturn, 1) := by decide +kernel
theorem dX7_copy_60 : decode cX7_copy 60 = .ok (.aload_n 3, 1) := by decide +kernel
theorem dX7_copy_61 : decode cX7_copy 61 = .ok (.getfield 172, 3) := by decide +kernel
theorem dX7_copy_64 : decode cX7_copy 64 = .ok (.getfield 181, 3) := by decide +kernel
theorem dX7_copy_67 : decode cX7_copy 67 = .ok (.ireturn, 1) := by decide +kernel
theorem dX7_copy_68 : decode cX7_copy 68 = .ok (.aload_n 3, 1) := by decide +kernel
theorem dX7_copy_69 : decode cX7_copy 69 = .ok (.getfield 184, 3) := by decide +kernel
theorem dX7_copy_72 : decode cX7_copy 72 = .ok (.ireturn, 1) := by decide +kernel
theorem dX7_copy_73 : decode cX7_copy 73 = .ok (.aload_n 3, 1) := by decide +kernel
theorem dX7_copy_74 : decode cX7_copy 74 = .ok (.getfield 185, 3) := by decide +kernel
theorem dX7_copy_77 : decode cX7_copy 77 = .ok (.ireturn, 1) := by decide +kernel
theorem dX7_copy_78 : decode cX7_copy 78 = .ok (.aload_n 3, 1) := by decide +kernel
theorem dX7_copy_79 : decode cX7_copy 79 = .ok (.getfield 165, 3) := by decide +kernel
theorem dX7_copy_82 : decode cX7_copy 82 = .ok (.ifCond .eq 7, 3) := by decide +kernel
theorem dX7_copy_85 : decode cX7_copy 85 = .ok (.iconst 1, 1) := by decide +kernel
theorem dX7_copy_86 : decode cX7_copy 86 = .ok (.goto 4, 3) := by decide +kernel
theorem dX7_copy_89 : decode cX7_copy 89 = .ok (.iconst 0, 1) := by decide +kernel
theorem dX7_copy_90 : decode cX7_copy 90 = .ok (.ireturn, 1) := by decide +kernel
theorem dX7_copy_91 : decode cX7_copy 91 = .ok (.aload_n 3, 1) := by decide +kernel
theorem dX7_copy_92 : decode cX7_copy 92 = .ok (.getfield 168, 3) := by decide +kernel
theorem dX7_copy_95 : decode cX7_copy 95 = .ok (.ireturn, 1) := by decide +kernel
theorem dX7_copy_96 : decode cX7_copy 96 = .ok (.iconst (-1), 1) := by decide +kernel
theorem dX7_copy_97 : decode cX7_copy 97 = .ok (.ireturn, 1) := by decide +kernel
theorem dX7_kept_0 : decode cX7_kept 0 = .ok (.aload_n 0, 1) := by decide +kernel
theorem dX7_kept_1 : decode cX7_kept 1 = .ok (.iload_n 1, 1) := by decide +kernel
theorem dX7_kept_2 : decode cX7_kept 2 = .ok (.invokevirtual 161, 3) := by decide +kernel
theorem dX7_kept_5 : decode cX7_kept 5 = .ok (.astore_n 2, 1) := by decide +kernel
theorem dX7_kept_6 : decode cX7_kept 6 = .ok (.aload_n 2, 1) := by decide +kernel
theorem dX7_kept_7 : decode cX7_kept 7 = .ok (.ifnonnull 7, 3) := by decide +kernel
theorem dX7_kept_10 : decode cX7_kept 10 = .ok (.lconst 0, 1) := by decide +kernel
theorem dX7_kept_11 : decode cX7_kept 11 = .ok (.goto 10, 3) := by decide +kernel
theorem dX7_kept_14 : decode cX7_kept 14 = .ok (.aload_n 2, 1) := by decide +kernel
theorem dX7_kept_15 : decode cX7_kept 15 = .ok (.getfield 172, 3) := by decide +kernel
theorem dX7_kept_18 : decode cX7_kept 18 = .ok (.getfield 186, 3) := by decide +kernel
theorem dX7_kept_21 : decode cX7_kept 21 = .ok (.lreturn, 1) := by decide +kernel
theorem dX7_client_0 : decode cX7_client 0 = .ok (.aload_n 0, 1) := by decide +kernel
theorem dX7_client_1 : decode cX7_client 1 = .ok (.iload_n 1, 1) := by decide +kernel
theorem dX7_client_2 : decode cX7_client 2 = .ok (.invokevirtual 69, 3) := by decide +kernel
theorem dX7_client_5 : decode cX7_client 5 = .ok (.astore_n 3, 1) := by decide +kernel
theorem dX7_client_6 : decode cX7_client 6 = .ok (.aload_n 3, 1) := by decide +kernel
theorem dX7_client_7 : decode cX7_client 7 = .ok (.ifnonnull 5, 3) := by decide +kernel
theorem dX7_client_10 : decode cX7_client 10 = .ok (.iconst (-1), 1) := by decide +kernel
theorem dX7_client_11 : decode cX7_client 11 = .ok (.ireturn, 1) := by decide +kernel
theorem dX7_client_12 : decode cX7_client 12 = .ok (.aload_n 3, 1) := by decide +kernel
theorem dX7_client_13 : decode cX7_client 13 = .ok (.getfield 105, 3) := by decide +kernel
theorem dX7_client_16 : decode cX7_client 16 = .ok (.astore 4, 2) := by decide +kernel
theorem dX7_client_18 : decode cX7_client 18 = .ok (.iload_n 2, 1) := by decide +kernel
theorem dX7_client_19 : decode cX7_client 19 = .ok (.tableswitch 77 0 5 #[37, 52, 57, 62, 67, 72], 37) := by decide +kernel
theorem dX7_client_56 : decode cX7_client 56 = .ok (.aload 4, 2) := by decide +kernel
theorem dX7_client_58 : decode cX7_client 58 = .ok (.ifnonnull 7, 3) := by decide +kernel
theorem dX7_client_61 : decode cX7_client 61 = .ok (.iconst (-1), 1) := by decide +kernel
theorem dX7_client_62 : decode cX7_client 62 = .ok (.goto 8, 3) := by decide +kernel
theorem dX7_client_65 : decode cX7_client 65 = .ok (.aload 4, 2) := by decide +kernel
theorem dX7_client_67 : decode cX7_client 67 = .ok (.getfield 119, 3) := by decide +kernel
theorem dX7_client_70 : decode cX7_client 70 = .ok (.ireturn, 1) := by decide +kernel
theorem dX7_client_71 : decode cX7_client 71 = .ok (.aload_n 3, 1) := by decide +kernel
theorem dX7_client_72 : decode cX7_client 72 = .ok (.getfield 189, 3) := by decide +kernel
theorem dX7_client_75 : decode cX7_client 75 = .ok (.ireturn, 1) := by decide +kernel
theorem dX7_client_76 : decode cX7_client 76 = .ok (.aload_n 3, 1) := by decide +kernel
theorem dX7_client_77 : decode cX7_client 77 = .ok (.getfield 77, 3) := by decide +kernel
theorem dX7_client_80 : decode cX7_client 80 = .ok (.ireturn, 1) := by decide +kernel
theorem dX7_client_81 : decode cX7_client 81 = .ok (.aload_n 3, 1) := by decide +kernel
theorem dX7_client_82 : decode cX7_client 82 = .ok (.getfield 80, 3) := by decide +kernel
theorem dX7_client_85 : decode cX7_client 85 = .ok (.ireturn, 1) := by decide +kernel
theorem dX7_client_86 : decode cX7_client 86 = .ok (.aload_n 3, 1) := by decide +kernel
theorem dX7_client_87 : decode cX7_client 87 = .ok (.getfield 171, 3) := by decide +kernel
theorem dX7_client_90 : decode cX7_client 90 = .ok (.ireturn, 1) := by decide +kernel
theorem dX7_client_91 : decode cX7_client 91 = .ok (.aload_n 3, 1) := by decide +kernel
theorem dX7_client_92 : decode cX7_client 92 = .ok (.getfield 192, 3) := by decide +kernel
theorem dX7_client_95 : decode cX7_client 95 = .ok (.ireturn, 1) := by decide +kernel
theorem dX7_client_96 : decode cX7_client 96 = .ok (.iconst (-1), 1) := by decide +kernel
theorem dX7_client_97 : decode cX7_client 97 = .ok (.ireturn, 1) := by decide +kernel
theorem dX7_air_0 : decode cX7_air 0 = .ok (.aload_n 0, 1) := by decide +kernel
theorem dX7_air_1 : decode cX7_air 1 = .ok (.getfield 65, 3) := by decide +kernel
theorem dX7_air_4 : decode cX7_air 4 = .ok (.iload_n 1, 1) := by decide +kernel
theorem dX7_air_5 : decode cX7_air 5 = .ok (.invokevirtual 122, 3) := by decide +kernel
theorem dX7_air_8 : decode cX7_air 8 = .ok (.astore_n 3, 1) := by decide +kernel
theorem dX7_air_9 : decode cX7_air 9 = .ok (.aload_n 3, 1) := by decide +kernel
theorem dX7_air_10 : decode cX7_air 10 = .ok (.ifnonnull 5, 3) := by decide +kernel
theorem dX7_air_13 : decode cX7_air 13 = .ok (.iconst (-1), 1) := by decide +kernel
theorem dX7_air_14 : decode cX7_air 14 = .ok (.ireturn, 1) := by decide +kernel
theorem dX7_air_15 : decode cX7_air 15 = .ok (.iload_n 2, 1) := by decide +kernel
theorem dX7_air_16 : decode cX7_air 16 = .ok (.tableswitch 111 0 8 #[52, 65, 70, 75, 80, 85, 93, 101, 106], 52) := by decide +kernel
theorem dX7_air_68 : decode cX7_air 68 = .ok (.aload_n 3, 1) := by decide +kernel
theorem dX7_air_69 : decode cX7_air 69 = .ok (.getfield 134, 3) := by decide +kernel
theorem dX7_air_72 : decode cX7_air 72 = .ok (.ifCond .eq 7, 3) := by decide +kernel
theorem dX7_air_75 : decode cX7_air 75 = .ok (.iconst 1, 1) := by decide +kernel
theorem dX7_air_76 : decode cX7_air 76 = .ok (.goto 4, 3) := by decide +kernel
theorem dX7_air_79 : decode cX7_air 79 = .ok (.iconst 0, 1) := by decide +kernel
theorem dX7_air_80 : decode cX7_air 80 = .ok (.ireturn, 1) := by decide +kernel
theorem dX7_air_81 : decode cX7_air 81 = .ok (.aload_n 3, 1) := by decide +kernel
theorem dX7_air_82 : decode cX7_air 82 = .ok (.getfield 195, 3) := by decide +kernel
theorem dX7_air_85 : decode cX7_air 85 = .ok (.ireturn, 1) := by decide +kernel
theorem dX7_air_86 : decode cX7_air 86 = .ok (.aload_n 3, 1) := by decide +kernel
theorem dX7_air_87 : decode cX7_air 87 = .ok (.getfield 198, 3) := by decide +kernel
theorem dX7_air_90 : decode cX7_air 90 = .ok (.ireturn, 1) := by decide +kernel
theorem dX7_air_91 : decode cX7_air 91 = .ok (.aload_n 3, 1) := by decide +kernel
theorem dX7_air_92 : decode cX7_air 92 = .ok (.getfield 201, 3) := by decide +kernel
theorem dX7_air_95 : decode cX7_air 95 = .ok (.ireturn, 1) := by decide +kernel
theorem dX7_air_96 : decode cX7_air 96 = .ok (.aload_n 3, 1) := by decide +kernel
theorem dX7_air_97 : decode cX7_air 97 = .ok (.getfield 204, 3) := by decide +kernel
theorem dX7_air_100 : decode cX7_air 100 = .ok (.ireturn, 1) := by decide +kernel
theorem dX7_air_101 : decode cX7_air 101 = .ok (.aload_n 3, 1) := by decide +kernel
theorem dX7_air_102 : decode cX7_air 102 = .ok (.getfield 205, 3) := by decide +kernel
theorem dX7_air_105 : decode cX7_air 105 = .ok (.getfield 176, 3) := by decide +kernel
theorem dX7_air_108 : decode cX7_air 108 = .ok (.ireturn, 1) := by decide +kernel
theorem dX7_air_109 : decode cX7_air 109 = .ok (.aload_n 3, 1) := by decide +kernel
theorem dX7_air_110 : decode cX7_air 110 = .ok (.getfield 205, 3) := by decide +kernel
theorem dX7_air_113 : decode cX7_air 113 = .ok (.getfield 181, 3) := by decide +kernel
theorem dX7_air_116 : decode cX7_air 116 = .ok (.ireturn, 1) := by decide +kernel
theorem dX7_air_117 : decode cX7_air 117 = .ok (.aload_n 3, 1) := by decide +kernel
theorem dX7_air_118 : decode cX7_air 118 = .ok (.getfield 206, 3) := by decide +kernel
theorem dX7_air_121 : decode cX7_air 121 = .ok (.ireturn, 1) := by decide +kernel
theorem dX7_air_122 : decode cX7_air 122 = .ok (.aload_n 3, 1) := by decide +kernel
theorem dX7_air_123 : decode cX7_air 123 = .ok (.getfield 207, 3) := by decide +kernel
theorem dX7_air_126 : decode cX7_air 126 = .ok (.ireturn, 1) := by decide +kernel
theorem dX7_air_127 : decode cX7_air 127 = .ok (.iconst (-1), 1) := by decide +kernel
theorem dX7_air_128 : decode cX7_air 128 = .ok (.ireturn, 1) := by decide +kernel
theorem dX7_act_0 : decode cX7_act 0 = .ok (.aload_n 0, 1) := by decide +kernel
theorem dX7_act_1 : decode cX7_act 1 = .ok (.iload_n 1, 1) := by decide +kernel
theorem dX7_act_2 : decode cX7_act 2 = .ok (.invokevirtual 210, 3) := by decide +kernel
theorem dX7_act_5 : decode cX7_act 5 = .ok (.astore_n 3, 1) := by decide +kernel
theorem dX7_act_6 : decode cX7_act 6 = .ok (.aload_n 3, 1) := by decide +kernel
theorem dX7_act_7 : decode cX7_act 7 = .ok (.ifnonnull 5, 3) := by decide +kernel
theorem dX7_act_10 : decode cX7_act 10 = .ok (.iconst (-1), 1) := by decide +kernel
theorem dX7_act_11 : decode cX7_act 11 = .ok (.ireturn, 1) := by decide +kernel
theorem dX7_act_12 : decode cX7_act 12 = .ok (.iload_n 2, 1) := by decide +kernel
theorem dX7_act_13 : decode cX7_act 13 = .ok (.tableswitch 78 0 6 #[43, 48, 53, 58, 63, 68, 73], 43) := by decide +kernel
theorem dX7_act_56 : decode cX7_act 56 = .ok (.aload_n 3, 1) := by decide +kernel
theorem dX7_act_57 : decode cX7_act 57 = .ok (.getfield 214, 3) := by decide +kernel
theorem dX7_act_60 : decode cX7_act 60 = .ok (.ireturn, 1) := by decide +kernel
theorem dX7_act_61 : decode cX7_act 61 = .ok (.aload_n 3, 1) := by decide +kernel
theorem dX7_act_62 : decode cX7_act 62 = .ok (.getfield 217, 3) := by decide +kernel
theorem dX7_act_65 : decode cX7_act 65 = .ok (.ireturn, 1) := by decide +kernel
theorem dX7_act_66 : decode cX7_act 66 = .ok (.aload_n 3, 1) := by decide +kernel
theorem dX7_act_67 : decode cX7_act 67 = .ok (.getfield 218, 3) := by decide +kernel
theorem dX7_act_70 : decode cX7_act 70 = .ok (.ireturn, 1) := by decide +kernel
theorem dX7_act_71 : decode cX7_act 71 = .ok (.aload_n 3, 1) := by decide +kernel
theorem dX7_act_72 : decode cX7_act 72 = .ok (.getfield 221, 3) := by decide +kernel
theorem dX7_act_75 : decode cX7_act 75 = .ok (.ireturn, 1) := by decide +kernel
theorem dX7_act_76 : decode cX7_act 76 = .ok (.aload_n 3, 1) := by decide +kernel
theorem dX7_act_77 : decode cX7_act 77 = .ok (.getfield 224, 3) := by decide +kernel
theorem dX7_act_80 : decode cX7_act 80 = .ok (.ireturn, 1) := by decide +kernel
theorem dX7_act_81 : decode cX7_act 81 = .ok (.aload_n 3, 1) := by decide +kernel
theorem dX7_act_82 : decode cX7_act 82 = .ok (.getfield 225, 3) := by decide +kernel
theorem dX7_act_85 : decode cX7_act 85 = .ok (.ireturn, 1) := by decide +kernel
theorem dX7_act_86 : decode cX7_act 86 = .ok (.aload_n 3, 1) := by decide +kernel
theorem dX7_act_87 : decode cX7_act 87 = .ok (.getfield 226, 3) := by decide +kernel
theorem dX7_act_90 : decode cX7_act 90 = .ok (.ireturn, 1) := by decide +kernel
theorem dX7_act_91 : decode cX7_act 91 = .ok (.iconst (-1), 1) := by decide +kernel
theorem dX7_act_92 : decode cX7_act 92 = .ok (.ireturn, 1) := by decide +kernel
theorem dX7_value_0 : decode cX7_value 0 = .ok (.aload_n 0, 1) := by decide +kernel
theorem dX7_value_1 : decode cX7_value 1 = .ok (.iload_n 1, 1) := by decide +kernel
theorem dX7_value_2 : decode cX7_value 2 = .ok (.invokevirtual 210, 3) := by decide +kernel
theorem dX7_value_5 : decode cX7_value 5 = .ok (.astore_n 2, 1) := by decide +kernel
theorem dX7_value_6 : decode cX7_value 6 = .ok (.aload_n 2, 1) := by decide +kernel
theorem dX7_value_7 : decode cX7_value 7 = .ok (.ifnonnull 7, 3) := by decide +kernel
theorem dX7_value_10 : decode cX7_value 10 = .ok (.lconst 0, 1) := by decide +kernel
theorem dX7_value_11 : decode cX7_value 11 = .ok (.goto 7, 3) := by decide +kernel
theorem dX7_value_14 : decode cX7_value 14 = .ok (.aload_n 2, 1) := by decide +kernel
theorem dX7_value_15 : decode cX7_value 15 = .ok (.getfield 101, 3) := by decide +kernel
theorem dX7_value_18 : decode cX7_value 18 = .ok (.lreturn, 1) := by decide +kernel
theorem dX7_table_0 : decode cX7_table 0 = .ok (.aload_n 0, 1) := by decide +kernel
theorem dX7_table_1 : decode cX7_table 1 = .ok (.iload_n 1, 1) := by decide +kernel
theorem dX7_table_2 : decode cX7_table 2 = .ok (.invokevirtual 229, 3) := by decide +kernel
theorem dX7_table_5 : decode cX7_table 5 = .ok (.astore_n 3, 1) := by decide +kernel
theorem dX7_table_6 : decode cX7_table 6 = .ok (.aload_n 3, 1) := by decide +kernel
theorem dX7_table_7 : decode cX7_table 7 = .ok (.ifnonnull 5, 3) := by decide +kernel
theorem dX7_table_10 : decode cX7_table 10 = .ok (.iconst (-1), 1) := by decide +kernel
theorem dX7_table_11 : decode cX7_table 11 = .ok (.ireturn, 1) := by decide +kernel
theorem dX7_table_12 : decode cX7_table 12 = .ok (.iload_n 2, 1) := by decide +kernel
theorem dX7_table_13 : decode cX7_table 13 = .ok (.ifCond .lt 19, 3) := by decide +kernel
theorem dX7_table_16 : decode cX7_table 16 = .ok (.iload_n 2, 1) := by decide +kernel
theorem dX7_table_17 : decode cX7_table 17 = .ok (.aload_n 3, 1) := by decide +kernel
theorem dX7_table_18 : decode cX7_table 18 = .ok (.getfield 233, 3) := by decide +kernel
theorem dX7_table_21 : decode cX7_table 21 = .ok (.arraylength, 1) := by decide +kernel
theorem dX7_table_22 : decode cX7_table 22 = .ok (.if_icmp .ge 10, 3) := by decide +kernel
theorem dX7_table_25 : decode cX7_table 25 = .ok (.aload_n 3, 1) := by decide +kernel
theorem dX7_table_26 : decode cX7_table 26 = .ok (.getfield 233, 3) := by decide +kernel
theorem dX7_table_29 : decode cX7_table 29 = .ok (.iload_n 2, 1) := by decide +kernel
theorem dX7_table_30 : decode cX7_table 30 = .ok (.iaload, 1) := by decide +kernel
theorem dX7_table_31 : decode cX7_table 31 = .ok (.ireturn, 1) := by decide +kernel
theorem dX7_table_32 : decode cX7_table 32 = .ok (.iload_n 2, 1) := by decide +kernel
theorem dX7_table_33 : decode cX7_table 33 = .ok (.lookupswitch 37 #[(7, 27), (8, 32)], 27) := by decide +kernel
theorem dX7_table_60 : decode cX7_table 60 = .ok (.aload_n 3, 1) := by decide +kernel
theorem dX7_table_61 : decode cX7_table 61 = .ok (.getfield 236, 3) := by decide +kernel
theorem dX7_table_64 : decode cX7_table 64 = .ok (.ireturn, 1) := by decide +kernel
theorem dX7_table_65 : decode cX7_table 65 = .ok (.aload_n 3, 1) := by decide +kernel
theorem dX7_table_66 : decode cX7_table 66 = .ok (.getfield 239, 3) := by decide +kernel
theorem dX7_table_69 : decode cX7_table 69 = .ok (.ireturn, 1) := by decide +kernel
theorem dX7_table_70 : decode cX7_table 70 = .ok (.iconst (-1), 1) := by decide +kernel
theorem dX7_table_71 : decode cX7_table 71 = .ok (.ireturn, 1) := by decide +kernel
theorem dX7_about_0 : decode cX7_about 0 = .ok (.iload_n 1, 1) := by decide +kernel
theorem dX7_about_1 : decode cX7_about 1 = .ok (.tableswitch 76 0 5 #[39, 45, 50, 55, 63, 68], 39) := by decide +kernel
theorem dX7_about_40 : decode cX7_about 40 = .ok (.aload_n 0, 1) := by decide +kernel
theorem dX7_about_41 : decode cX7_about 41 = .ok (.getfield 20, 3) := by decide +kernel
theorem dX7_about_44 : decode cX7_about 44 = .ok (.arraylength, 1) := by decide +kernel
theorem dX7_about_45 : decode cX7_about 45 = .ok (.ireturn, 1) := by decide +kernel
theorem dX7_about_46 : decode cX7_about 46 = .ok (.aload_n 0, 1) := by decide +kernel
theorem dX7_about_47 : decode cX7_about 47 = .ok (.getfield 52, 3) := by decide +kernel
theorem dX7_about_50 : decode cX7_about 50 = .ok (.ireturn, 1) := by decide +kernel
theorem dX7_about_51 : decode cX7_about 51 = .ok (.aload_n 0, 1) := by decide +kernel
theorem dX7_about_52 : decode cX7_about 52 = .ok (.getfield 91, 3) := by decide +kernel
theorem dX7_about_55 : decode cX7_about 55 = .ok (.ireturn, 1) := by decide +kernel
theorem dX7_about_56 : decode cX7_about 56 = .ok (.aload_n 0, 1) := by decide +kernel
theorem dX7_about_57 : decode cX7_about 57 = .ok (.getfield 65, 3) := by decide +kernel
theorem dX7_about_60 : decode cX7_about 60 = .ok (.getfield 148, 3) := by decide +kernel
theorem dX7_about_63 : decode cX7_about 63 = .ok (.ireturn, 1) := by decide +kernel
theorem dX7_about_64 : decode cX7_about 64 = .ok (.aload_n 0, 1) := by decide +kernel
theorem dX7_about_65 : decode cX7_about 65 = .ok (.getfield 113, 3) := by decide +kernel
theorem dX7_about_68 : decode cX7_about 68 = .ok (.ireturn, 1) := by decide +kernel
theorem dX7_about_69 : decode cX7_about 69 = .ok (.aload_n 0, 1) := by decide +kernel
theorem dX7_about_70 : decode cX7_about 70 = .ok (.getfield 65, 3) := by decide +kernel
theorem dX7_about_73 : decode cX7_about 73 = .ok (.getfield 242, 3) := by decide +kernel
theorem dX7_about_76 : decode cX7_about 76 = .ok (.ireturn, 1) := by decide +kernel
theorem dX7_about_77 : decode cX7_about 77 = .ok (.iconst (-1), 1) := by decide +kernel
theorem dX7_about_78 : decode cX7_about 78 = .ok (.ireturn, 1) := by decide +kernel
theorem dX7_copyAt_0 : decode cX7_copyAt 0 = .ok (.iload_n 1, 1) := by decide +kernel
theorem dX7_copyAt_1 : decode cX7_copyAt 1 = .ok (.ifCond .lt 21, 3) := by decide +kernel
theorem dX7_copyAt_4 : decode cX7_copyAt 4 = .ok (.iload_n 1, 1) := by decide +kernel
theorem dX7_copyAt_5 : decode cX7_copyAt 5 = .ok (.aload_n 0, 1) := by decide +kernel
theorem dX7_copyAt_6 : decode cX7_copyAt 6 = .ok (.getfield 20, 3) := by decide +kernel
theorem dX7_copyAt_9 : decode cX7_copyAt 9 = .ok (.arraylength, 1) := by decide +kernel
theorem dX7_copyAt_10 : decode cX7_copyAt 10 = .ok (.if_icmp .ge 12, 3) := by decide +kernel
theorem dX7_copyAt_13 : decode cX7_copyAt 13 = .ok (.aload_n 0, 1) := by decide +kernel
theorem dX7_copyAt_14 : decode cX7_copyAt 14 = .ok (.getfield 20, 3) := by decide +kernel
theorem dX7_copyAt_17 : decode cX7_copyAt 17 = .ok (.iload_n 1, 1) := by decide +kernel
theorem dX7_copyAt_18 : decode cX7_copyAt 18 = .ok (.aaload, 1) := by decide +kernel
theorem dX7_copyAt_19 : decode cX7_copyAt 19 = .ok (.goto 4, 3) := by decide +kernel
theorem dX7_copyAt_22 : decode cX7_copyAt 22 = .ok (.aconst_null, 1) := by decide +kernel
theorem dX7_copyAt_23 : decode cX7_copyAt 23 = .ok (.areturn, 1) := by decide +kernel
theorem dX7_clientAt_0 : decode cX7_clientAt 0 = .ok (.iload_n 1, 1) := by decide +kernel
theorem dX7_clientAt_1 : decode cX7_clientAt 1 = .ok (.ifCond .lt 21, 3) := by decide +kernel
theorem dX7_clientAt_4 : decode cX7_clientAt 4 = .ok (.iload_n 1, 1) := by decide +kernel
theorem dX7_clientAt_5 : decode cX7_clientAt 5 = .ok (.aload_n 0, 1) := by decide +kernel
theorem dX7_clientAt_6 : decode cX7_clientAt 6 = .ok (.getfield 31, 3) := by decide +kernel
theorem dX7_clientAt_9 : decode cX7_clientAt 9 = .ok (.arraylength, 1) := by decide +kernel
theorem dX7_clientAt_10 : decode cX7_clientAt 10 = .ok (.if_icmp .ge 12, 3) := by decide +kernel
theorem dX7_clientAt_13 : decode cX7_clientAt 13 = .ok (.aload_n 0, 1) := by decide +kernel
theorem dX7_clientAt_14 : decode cX7_clientAt 14 = .ok (.getfield 31, 3) := by decide +kernel
theorem dX7_clientAt_17 : decode cX7_clientAt 17 = .ok (.iload_n 1, 1) := by decide +kernel
theorem dX7_clientAt_18 : decode cX7_clientAt 18 = .ok (.aaload, 1) := by decide +kernel
theorem dX7_clientAt_19 : decode cX7_clientAt 19 = .ok (.goto 4, 3) := by decide +kernel
theorem dX7_clientAt_22 : decode cX7_clientAt 22 = .ok (.aconst_null, 1) := by decide +kernel
theorem dX7_clientAt_23 : decode cX7_clientAt 23 = .ok (.areturn, 1) := by decide +kernel
theorem dX7_tableAt_0 : decode cX7_tableAt 0 = .ok (.iload_n 1, 1) := by decide +kernel
theorem dX7_tableAt_1 : decode cX7_tableAt 1 = .ok (.ifCond .lt 21, 3) := by decide +kernel
theorem dX7_tableAt_4 : decode cX7_tableAt 4 = .ok (.iload_n 1, 1) := by decide +kernel
theorem dX7_tableAt_5 : decode cX7_tableAt 5 = .ok (.aload_n 0, 1) := by decide +kernel
theorem dX7_tableAt_6 : decode cX7_tableAt 6 = .ok (.getfield 40, 3) := by decide +kernel
theorem dX7_tableAt_9 : decode cX7_tableAt 9 = .ok (.arraylength, 1) := by decide +kernel
theorem dX7_tableAt_10 : decode cX7_tableAt 10 = .ok (.if_icmp .ge 12, 3) := by decide +kernel
theorem dX7_tableAt_13 : decode cX7_tableAt 13 = .ok (.aload_n 0, 1) := by decide +kernel
theorem dX7_tableAt_14 : decode cX7_tableAt 14 = .ok (.getfield 40, 3) := by decide +kernel
theorem dX7_tableAt_17 : decode cX7_tableAt 17 = .ok (.iload_n 1, 1) := by decide +kernel
theorem dX7_tableAt_18 : decode cX7_tableAt 18 = .ok (.aaload, 1) := by decide +kernel
theorem dX7_tableAt_19 : decode cX7_tableAt 19 = .ok (.goto 4, 3) := by decide +kernel
theorem dX7_tableAt_22 : decode cX7_tableAt 22 = .ok (.aconst_null, 1) := by decide +kernel
theorem dX7_tableAt_23 : decode cX7_tableAt 23 = .ok (.areturn, 1) := by decide +kernel
theorem dX7_actAt_0 : decode cX7_actAt 0 = .ok (.iload_n 1, 1) := by decide +kernel
theorem dX7_actAt_1 : decode cX7_actAt 1 = .ok (.iconst 1, 1) := by decide +kernel
theorem dX7_actAt_2 : decode cX7_actAt 2 = .ok (.if_icmp .lt 23, 3) := by decide +kernel
theorem dX7_actAt_5 : decode cX7_actAt 5 = .ok (.iload_n 1, 1) := by decide +kernel
theorem dX7_actAt_6 : decode cX7_actAt 6 = .ok (.aload_n 0, 1) := by decide +kernel
theorem dX7_actAt_7 : decode cX7_actAt 7 = .ok (.getfield 58, 3) := by decide +kernel
theorem dX7_actAt_10 : decode cX7_actAt 10 = .ok (.arraylength, 1) := by decide +kernel
theorem dX7_actAt_11 : decode cX7_actAt 11 = .ok (.if_icmp .gt 14, 3) := by decide +kernel
theorem dX7_actAt_14 : decode cX7_actAt 14 = .ok (.aload_n 0, 1) := by decide +kernel
theorem dX7_actAt_15 : decode cX7_actAt 15 = .ok (.getfield 58, 3) := by decide +kernel
theorem dX7_actAt_18 : decode cX7_actAt 18 = .ok (.iload_n 1, 1) := by decide +kernel
theorem dX7_actAt_19 : decode cX7_actAt 19 = .ok (.iconst 1, 1) := by decide +kernel
theorem dX7_actAt_20 : decode cX7_actAt 20 = .ok (.isub, 1) := by decide +kernel
theorem dX7_actAt_21 : decode cX7_actAt 21 = .ok (.aaload, 1) := by decide +kernel
theorem dX7_actAt_22 : decode cX7_actAt 22 = .ok (.goto 4, 3) := by decide +kernel
theorem dX7_actAt_25 : decode cX7_actAt 25 = .ok (.aconst_null, 1) := by decide +kernel
theorem dX7_actAt_26 : decode cX7_actAt 26 = .ok (.areturn, 1) := by decide +kernel
theorem dX7_canBegin_0 : decode cX7_canBegin 0 = .ok (.aload_n 1, 1) := by decide +kernel
theorem dX7_canBegin_1 : decode cX7_canBegin 1 = .ok (.getfield 105, 3) := by decide +kernel
theorem dX7_canBegin_4 : decode cX7_canBegin 4 = .ok (.ifnonnull 19, 3) := by decide +kernel
theorem dX7_canBegin_7 : decode cX7_canBegin 7 = .ok (.aload_n 0, 1) := by decide +kernel
theorem dX7_canBegin_8 : decode cX7_canBegin 8 = .ok (.getfield 91, 3) := by decide +kernel
theorem dX7_canBegin_11 : decode cX7_canBegin 11 = .ok (.aload_n 0, 1) := by decide +kernel
theorem dX7_canBegin_12 : decode cX7_canBegin 12 = .ok (.getfield 58, 3) := by decide +kernel
theorem dX7_canBegin_15 : decode cX7_canBegin 15 = .ok (.arraylength, 1) := by decide +kernel
theorem dX7_canBegin_16 : decode cX7_canBegin 16 = .ok (.if_icmp .ge 7, 3) := by decide +kernel
theorem dX7_canBegin_19 : decode cX7_canBegin 19 = .ok (.iconst 1, 1) := by decide +kernel
theorem dX7_canBegin_20 : decode cX7_canBegin 20 = .ok (.goto 4, 3) := by decide +kernel
theorem dX7_canBegin_23 : decode cX7_canBegin 23 = .ok (.iconst 0, 1) := by decide +kernel
theorem dX7_canBegin_24 : decode cX7_canBegin 24 = .ok (.ireturn, 1) := by decide +kernel
theorem dX7_beginChange_0 : decode cX7_beginChange 0 = .ok (.new 56, 3) := by decide +kernel
theorem dX7_beginChange_3 : decode cX7_beginChange 3 = .ok (.dup, 1) := by decide +kernel
theorem dX7_beginChange_4 : decode cX7_beginChange 4 = .ok (.aload_n 0, 1) := by decide +kernel
theorem dX7_beginChange_5 : decode cX7_beginChange 5 = .ok (.getfield 91, 3) := by decide +kernel
theorem dX7_beginChange_8 : decode cX7_beginChange 8 = .ok (.iconst 1, 1) := by decide +kernel
theorem dX7_beginChange_9 : decode cX7_beginChange 9 = .ok (.iadd, 1) := by decide +kernel
theorem dX7_beginChange_10 : decode cX7_beginChange 10 = .ok (.iconst 2, 1) := by decide +kernel
theorem dX7_beginChange_11 : decode cX7_beginChange 11 = .ok (.aload_n 1, 1) := by decide +kernel
theorem dX7_beginChange_12 : decode cX7_beginChange 12 = .ok (.getfield 245, 3) := by decide +kernel
theorem dX7_beginChange_15 : decode cX7_beginChange 15 = .ok (.invokespecial 94, 3) := by decide +kernel
theorem dX7_beginChange_18 : decode cX7_beginChange 18 = .ok (.astore_n 3, 1) := by decide +kernel
theorem dX7_beginChange_19 : decode cX7_beginChange 19 = .ok (.aload_n 3, 1) := by decide +kernel
theorem dX7_beginChange_20 : decode cX7_beginChange 20 = .ok (.iload_n 2, 1) := by decide +kernel
theorem dX7_beginChange_21 : decode cX7_beginChange 21 = .ok (.putfield 226, 3) := by decide +kernel
theorem dX7_beginChange_24 : decode cX7_beginChange 24 = .ok (.aload_n 1, 1) := by decide +kernel
theorem dX7_beginChange_25 : decode cX7_beginChange 25 = .ok (.iload_n 2, 1) := by decide +kernel
theorem dX7_beginChange_26 : decode cX7_beginChange 26 = .ok (.putfield 80, 3) := by decide +kernel
theorem dX7_beginChange_29 : decode cX7_beginChange 29 = .ok (.aload_n 0, 1) := by decide +kernel
theorem dX7_beginChange_30 : decode cX7_beginChange 30 = .ok (.aload_n 1, 1) := by decide +kernel
theorem dX7_beginChange_31 : decode cX7_beginChange 31 = .ok (.aload_n 3, 1) := by decide +kernel
theorem dX7_beginChange_32 : decode cX7_beginChange 32 = .ok (.iconst 3, 1) := by decide +kernel
theorem dX7_beginChange_33 : decode cX7_beginChange 33 = .ok (.invokevirtual 97, 3) := by decide +kernel
theorem dX7_beginChange_36 : decode cX7_beginChange 36 = .ok (.ireturn, 1) := by decide +kernel
theorem dX7_beginAct_0 : decode cX7_beginAct 0 = .ok (.aload_n 0, 1) := by decide +kernel
theorem dX7_beginAct_1 : decode cX7_beginAct 1 = .ok (.getfield 91, 3) := by decide +kernel
theorem dX7_beginAct_4 : decode cX7_beginAct 4 = .ok (.aload_n 0, 1) := by decide +kernel
theorem dX7_beginAct_5 : decode cX7_beginAct 5 = .ok (.getfield 58, 3) := by decide +kernel
theorem dX7_beginAct_8 : decode cX7_beginAct 8 = .ok (.arraylength, 1) := by decide +kernel
theorem dX7_beginAct_9 : decode cX7_beginAct 9 = .ok (.if_icmp .lt 5, 3) := by decide +kernel
theorem dX7_beginAct_12 : decode cX7_beginAct 12 = .ok (.iconst (-1), 1) := by decide +kernel
theorem dX7_beginAct_13 : decode cX7_beginAct 13 = .ok (.ireturn, 1) := by decide +kernel
theorem dX7_beginAct_14 : decode cX7_beginAct 14 = .ok (.aload_n 0, 1) := by decide +kernel
theorem dX7_beginAct_15 : decode cX7_beginAct 15 = .ok (.getfield 58, 3) := by decide +kernel
theorem dX7_beginAct_18 : decode cX7_beginAct 18 = .ok (.aload_n 0, 1) := by decide +kernel
theorem dX7_beginAct_19 : decode cX7_beginAct 19 = .ok (.getfield 91, 3) := by decide +kernel
theorem dX7_beginAct_22 : decode cX7_beginAct 22 = .ok (.aload_n 2, 1) := by decide +kernel
theorem dX7_beginAct_23 : decode cX7_beginAct 23 = .ok (.aastore, 1) := by decide +kernel
theorem dX7_beginAct_24 : decode cX7_beginAct 24 = .ok (.aload_n 0, 1) := by decide +kernel
theorem dX7_beginAct_25 : decode cX7_beginAct 25 = .ok (.dup, 1) := by decide +kernel
theorem dX7_beginAct_26 : decode cX7_beginAct 26 = .ok (.getfield 91, 3) := by decide +kernel
theorem dX7_beginAct_29 : decode cX7_beginAct 29 = .ok (.iconst 1, 1) := by decide +kernel
theorem dX7_beginAct_30 : decode cX7_beginAct 30 = .ok (.iadd, 1) := by decide +kernel
theorem dX7_beginAct_31 : decode cX7_beginAct 31 = .ok (.putfield 91, 3) := by decide +kernel
theorem dX7_beginAct_34 : decode cX7_beginAct 34 = .ok (.aload_n 0, 1) := by decide +kernel
theorem dX7_beginAct_35 : decode cX7_beginAct 35 = .ok (.dup, 1) := by decide +kernel
theorem dX7_beginAct_36 : decode cX7_beginAct 36 = .ok (.getfield 113, 3) := by decide +kernel
theorem dX7_beginAct_39 : decode cX7_beginAct 39 = .ok (.iconst 1, 1) := by decide +kernel
theorem dX7_beginAct_40 : decode cX7_beginAct 40 = .ok (.iadd, 1) := by decide +kernel
theorem dX7_beginAct_41 : decode cX7_beginAct 41 = .ok (.putfield 113, 3) := by decide +kernel
theorem dX7_beginAct_44 : decode cX7_beginAct 44 = .ok (.aload_n 2, 1) := by decide +kernel
theorem dX7_beginAct_45 : decode cX7_beginAct 45 = .ok (.aload_n 0, 1) := by decide +kernel
theorem dX7_beginAct_46 : decode cX7_beginAct 46 = .ok (.getfield 113, 3) := by decide +kernel
theorem dX7_beginAct_49 : decode cX7_beginAct 49 = .ok (.putfield 218, 3) := by decide +kernel
theorem dX7_beginAct_52 : decode cX7_beginAct 52 = .ok (.aload_n 1, 1) := by decide +kernel
theorem dX7_beginAct_53 : decode cX7_beginAct 53 = .ok (.aload_n 2, 1) := by decide +kernel
theorem dX7_beginAct_54 : decode cX7_beginAct 54 = .ok (.putfield 105, 3) := by decide +kernel
theorem dX7_beginAct_57 : decode cX7_beginAct 57 = .ok (.aload_n 1, 1) := by decide +kernel
theorem dX7_beginAct_58 : decode cX7_beginAct 58 = .ok (.iconst 0, 1) := by decide +kernel
theorem dX7_beginAct_59 : decode cX7_beginAct 59 = .ok (.putfield 246, 3) := by decide +kernel
theorem dX7_beginAct_62 : decode cX7_beginAct 62 = .ok (.aload_n 1, 1) := by decide +kernel
theorem dX7_beginAct_63 : decode cX7_beginAct 63 = .ok (.getfield 247, 3) := by decide +kernel
theorem dX7_beginAct_66 : decode cX7_beginAct 66 = .ok (.iconst 0, 1) := by decide +kernel
theorem dX7_beginAct_67 : decode cX7_beginAct 67 = .ok (.iconst 0, 1) := by decide +kernel
theorem dX7_beginAct_68 : decode cX7_beginAct 68 = .ok (.lconst 0, 1) := by decide +kernel
theorem dX7_beginAct_69 : decode cX7_beginAct 69 = .ok (.invokevirtual 248, 3) := by decide +kernel
theorem dX7_beginAct_72 : decode cX7_beginAct 72 = .ok (.aload_n 0, 1) := by decide +kernel
theorem dX7_beginAct_73 : decode cX7_beginAct 73 = .ok (.aload_n 1, 1) := by decide +kernel
theorem dX7_beginAct_74 : decode cX7_beginAct 74 = .ok (.aload_n 2, 1) := by decide +kernel
theorem dX7_beginAct_75 : decode cX7_beginAct 75 = .ok (.iload_n 3, 1) := by decide +kernel
theorem dX7_beginAct_76 : decode cX7_beginAct 76 = .ok (.invokevirtual 252, 3) := by decide +kernel
theorem dX7_beginAct_79 : decode cX7_beginAct 79 = .ok (.aload_n 2, 1) := by decide +kernel
theorem dX7_beginAct_80 : decode cX7_beginAct 80 = .ok (.getfield 119, 3) := by decide +kernel
theorem dX7_beginAct_83 : decode cX7_beginAct 83 = .ok (.ireturn, 1) := by decide +kernel
theorem dX7_beginPhase_0 : decode cX7_beginPhase 0 = .ok (.aload_n 1, 1) := by decide +kernel
theorem dX7_beginPhase_1 : decode cX7_beginPhase 1 = .ok (.iload_n 3, 1) := by decide +kernel
theorem dX7_beginPhase_2 : decode cX7_beginPhase 2 = .ok (.putfield 189, 3) := by decide +kernel
theorem dX7_beginPhase_5 : decode cX7_beginPhase 5 = .ok (.aload_n 1, 1) := by decide +kernel
theorem dX7_beginPhase_6 : decode cX7_beginPhase 6 = .ok (.dup, 1) := by decide +kernel
theorem dX7_beginPhase_7 : decode cX7_beginPhase 7 = .ok (.getfield 246, 3) := by decide +kernel
theorem dX7_beginPhase_10 : decode cX7_beginPhase 10 = .ok (.iconst 1, 1) := by decide +kernel
theorem dX7_beginPhase_11 : decode cX7_beginPhase 11 = .ok (.iadd, 1) := by decide +kernel
theorem dX7_beginPhase_12 : decode cX7_beginPhase 12 = .ok (.putfield 246, 3) := by decide +kernel
theorem dX7_beginPhase_15 : decode cX7_beginPhase 15 = .ok (.aload_n 1, 1) := by decide +kernel
theorem dX7_beginPhase_16 : decode cX7_beginPhase 16 = .ok (.iconst 0, 1) := by decide +kernel
theorem dX7_beginPhase_17 : decode cX7_beginPhase 17 = .ok (.putfield 192, 3) := by decide +kernel
theorem dX7_beginPhase_20 : decode cX7_beginPhase 20 = .ok (.iload_n 3, 1) := by decide +kernel
theorem dX7_beginPhase_21 : decode cX7_beginPhase 21 = .ok (.iconst 5, 1) := by decide +kernel
theorem dX7_beginPhase_22 : decode cX7_beginPhase 22 = .ok (.if_icmp .ne 11, 3) := by decide +kernel
theorem dX7_beginPhase_25 : decode cX7_beginPhase 25 = .ok (.aload_n 1, 1) := by decide +kernel
theorem dX7_beginPhase_26 : decode cX7_beginPhase 26 = .ok (.aload_n 2, 1) := by decide +kernel
theorem dX7_beginPhase_27 : decode cX7_beginPhase 27 = .ok (.getfield 226, 3) := by decide +kernel
theorem dX7_beginPhase_30 : decode cX7_beginPhase 30 = .ok (.putfield 77, 3) := by decide +kernel
theorem dX7_beginPhase_33 : decode cX7_beginPhase 33 = .ok (.aload_n 0, 1) := by decide +kernel
theorem dX7_beginPhase_34 : decode cX7_beginPhase 34 = .ok (.aload_n 1, 1) := by decide +kernel
theorem dX7_beginPhase_35 : decode cX7_beginPhase 35 = .ok (.aload_n 2, 1) := by decide +kernel
theorem dX7_beginPhase_36 : decode cX7_beginPhase 36 = .ok (.invokevirtual 109, 3) := by decide +kernel
theorem dX7_beginPhase_39 : decode cX7_beginPhase 39 = .ok (.pop, 1) := by decide +kernel
theorem dX7_beginPhase_40 : decode cX7_beginPhase 40 = .ok (.return_, 1) := by decide +kernel
theorem dX7_sendRequests_0 : decode cX7_sendRequests 0 = .ok (.iconst 0, 1) := by decide +kernel
theorem dX7_sendRequests_1 : decode cX7_sendRequests 1 = .ok (.istore_n 3, 1) := by decide +kernel
theorem dX7_sendRequests_2 : decode cX7_sendRequests 2 = .ok (.iconst 0, 1) := by decide +kernel
theorem dX7_sendRequests_3 : decode cX7_sendRequests 3 = .ok (.istore 4, 2) := by decide +kernel
theorem dX7_sendRequests_5 : decode cX7_sendRequests 5 = .ok (.iload 4, 2) := by decide +kernel
theorem dX7_sendRequests_7 : decode cX7_sendRequests 7 = .ok (.aload_n 0, 1) := by decide +kernel
theorem dX7_sendRequests_8 : decode cX7_sendRequests 8 = .ok (.getfield 20, 3) := by decide +kernel
theorem dX7_sendRequests_11 : decode cX7_sendRequests 11 = .ok (.arraylength, 1) := by decide +kernel
theorem dX7_sendRequests_12 : decode cX7_sendRequests 12 = .ok (.if_icmp .ge 29, 3) := by decide +kernel
theorem dX7_sendRequests_15 : decode cX7_sendRequests 15 = .ok (.aload_n 1, 1) := by decide +kernel
theorem dX7_sendRequests_16 : decode cX7_sendRequests 16 = .ok (.iload 4, 2) := by decide +kernel
theorem dX7_sendRequests_18 : decode cX7_sendRequests 18 = .ok (.invokevirtual 256, 3) := by decide +kernel
theorem dX7_sendRequests_21 : decode cX7_sendRequests 21 = .ok (.ifCond .ne 14, 3) := by decide +kernel
theorem dX7_sendRequests_24 : decode cX7_sendRequests 24 = .ok (.aload_n 0, 1) := by decide +kernel
theorem dX7_sendRequests_25 : decode cX7_sendRequests 25 = .ok (.aload_n 1, 1) := by decide +kernel
theorem dX7_sendRequests_26 : decode cX7_sendRequests 26 = .ok (.aload_n 2, 1) := by decide +kernel
theorem dX7_sendRequests_27 : decode cX7_sendRequests 27 = .ok (.iload 4, 2) := by decide +kernel
theorem dX7_sendRequests_29 : decode cX7_sendRequests 29 = .ok (.invokevirtual 259, 3) := by decide +kernel
theorem dX7_sendRequests_32 : decode cX7_sendRequests 32 = .ok (.iinc 3 1, 3) := by decide +kernel
theorem dX7_sendRequests_35 : decode cX7_sendRequests 35 = .ok (.iinc 4 1, 3) := by decide +kernel
theorem dX7_sendRequests_38 : decode cX7_sendRequests 38 = .ok (.goto (-33), 3) := by decide +kernel
theorem dX7_sendRequests_41 : decode cX7_sendRequests 41 = .ok (.iload_n 3, 1) := by decide +kernel
theorem dX7_sendRequests_42 : decode cX7_sendRequests 42 = .ok (.ireturn, 1) := by decide +kernel
theorem dX7_sendRequest_0 : decode cX7_sendRequest 0 = .ok (.aload_n 0, 1) := by decide +kernel
theorem dX7_sendRequest_1 : decode cX7_sendRequest 1 = .ok (.getfield 65, 3) := by decide +kernel
theorem dX7_sendRequest_4 : decode cX7_sendRequest 4 = .ok (.invokevirtual 154, 3) := by decide +kernel
theorem dX7_sendRequest_7 : decode cX7_sendRequest 7 = .ok (.astore 4, 2) := by decide +kernel
theorem dX7_sendRequest_9 : decode cX7_sendRequest 9 = .ok (.aload 4, 2) := by decide +kernel
theorem dX7_sendRequest_11 : decode cX7_sendRequest 11 = .ok (.ifnonnull 4, 3) := by decide +kernel
theorem dX7_sendRequest_14 : decode cX7_sendRequest 14 = .ok (.return_, 1) := by decide +kernel
theorem dX7_sendRequest_15 : decode cX7_sendRequest 15 = .ok (.aload_n 1, 1) := by decide +kernel
theorem dX7_sendRequest_16 : decode cX7_sendRequest 16 = .ok (.getfield 189, 3) := by decide +kernel
theorem dX7_sendRequest_19 : decode cX7_sendRequest 19 = .ok (.istore 5, 2) := by decide +kernel
theorem dX7_sendRequest_21 : decode cX7_sendRequest 21 = .ok (.aload 4, 2) := by decide +kernel
theorem dX7_sendRequest_23 : decode cX7_sendRequest 23 = .ok (.iconst 0, 1) := by decide +kernel
theorem dX7_sendRequest_24 : decode cX7_sendRequest 24 = .ok (.putfield 134, 3) := by decide +kernel
theorem dX7_sendRequest_27 : decode cX7_sendRequest 27 = .ok (.aload 4, 2) := by decide +kernel
theorem dX7_sendRequest_29 : decode cX7_sendRequest 29 = .ok (.iload_n 3, 1) := by decide +kernel
theorem dX7_sendRequest_30 : decode cX7_sendRequest 30 = .ok (.putfield 195, 3) := by decide +kernel
theorem dX7_sendRequest_33 : decode cX7_sendRequest 33 = .ok (.aload 4, 2) := by decide +kernel
theorem dX7_sendRequest_35 : decode cX7_sendRequest 35 = .ok (.aload_n 1, 1) := by decide +kernel
theorem dX7_sendRequest_36 : decode cX7_sendRequest 36 = .ok (.getfield 245, 3) := by decide +kernel
theorem dX7_sendRequest_39 : decode cX7_sendRequest 39 = .ok (.putfield 198, 3) := by decide +kernel
theorem dX7_sendRequest_42 : decode cX7_sendRequest 42 = .ok (.aload 4, 2) := by decide +kernel
theorem dX7_sendRequest_44 : decode cX7_sendRequest 44 = .ok (.aload_n 2, 1) := by decide +kernel
theorem dX7_sendRequest_45 : decode cX7_sendRequest 45 = .ok (.getfield 119, 3) := by decide +kernel
theorem dX7_sendRequest_48 : decode cX7_sendRequest 48 = .ok (.putfield 201, 3) := by decide +kernel
theorem dX7_sendRequest_51 : decode cX7_sendRequest 51 = .ok (.aload 4, 2) := by decide +kernel
theorem dX7_sendRequest_53 : decode cX7_sendRequest 53 = .ok (.iload 5, 2) := by decide +kernel
theorem dX7_sendRequest_55 : decode cX7_sendRequest 55 = .ok (.putfield 204, 3) := by decide +kernel
theorem dX7_sendRequest_58 : decode cX7_sendRequest 58 = .ok (.aload 4, 2) := by decide +kernel
theorem dX7_sendRequest_60 : decode cX7_sendRequest 60 = .ok (.aload_n 1, 1) := by decide +kernel
theorem dX7_sendRequest_61 : decode cX7_sendRequest 61 = .ok (.getfield 246, 3) := by decide +kernel
theorem dX7_sendRequest_64 : decode cX7_sendRequest 64 = .ok (.putfield 207, 3) := by decide +kernel
theorem dX7_sendRequest_67 : decode cX7_sendRequest 67 = .ok (.aload 4, 2) := by decide +kernel
theorem dX7_sendRequest_69 : decode cX7_sendRequest 69 = .ok (.iconst (-1), 1) := by decide +kernel
theorem dX7_sendRequest_70 : decode cX7_sendRequest 70 = .ok (.putfield 262, 3) := by decide +kernel
theorem dX7_sendRequest_73 : decode cX7_sendRequest 73 = .ok (.aload 4, 2) := by decide +kernel
theorem dX7_sendRequest_75 : decode cX7_sendRequest 75 = .ok (.iload 5, 2) := by decide +kernel
theorem dX7_sendRequest_77 : decode cX7_sendRequest 77 = .ok (.iconst 3, 1) := by decide +kernel
theorem dX7_sendRequest_78 : decode cX7_sendRequest 78 = .ok (.if_icmp .eq 9, 3) := by decide +kernel
theorem dX7_sendRequest_81 : decode cX7_sendRequest 81 = .ok (.iload 5, 2) := by decide +kernel
theorem dX7_sendRequest_83 : decode cX7_sendRequest 83 = .ok (.iconst 5, 1) := by decide +kernel
theorem dX7_sendRequest_84 : decode cX7_sendRequest 84 = .ok (.if_icmp .ne 10, 3) := by decide +kernel
theorem dX7_sendRequest_87 : decode cX7_sendRequest 87 = .ok (.aload_n 2, 1) := by decide +kernel
theorem dX7_sendRequest_88 : decode cX7_sendRequest 88 = .ok (.getfield 226, 3) := by decide +kernel
theorem dX7_sendRequest_91 : decode cX7_sendRequest 91 = .ok (.goto 4, 3) := by decide +kernel
theorem dX7_sendRequest_94 : decode cX7_sendRequest 94 = .ok (.iconst (-1), 1) := by decide +kernel
theorem dX7_sendRequest_95 : decode cX7_sendRequest 95 = .ok (.putfield 206, 3) := by decide +kernel
theorem dX7_sendRequest_98 : decode cX7_sendRequest 98 = .ok (.iload 5, 2) := by decide +kernel
theorem dX7_sendRequest_100 : decode cX7_sendRequest 100 = .ok (.iconst 2, 1) := by decide +kernel
theorem dX7_sendRequest_101 : decode cX7_sendRequest 101 = .ok (.if_icmp .eq 9, 3) := by decide +kernel
theorem dX7_sendRequest_104 : decode cX7_sendRequest 104 = .ok (.iload 5, 2) := by decide +kernel
theorem dX7_sendRequest_106 : decode cX7_sendRequest 106 = .ok (.iconst 4, 1) := by decide +kernel
theorem dX7_sendRequest_107 : decode cX7_sendRequest 107 = .ok (.if_icmp .ne 18, 3) := by decide +kernel
theorem dX7_sendRequest_110 : decode cX7_sendRequest 110 = .ok (.aload 4, 2) := by decide +kernel
theorem dX7_sendRequest_112 : decode cX7_sendRequest 112 = .ok (.getfield 205, 3) := by decide +kernel
theorem dX7_sendRequest_115 : decode cX7_sendRequest 115 = .ok (.aload_n 1, 1) := by decide +kernel
theorem dX7_sendRequest_116 : decode cX7_sendRequest 116 = .ok (.getfield 247, 3) := by decide +kernel
theorem dX7_sendRequest_119 : decode cX7_sendRequest 119 = .ok (.invokevirtual 263, 3) := by decide +kernel
theorem dX7_sendRequest_122 : decode cX7_sendRequest 122 = .ok (.goto 14, 3) := by decide +kernel
theorem dX7_sendRequest_125 : decode cX7_sendRequest 125 = .ok (.aload 4, 2) := by decide +kernel
theorem dX7_sendRequest_127 : decode cX7_sendRequest 127 = .ok (.getfield 205, 3) := by decide +kernel
theorem dX7_sendRequest_130 : decode cX7_sendRequest 130 = .ok (.iconst 0, 1) := by decide +kernel
theorem dX7_sendRequest_131 : decode cX7_sendRequest 131 = .ok (.iconst 0, 1) := by decide +kernel
theorem dX7_sendRequest_132 : decode cX7_sendRequest 132 = .ok (.lconst 0, 1) := by decide +kernel
theorem dX7_sendRequest_133 : decode cX7_sendRequest 133 = .ok (.invokevirtual 248, 3) := by decide +kernel
theorem dX7_sendRequest_136 : decode cX7_sendRequest 136 = .ok (.return_, 1) := by decide +kernel
theorem dX7_canPass_0 : decode cX7_canPass 0 = .ok (.aload_n 0, 1) := by decide +kernel
theorem dX7_canPass_1 : decode cX7_canPass 1 = .ok (.aload_n 1, 1) := by decide +kernel
theorem dX7_canPass_2 : decode cX7_canPass 2 = .ok (.getfield 195, 3) := by decide +kernel
theorem dX7_canPass_5 : decode cX7_canPass 5 = .ok (.invokevirtual 161, 3) := by decide +kernel
theorem dX7_canPass_8 : decode cX7_canPass 8 = .ok (.astore_n 2, 1) := by decide +kernel
theorem dX7_canPass_9 : decode cX7_canPass 9 = .ok (.aload_n 0, 1) := by decide +kernel
theorem dX7_canPass_10 : decode cX7_canPass 10 = .ok (.aload_n 1, 1) := by decide +kernel
theorem dX7_canPass_11 : decode cX7_canPass 11 = .ok (.getfield 198, 3) := by decide +kernel
theorem dX7_canPass_14 : decode cX7_canPass 14 = .ok (.invokevirtual 69, 3) := by decide +kernel
theorem dX7_canPass_17 : decode cX7_canPass 17 = .ok (.astore_n 3, 1) := by decide +kernel
theorem dX7_canPass_18 : decode cX7_canPass 18 = .ok (.aload_n 2, 1) := by decide +kernel
theorem dX7_canPass_19 : decode cX7_canPass 19 = .ok (.ifnull 29, 3) := by decide +kernel
theorem dX7_canPass_22 : decode cX7_canPass 22 = .ok (.aload_n 3, 1) := by decide +kernel
theorem dX7_canPass_23 : decode cX7_canPass 23 = .ok (.ifnull 25, 3) := by decide +kernel
theorem dX7_canPass_26 : decode cX7_canPass 26 = .ok (.aload_n 2, 1) := by decide +kernel
theorem dX7_canPass_27 : decode cX7_canPass 27 = .ok (.getfield 165, 3) := by decide +kernel
theorem dX7_canPass_30 : decode cX7_canPass 30 = .ok (.ifCond .ne 18, 3) := by decide +kernel
theorem dX7_canPass_33 : decode cX7_canPass 33 = .ok (.aload_n 2, 1) := by decide +kernel
theorem dX7_canPass_34 : decode cX7_canPass 34 = .ok (.getfield 168, 3) := by decide +kernel
theorem dX7_canPass_37 : decode cX7_canPass 37 = .ok (.aload_n 3, 1) := by decide +kernel
theorem dX7_canPass_38 : decode cX7_canPass 38 = .ok (.getfield 171, 3) := by decide +kernel
theorem dX7_canPass_41 : decode cX7_canPass 41 = .ok (.if_icmp .ne 7, 3) := by decide +kernel
theorem dX7_canPass_44 : decode cX7_canPass 44 = .ok (.iconst 1, 1) := by decide +kernel
theorem dX7_canPass_45 : decode cX7_canPass 45 = .ok (.goto 4, 3) := by decide +kernel
theorem dX7_canPass_48 : decode cX7_canPass 48 = .ok (.iconst 0, 1) := by decide +kernel
theorem dX7_canPass_49 : decode cX7_canPass 49 = .ok (.ireturn, 1) := by decide +kernel
end
section
theorem dX7_serve_0 : decode cX7_serve 0 = .ok (.aload_n 0, 1) := by decide +kernel
theorem dX7_serve_1 : decode cX7_serve 1 = .ok (.aload_n 1, 1) := by decide +kernel
theorem dX7_serve_2 : decode cX7_serve 2 = .ok (.getfield 195, 3) := by decide +kernel
theorem dX7_serve_5 : decode cX7_serve 5 = .ok (.invokevirtual 161, 3) := by decide +kernel
theorem dX7_serve_8 : decode cX7_serve 8 = .ok (.astore_n 2, 1) := by decide +kernel
theorem dX7_serve_9 : decode cX7_serve 9 = .ok (.aload_n 2, 1) := by decide +kernel
theorem dX7_serve_10 : decode cX7_serve 10 = .ok (.ifnonnull 4, 3) := by decide +kernel
theorem dX7_serve_13 : decode cX7_serve 13 = .ok (.return_, 1) := by decide +kernel
theorem dX7_serve_14 : decode cX7_serve 14 = .ok (.aload_n 2, 1) := by decide +kernel
theorem dX7_serve_15 : decode cX7_serve 15 = .ok (.aload_n 1, 1) := by decide +kernel
theorem dX7_serve_16 : decode cX7_serve 16 = .ok (.invokevirtual 267, 3) := by decide +kernel
theorem dX7_serve_19 : decode cX7_serve 19 = .ok (.aload_n 0, 1) := by decide +kernel
theorem dX7_serve_20 : decode cX7_serve 20 = .ok (.getfield 65, 3) := by decide +kernel
theorem dX7_serve_23 : decode cX7_serve 23 = .ok (.invokevirtual 154, 3) := by decide +kernel
theorem dX7_serve_26 : decode cX7_serve 26 = .ok (.astore_n 3, 1) := by decide +kernel
theorem dX7_serve_27 : decode cX7_serve 27 = .ok (.aload_n 3, 1) := by decide +kernel
theorem dX7_serve_28 : decode cX7_serve 28 = .ok (.ifnonnull 4, 3) := by decide +kernel
theorem dX7_serve_31 : decode cX7_serve 31 = .ok (.return_, 1) := by decide +kernel
theorem dX7_serve_32 : decode cX7_serve 32 = .ok (.aload_n 3, 1) := by decide +kernel
theorem dX7_serve_33 : decode cX7_serve 33 = .ok (.aload_n 1, 1) := by decide +kernel
theorem dX7_serve_34 : decode cX7_serve 34 = .ok (.invokevirtual 158, 3) := by decide +kernel
theorem dX7_serve_37 : decode cX7_serve 37 = .ok (.aload_n 3, 1) := by decide +kernel
theorem dX7_serve_38 : decode cX7_serve 38 = .ok (.iconst 1, 1) := by decide +kernel
theorem dX7_serve_39 : decode cX7_serve 39 = .ok (.putfield 134, 3) := by decide +kernel
theorem dX7_serve_42 : decode cX7_serve 42 = .ok (.aload_n 3, 1) := by decide +kernel
theorem dX7_serve_43 : decode cX7_serve 43 = .ok (.aload_n 2, 1) := by decide +kernel
theorem dX7_serve_44 : decode cX7_serve 44 = .ok (.getfield 184, 3) := by decide +kernel
theorem dX7_serve_47 : decode cX7_serve 47 = .ok (.putfield 262, 3) := by decide +kernel
theorem dX7_serve_50 : decode cX7_serve 50 = .ok (.aload_n 3, 1) := by decide +kernel
theorem dX7_serve_51 : decode cX7_serve 51 = .ok (.aload_n 2, 1) := by decide +kernel
theorem dX7_serve_52 : decode cX7_serve 52 = .ok (.getfield 185, 3) := by decide +kernel
theorem dX7_serve_55 : decode cX7_serve 55 = .ok (.putfield 206, 3) := by decide +kernel
theorem dX7_serve_58 : decode cX7_serve 58 = .ok (.aload_n 3, 1) := by decide +kernel
theorem dX7_serve_59 : decode cX7_serve 59 = .ok (.getfield 205, 3) := by decide +kernel
theorem dX7_serve_62 : decode cX7_serve 62 = .ok (.aload_n 2, 1) := by decide +kernel
theorem dX7_serve_63 : decode cX7_serve 63 = .ok (.getfield 172, 3) := by decide +kernel
theorem dX7_serve_66 : decode cX7_serve 66 = .ok (.invokevirtual 263, 3) := by decide +kernel
theorem dX7_serve_69 : decode cX7_serve 69 = .ok (.return_, 1) := by decide +kernel
theorem dX7_hear_0 : decode cX7_hear 0 = .ok (.aload_n 0, 1) := by decide +kernel
theorem dX7_hear_1 : decode cX7_hear 1 = .ok (.aload_n 1, 1) := by decide +kernel
theorem dX7_hear_2 : decode cX7_hear 2 = .ok (.getfield 198, 3) := by decide +kernel
theorem dX7_hear_5 : decode cX7_hear 5 = .ok (.invokevirtual 69, 3) := by decide +kernel
theorem dX7_hear_8 : decode cX7_hear 8 = .ok (.astore_n 2, 1) := by decide +kernel
theorem dX7_hear_9 : decode cX7_hear 9 = .ok (.aload_n 2, 1) := by decide +kernel
theorem dX7_hear_10 : decode cX7_hear 10 = .ok (.ifnonnull 4, 3) := by decide +kernel
theorem dX7_hear_13 : decode cX7_hear 13 = .ok (.return_, 1) := by decide +kernel
theorem dX7_hear_14 : decode cX7_hear 14 = .ok (.aload_n 2, 1) := by decide +kernel
theorem dX7_hear_15 : decode cX7_hear 15 = .ok (.getfield 105, 3) := by decide +kernel
theorem dX7_hear_18 : decode cX7_hear 18 = .ok (.astore_n 3, 1) := by decide +kernel
theorem dX7_hear_19 : decode cX7_hear 19 = .ok (.aload_n 3, 1) := by decide +kernel
theorem dX7_hear_20 : decode cX7_hear 20 = .ok (.ifnull 12, 3) := by decide +kernel
theorem dX7_hear_23 : decode cX7_hear 23 = .ok (.aload_n 2, 1) := by decide +kernel
theorem dX7_hear_24 : decode cX7_hear 24 = .ok (.aload_n 1, 1) := by decide +kernel
theorem dX7_hear_25 : decode cX7_hear 25 = .ok (.aload_n 3, 1) := by decide +kernel
theorem dX7_hear_26 : decode cX7_hear 26 = .ok (.invokevirtual 270, 3) := by decide +kernel
theorem dX7_hear_29 : decode cX7_hear 29 = .ok (.ifCond .ne 4, 3) := by decide +kernel
theorem dX7_hear_32 : decode cX7_hear 32 = .ok (.return_, 1) := by decide +kernel
theorem dX7_hear_33 : decode cX7_hear 33 = .ok (.aload_n 1, 1) := by decide +kernel
theorem dX7_hear_34 : decode cX7_hear 34 = .ok (.getfield 262, 3) := by decide +kernel
theorem dX7_hear_37 : decode cX7_hear 37 = .ok (.aload_n 2, 1) := by decide +kernel
theorem dX7_hear_38 : decode cX7_hear 38 = .ok (.getfield 77, 3) := by decide +kernel
theorem dX7_hear_41 : decode cX7_hear 41 = .ok (.if_icmp .le 7, 3) := by decide +kernel
theorem dX7_hear_44 : decode cX7_hear 44 = .ok (.iconst 1, 1) := by decide +kernel
theorem dX7_hear_45 : decode cX7_hear 45 = .ok (.goto 4, 3) := by decide +kernel
theorem dX7_hear_48 : decode cX7_hear 48 = .ok (.iconst 0, 1) := by decide +kernel
theorem dX7_hear_49 : decode cX7_hear 49 = .ok (.istore 4, 2) := by decide +kernel
theorem dX7_hear_51 : decode cX7_hear 51 = .ok (.aload_n 2, 1) := by decide +kernel
theorem dX7_hear_52 : decode cX7_hear 52 = .ok (.aload_n 1, 1) := by decide +kernel
theorem dX7_hear_53 : decode cX7_hear 53 = .ok (.invokevirtual 274, 3) := by decide +kernel
theorem dX7_hear_56 : decode cX7_hear 56 = .ok (.iload 4, 2) := by decide +kernel
theorem dX7_hear_58 : decode cX7_hear 58 = .ok (.ifCond .eq 21, 3) := by decide +kernel
theorem dX7_hear_61 : decode cX7_hear 61 = .ok (.aload_n 2, 1) := by decide +kernel
theorem dX7_hear_62 : decode cX7_hear 62 = .ok (.getfield 189, 3) := by decide +kernel
theorem dX7_hear_65 : decode cX7_hear 65 = .ok (.iconst 1, 1) := by decide +kernel
theorem dX7_hear_66 : decode cX7_hear 66 = .ok (.if_icmp .ne 13, 3) := by decide +kernel
theorem dX7_hear_69 : decode cX7_hear 69 = .ok (.aload_n 0, 1) := by decide +kernel
theorem dX7_hear_70 : decode cX7_hear 70 = .ok (.aload_n 2, 1) := by decide +kernel
theorem dX7_hear_71 : decode cX7_hear 71 = .ok (.aload_n 3, 1) := by decide +kernel
theorem dX7_hear_72 : decode cX7_hear 72 = .ok (.iconst 1, 1) := by decide +kernel
theorem dX7_hear_73 : decode cX7_hear 73 = .ok (.invokevirtual 252, 3) := by decide +kernel
theorem dX7_hear_76 : decode cX7_hear 76 = .ok (.goto 48, 3) := by decide +kernel
theorem dX7_hear_79 : decode cX7_hear 79 = .ok (.aload_n 0, 1) := by decide +kernel
theorem dX7_hear_80 : decode cX7_hear 80 = .ok (.aload_n 2, 1) := by decide +kernel
theorem dX7_hear_81 : decode cX7_hear 81 = .ok (.aload_n 3, 1) := by decide +kernel
theorem dX7_hear_82 : decode cX7_hear 82 = .ok (.invokevirtual 277, 3) := by decide +kernel
theorem dX7_hear_85 : decode cX7_hear 85 = .ok (.ifCond .eq 39, 3) := by decide +kernel
theorem dX7_hear_88 : decode cX7_hear 88 = .ok (.aload_n 0, 1) := by decide +kernel
theorem dX7_hear_89 : decode cX7_hear 89 = .ok (.aload_n 2, 1) := by decide +kernel
theorem dX7_hear_90 : decode cX7_hear 90 = .ok (.aload_n 3, 1) := by decide +kernel
theorem dX7_hear_91 : decode cX7_hear 91 = .ok (.invokevirtual 281, 3) := by decide +kernel
theorem dX7_hear_94 : decode cX7_hear 94 = .ok (.istore 5, 2) := by decide +kernel
theorem dX7_hear_96 : decode cX7_hear 96 = .ok (.iload 5, 2) := by decide +kernel
theorem dX7_hear_98 : decode cX7_hear 98 = .ok (.ifCond .ne 18, 3) := by decide +kernel
theorem dX7_hear_101 : decode cX7_hear 101 = .ok (.aload_n 3, 1) := by decide +kernel
theorem dX7_hear_102 : decode cX7_hear 102 = .ok (.aload_n 0, 1) := by decide +kernel
theorem dX7_hear_103 : decode cX7_hear 103 = .ok (.getfield 113, 3) := by decide +kernel
theorem dX7_hear_106 : decode cX7_hear 106 = .ok (.putfield 221, 3) := by decide +kernel
theorem dX7_hear_109 : decode cX7_hear 109 = .ok (.aload_n 2, 1) := by decide +kernel
theorem dX7_hear_110 : decode cX7_hear 110 = .ok (.invokevirtual 116, 3) := by decide +kernel
theorem dX7_hear_113 : decode cX7_hear 113 = .ok (.goto 11, 3) := by decide +kernel
theorem dX7_hear_116 : decode cX7_hear 116 = .ok (.aload_n 0, 1) := by decide +kernel
theorem dX7_hear_117 : decode cX7_hear 117 = .ok (.aload_n 2, 1) := by decide +kernel
theorem dX7_hear_118 : decode cX7_hear 118 = .ok (.aload_n 3, 1) := by decide +kernel
theorem dX7_hear_119 : decode cX7_hear 119 = .ok (.iload 5, 2) := by decide +kernel
theorem dX7_hear_121 : decode cX7_hear 121 = .ok (.invokevirtual 252, 3) := by decide +kernel
theorem dX7_hear_124 : decode cX7_hear 124 = .ok (.return_, 1) := by decide +kernel
theorem dX7_hasQuorum_0 : decode cX7_hasQuorum 0 = .ok (.aload_n 1, 1) := by decide +kernel
theorem dX7_hasQuorum_1 : decode cX7_hasQuorum 1 = .ok (.getfield 77, 3) := by decide +kernel
theorem dX7_hasQuorum_4 : decode cX7_hasQuorum 4 = .ok (.istore_n 3, 1) := by decide +kernel
theorem dX7_hasQuorum_5 : decode cX7_hasQuorum 5 = .ok (.aload_n 1, 1) := by decide +kernel
theorem dX7_hasQuorum_6 : decode cX7_hasQuorum 6 = .ok (.getfield 80, 3) := by decide +kernel
theorem dX7_hasQuorum_9 : decode cX7_hasQuorum 9 = .ok (.istore 4, 2) := by decide +kernel
theorem dX7_hasQuorum_11 : decode cX7_hasQuorum 11 = .ok (.aload_n 1, 1) := by decide +kernel
theorem dX7_hasQuorum_12 : decode cX7_hasQuorum 12 = .ok (.getfield 189, 3) := by decide +kernel
theorem dX7_hasQuorum_15 : decode cX7_hasQuorum 15 = .ok (.iconst 3, 1) := by decide +kernel
theorem dX7_hasQuorum_16 : decode cX7_hasQuorum 16 = .ok (.if_icmp .ne 14, 3) := by decide +kernel
theorem dX7_hasQuorum_19 : decode cX7_hasQuorum 19 = .ok (.aload_n 2, 1) := by decide +kernel
theorem dX7_hasQuorum_20 : decode cX7_hasQuorum 20 = .ok (.getfield 226, 3) := by decide +kernel
theorem dX7_hasQuorum_23 : decode cX7_hasQuorum 23 = .ok (.iconst 1, 1) := by decide +kernel
theorem dX7_hasQuorum_24 : decode cX7_hasQuorum 24 = .ok (.isub, 1) := by decide +kernel
theorem dX7_hasQuorum_25 : decode cX7_hasQuorum 25 = .ok (.istore 4, 2) := by decide +kernel
theorem dX7_hasQuorum_27 : decode cX7_hasQuorum 27 = .ok (.goto 30, 3) := by decide +kernel
theorem dX7_hasQuorum_30 : decode cX7_hasQuorum 30 = .ok (.aload_n 1, 1) := by decide +kernel
theorem dX7_hasQuorum_31 : decode cX7_hasQuorum 31 = .ok (.getfield 189, 3) := by decide +kernel
theorem dX7_hasQuorum_34 : decode cX7_hasQuorum 34 = .ok (.iconst 4, 1) := by decide +kernel
theorem dX7_hasQuorum_35 : decode cX7_hasQuorum 35 = .ok (.if_icmp .eq 11, 3) := by decide +kernel
theorem dX7_hasQuorum_38 : decode cX7_hasQuorum 38 = .ok (.aload_n 1, 1) := by decide +kernel
theorem dX7_hasQuorum_39 : decode cX7_hasQuorum 39 = .ok (.getfield 189, 3) := by decide +kernel
theorem dX7_hasQuorum_42 : decode cX7_hasQuorum 42 = .ok (.iconst 5, 1) := by decide +kernel
theorem dX7_hasQuorum_43 : decode cX7_hasQuorum 43 = .ok (.if_icmp .ne 14, 3) := by decide +kernel
theorem dX7_hasQuorum_46 : decode cX7_hasQuorum 46 = .ok (.aload_n 2, 1) := by decide +kernel
theorem dX7_hasQuorum_47 : decode cX7_hasQuorum 47 = .ok (.getfield 226, 3) := by decide +kernel
theorem dX7_hasQuorum_50 : decode cX7_hasQuorum 50 = .ok (.istore_n 3, 1) := by decide +kernel
theorem dX7_hasQuorum_51 : decode cX7_hasQuorum 51 = .ok (.aload_n 2, 1) := by decide +kernel
theorem dX7_hasQuorum_52 : decode cX7_hasQuorum 52 = .ok (.getfield 226, 3) := by decide +kernel
theorem dX7_hasQuorum_55 : decode cX7_hasQuorum 55 = .ok (.istore 4, 2) := by decide +kernel
theorem dX7_hasQuorum_57 : decode cX7_hasQuorum 57 = .ok (.iload_n 3, 1) := by decide +kernel
theorem dX7_hasQuorum_58 : decode cX7_hasQuorum 58 = .ok (.istore 5, 2) := by decide +kernel
theorem dX7_hasQuorum_60 : decode cX7_hasQuorum 60 = .ok (.iload 5, 2) := by decide +kernel
theorem dX7_hasQuorum_62 : decode cX7_hasQuorum 62 = .ok (.iload 4, 2) := by decide +kernel
theorem dX7_hasQuorum_64 : decode cX7_hasQuorum 64 = .ok (.if_icmp .gt 66, 3) := by decide +kernel
theorem dX7_hasQuorum_67 : decode cX7_hasQuorum 67 = .ok (.aload_n 0, 1) := by decide +kernel
theorem dX7_hasQuorum_68 : decode cX7_hasQuorum 68 = .ok (.iload 5, 2) := by decide +kernel
theorem dX7_hasQuorum_70 : decode cX7_hasQuorum 70 = .ok (.invokevirtual 229, 3) := by decide +kernel
theorem dX7_hasQuorum_73 : decode cX7_hasQuorum 73 = .ok (.astore 6, 2) := by decide +kernel
theorem dX7_hasQuorum_75 : decode cX7_hasQuorum 75 = .ok (.aload 6, 2) := by decide +kernel
theorem dX7_hasQuorum_77 : decode cX7_hasQuorum 77 = .ok (.ifnonnull 5, 3) := by decide +kernel
theorem dX7_hasQuorum_80 : decode cX7_hasQuorum 80 = .ok (.iconst 0, 1) := by decide +kernel
theorem dX7_hasQuorum_81 : decode cX7_hasQuorum 81 = .ok (.ireturn, 1) := by decide +kernel
theorem dX7_hasQuorum_82 : decode cX7_hasQuorum 82 = .ok (.aload_n 1, 1) := by decide +kernel
theorem dX7_hasQuorum_83 : decode cX7_hasQuorum 83 = .ok (.getfield 189, 3) := by decide +kernel
theorem dX7_hasQuorum_86 : decode cX7_hasQuorum 86 = .ok (.iconst 1, 1) := by decide +kernel
theorem dX7_hasQuorum_87 : decode cX7_hasQuorum 87 = .ok (.if_icmp .ne 11, 3) := by decide +kernel
theorem dX7_hasQuorum_90 : decode cX7_hasQuorum 90 = .ok (.aload 6, 2) := by decide +kernel
theorem dX7_hasQuorum_92 : decode cX7_hasQuorum 92 = .ok (.getfield 236, 3) := by decide +kernel
theorem dX7_hasQuorum_95 : decode cX7_hasQuorum 95 = .ok (.goto 8, 3) := by decide +kernel
theorem dX7_hasQuorum_98 : decode cX7_hasQuorum 98 = .ok (.aload 6, 2) := by decide +kernel
theorem dX7_hasQuorum_100 : decode cX7_hasQuorum 100 = .ok (.getfield 239, 3) := by decide +kernel
theorem dX7_hasQuorum_103 : decode cX7_hasQuorum 103 = .ok (.istore 7, 2) := by decide +kernel
theorem dX7_hasQuorum_105 : decode cX7_hasQuorum 105 = .ok (.aload 6, 2) := by decide +kernel
theorem dX7_hasQuorum_107 : decode cX7_hasQuorum 107 = .ok (.getfield 233, 3) := by decide +kernel
theorem dX7_hasQuorum_110 : decode cX7_hasQuorum 110 = .ok (.aload_n 1, 1) := by decide +kernel
theorem dX7_hasQuorum_111 : decode cX7_hasQuorum 111 = .ok (.getfield 192, 3) := by decide +kernel
theorem dX7_hasQuorum_114 : decode cX7_hasQuorum 114 = .ok (.invokestatic 284, 3) := by decide +kernel
theorem dX7_hasQuorum_117 : decode cX7_hasQuorum 117 = .ok (.iload 7, 2) := by decide +kernel
theorem dX7_hasQuorum_119 : decode cX7_hasQuorum 119 = .ok (.if_icmp .ge 5, 3) := by decide +kernel
theorem dX7_hasQuorum_122 : decode cX7_hasQuorum 122 = .ok (.iconst 0, 1) := by decide +kernel
theorem dX7_hasQuorum_123 : decode cX7_hasQuorum 123 = .ok (.ireturn, 1) := by decide +kernel
theorem dX7_hasQuorum_124 : decode cX7_hasQuorum 124 = .ok (.iinc 5 1, 3) := by decide +kernel
theorem dX7_hasQuorum_127 : decode cX7_hasQuorum 127 = .ok (.goto (-67), 3) := by decide +kernel
theorem dX7_hasQuorum_130 : decode cX7_hasQuorum 130 = .ok (.iconst 1, 1) := by decide +kernel
theorem dX7_hasQuorum_131 : decode cX7_hasQuorum 131 = .ok (.ireturn, 1) := by decide +kernel
theorem dX7_endPhase_0 : decode cX7_endPhase 0 = .ok (.aload_n 1, 1) := by decide +kernel
theorem dX7_endPhase_1 : decode cX7_endPhase 1 = .ok (.getfield 189, 3) := by decide +kernel
theorem dX7_endPhase_4 : decode cX7_endPhase 4 = .ok (.tableswitch 114 1 4 #[32, 74, 102, 112], 32) := by decide +kernel
theorem dX7_endPhase_36 : decode cX7_endPhase 36 = .ok (.aload_n 2, 1) := by decide +kernel
theorem dX7_endPhase_37 : decode cX7_endPhase 37 = .ok (.getfield 214, 3) := by decide +kernel
theorem dX7_endPhase_40 : decode cX7_endPhase 40 = .ok (.iconst 1, 1) := by decide +kernel
theorem dX7_endPhase_41 : decode cX7_endPhase 41 = .ok (.if_icmp .ne 35, 3) := by decide +kernel
theorem dX7_endPhase_44 : decode cX7_endPhase 44 = .ok (.aload_n 1, 1) := by decide +kernel
theorem dX7_endPhase_45 : decode cX7_endPhase 45 = .ok (.getfield 247, 3) := by decide +kernel
theorem dX7_endPhase_48 : decode cX7_endPhase 48 = .ok (.aload_n 1, 1) := by decide +kernel
theorem dX7_endPhase_49 : decode cX7_endPhase 49 = .ok (.getfield 247, 3) := by decide +kernel
theorem dX7_endPhase_52 : decode cX7_endPhase 52 = .ok (.getfield 176, 3) := by decide +kernel
theorem dX7_endPhase_55 : decode cX7_endPhase 55 = .ok (.iconst 1, 1) := by decide +kernel
theorem dX7_endPhase_56 : decode cX7_endPhase 56 = .ok (.iadd, 1) := by decide +kernel
theorem dX7_endPhase_57 : decode cX7_endPhase 57 = .ok (.aload_n 2, 1) := by decide +kernel
theorem dX7_endPhase_58 : decode cX7_endPhase 58 = .ok (.getfield 119, 3) := by decide +kernel
theorem dX7_endPhase_61 : decode cX7_endPhase 61 = .ok (.aload_n 2, 1) := by decide +kernel
theorem dX7_endPhase_62 : decode cX7_endPhase 62 = .ok (.getfield 101, 3) := by decide +kernel
theorem dX7_endPhase_65 : decode cX7_endPhase 65 = .ok (.invokevirtual 248, 3) := by decide +kernel
theorem dX7_endPhase_68 : decode cX7_endPhase 68 = .ok (.aload_n 2, 1) := by decide +kernel
theorem dX7_endPhase_69 : decode cX7_endPhase 69 = .ok (.aload_n 1, 1) := by decide +kernel
theorem dX7_endPhase_70 : decode cX7_endPhase 70 = .ok (.getfield 247, 3) := by decide +kernel
theorem dX7_endPhase_73 : decode cX7_endPhase 73 = .ok (.invokevirtual 288, 3) := by decide +kernel
theorem dX7_endPhase_76 : decode cX7_endPhase 76 = .ok (.iconst 2, 1) := by decide +kernel
theorem dX7_endPhase_77 : decode cX7_endPhase 77 = .ok (.ireturn, 1) := by decide +kernel
theorem dX7_endPhase_78 : decode cX7_endPhase 78 = .ok (.aload_n 2, 1) := by decide +kernel
theorem dX7_endPhase_79 : decode cX7_endPhase 79 = .ok (.getfield 214, 3) := by decide +kernel
theorem dX7_endPhase_82 : decode cX7_endPhase 82 = .ok (.ifCond .ne 22, 3) := by decide +kernel
theorem dX7_endPhase_85 : decode cX7_endPhase 85 = .ok (.aload_n 2, 1) := by decide +kernel
theorem dX7_endPhase_86 : decode cX7_endPhase 86 = .ok (.aload_n 1, 1) := by decide +kernel
theorem dX7_endPhase_87 : decode cX7_endPhase 87 = .ok (.getfield 247, 3) := by decide +kernel
theorem dX7_endPhase_90 : decode cX7_endPhase 90 = .ok (.invokevirtual 288, 3) := by decide +kernel
theorem dX7_endPhase_93 : decode cX7_endPhase 93 = .ok (.aload_n 2, 1) := by decide +kernel
theorem dX7_endPhase_94 : decode cX7_endPhase 94 = .ok (.aload_n 1, 1) := by decide +kernel
theorem dX7_endPhase_95 : decode cX7_endPhase 95 = .ok (.getfield 247, 3) := by decide +kernel
theorem dX7_endPhase_98 : decode cX7_endPhase 98 = .ok (.getfield 186, 3) := by decide +kernel
theorem dX7_endPhase_101 : decode cX7_endPhase 101 = .ok (.putfield 101, 3) := by decide +kernel
theorem dX7_endPhase_104 : decode cX7_endPhase 104 = .ok (.iconst 0, 1) := by decide +kernel
theorem dX7_endPhase_105 : decode cX7_endPhase 105 = .ok (.ireturn, 1) := by decide +kernel
theorem dX7_endPhase_106 : decode cX7_endPhase 106 = .ok (.aload_n 2, 1) := by decide +kernel
theorem dX7_endPhase_107 : decode cX7_endPhase 107 = .ok (.aload_n 1, 1) := by decide +kernel
theorem dX7_endPhase_108 : decode cX7_endPhase 108 = .ok (.getfield 247, 3) := by decide +kernel
theorem dX7_endPhase_111 : decode cX7_endPhase 111 = .ok (.invokevirtual 288, 3) := by decide +kernel
theorem dX7_endPhase_114 : decode cX7_endPhase 114 = .ok (.iconst 4, 1) := by decide +kernel
theorem dX7_endPhase_115 : decode cX7_endPhase 115 = .ok (.ireturn, 1) := by decide +kernel
theorem dX7_endPhase_116 : decode cX7_endPhase 116 = .ok (.iconst 5, 1) := by decide +kernel
theorem dX7_endPhase_117 : decode cX7_endPhase 117 = .ok (.ireturn, 1) := by decide +kernel
theorem dX7_endPhase_118 : decode cX7_endPhase 118 = .ok (.iconst 0, 1) := by decide +kernel
theorem dX7_endPhase_119 : decode cX7_endPhase 119 = .ok (.ireturn, 1) := by decide +kernel
theorem dX8_init_0 : decode cX8_init 0 = .ok (.aload_n 0, 1) := by decide +kernel
theorem dX8_init_1 : decode cX8_init 1 = .ok (.invokespecial 1, 3) := by decide +kernel
theorem dX8_init_4 : decode cX8_init 4 = .ok (.aload_n 0, 1) := by decide +kernel
theorem dX8_init_5 : decode cX8_init 5 = .ok (.bipush 7, 2) := by decide +kernel
theorem dX8_init_7 : decode cX8_init 7 = .ok (.newarray .long, 2) := by decide +kernel
theorem dX8_init_9 : decode cX8_init 9 = .ok (.putfield 7, 3) := by decide +kernel
theorem dX8_init_12 : decode cX8_init 12 = .ok (.aload_n 0, 1) := by decide +kernel
theorem dX8_init_13 : decode cX8_init 13 = .ok (.bipush 7, 2) := by decide +kernel
theorem dX8_init_15 : decode cX8_init 15 = .ok (.newarray .int, 2) := by decide +kernel
theorem dX8_init_17 : decode cX8_init 17 = .ok (.putfield 13, 3) := by decide +kernel
theorem dX8_init_20 : decode cX8_init 20 = .ok (.aload_n 0, 1) := by decide +kernel
theorem dX8_init_21 : decode cX8_init 21 = .ok (.bipush 7, 2) := by decide +kernel
theorem dX8_init_23 : decode cX8_init 23 = .ok (.newarray .int, 2) := by decide +kernel
theorem dX8_init_25 : decode cX8_init 25 = .ok (.putfield 17, 3) := by decide +kernel
theorem dX8_init_28 : decode cX8_init 28 = .ok (.aload_n 0, 1) := by decide +kernel
theorem dX8_init_29 : decode cX8_init 29 = .ok (.bipush 7, 2) := by decide +kernel
theorem dX8_init_31 : decode cX8_init 31 = .ok (.newarray .int, 2) := by decide +kernel
theorem dX8_init_33 : decode cX8_init 33 = .ok (.putfield 20, 3) := by decide +kernel
theorem dX8_init_36 : decode cX8_init 36 = .ok (.aload_n 0, 1) := by decide +kernel
theorem dX8_init_37 : decode cX8_init 37 = .ok (.bipush 7, 2) := by decide +kernel
theorem dX8_init_39 : decode cX8_init 39 = .ok (.newarray .int, 2) := by decide +kernel
theorem dX8_init_41 : decode cX8_init 41 = .ok (.putfield 23, 3) := by decide +kernel
theorem dX8_init_44 : decode cX8_init 44 = .ok (.aload_n 0, 1) := by decide +kernel
theorem dX8_init_45 : decode cX8_init 45 = .ok (.bipush 7, 2) := by decide +kernel
theorem dX8_init_47 : decode cX8_init 47 = .ok (.newarray .int, 2) := by decide +kernel
theorem dX8_init_49 : decode cX8_init 49 = .ok (.putfield 26, 3) := by decide +kernel
theorem dX8_init_52 : decode cX8_init 52 = .ok (.aload_n 0, 1) := by decide +kernel
theorem dX8_init_53 : decode cX8_init 53 = .ok (.bipush 7, 2) := by decide +kernel
theorem dX8_init_55 : decode cX8_init 55 = .ok (.newarray .boolean, 2) := by decide +kernel
theorem dX8_init_57 : decode cX8_init 57 = .ok (.putfield 29, 3) := by decide +kernel
theorem dX8_init_60 : decode cX8_init 60 = .ok (.aload_n 0, 1) := by decide +kernel
theorem dX8_init_61 : decode cX8_init 61 = .ok (.sipush 144, 3) := by decide +kernel
theorem dX8_init_64 : decode cX8_init 64 = .ok (.newarray .int, 2) := by decide +kernel
theorem dX8_init_66 : decode cX8_init 66 = .ok (.putfield 33, 3) := by decide +kernel
theorem dX8_init_69 : decode cX8_init 69 = .ok (.aload_n 0, 1) := by decide +kernel
theorem dX8_init_70 : decode cX8_init 70 = .ok (.bipush 7, 2) := by decide +kernel
theorem dX8_init_72 : decode cX8_init 72 = .ok (.newarray .int, 2) := by decide +kernel
theorem dX8_init_74 : decode cX8_init 74 = .ok (.putfield 36, 3) := by decide +kernel
theorem dX8_init_77 : decode cX8_init 77 = .ok (.aload_n 0, 1) := by decide +kernel
theorem dX8_init_78 : decode cX8_init 78 = .ok (.iconst 4, 1) := by decide +kernel
theorem dX8_init_79 : decode cX8_init 79 = .ok (.newarray .int, 2) := by decide +kernel
theorem dX8_init_81 : decode cX8_init 81 = .ok (.putfield 39, 3) := by decide +kernel
theorem dX8_init_84 : decode cX8_init 84 = .ok (.aload_n 0, 1) := by decide +kernel
theorem dX8_init_85 : decode cX8_init 85 = .ok (.iconst 4, 1) := by decide +kernel
theorem dX8_init_86 : decode cX8_init 86 = .ok (.newarray .int, 2) := by decide +kernel
theorem dX8_init_88 : decode cX8_init 88 = .ok (.putfield 42, 3) := by decide +kernel
theorem dX8_init_91 : decode cX8_init 91 = .ok (.aload_n 0, 1) := by decide +kernel
theorem dX8_init_92 : decode cX8_init 92 = .ok (.iconst 4, 1) := by decide +kernel
theorem dX8_init_93 : decode cX8_init 93 = .ok (.newarray .int, 2) := by decide +kernel
theorem dX8_init_95 : decode cX8_init 95 = .ok (.putfield 45, 3) := by decide +kernel
theorem dX8_init_98 : decode cX8_init 98 = .ok (.aload_n 0, 1) := by decide +kernel
theorem dX8_init_99 : decode cX8_init 99 = .ok (.iconst 4, 1) := by decide +kernel
theorem dX8_init_100 : decode cX8_init 100 = .ok (.newarray .int, 2) := by decide +kernel
theorem dX8_init_102 : decode cX8_init 102 = .ok (.putfield 48, 3) := by decide +kernel
theorem dX8_init_105 : decode cX8_init 105 = .ok (.aload_n 0, 1) := by decide +kernel
theorem dX8_init_106 : decode cX8_init 106 = .ok (.iconst 4, 1) := by decide +kernel
theorem dX8_init_107 : decode cX8_init 107 = .ok (.newarray .int, 2) := by decide +kernel
theorem dX8_init_109 : decode cX8_init 109 = .ok (.putfield 51, 3) := by decide +kernel
theorem dX8_init_112 : decode cX8_init 112 = .ok (.aload_n 0, 1) := by decide +kernel
theorem dX8_init_113 : decode cX8_init 113 = .ok (.iconst 4, 1) := by decide +kernel
theorem dX8_init_114 : decode cX8_init 114 = .ok (.newarray .int, 2) := by decide +kernel
theorem dX8_init_116 : decode cX8_init 116 = .ok (.putfield 54, 3) := by decide +kernel
theorem dX8_init_119 : decode cX8_init 119 = .ok (.aload_n 0, 1) := by decide +kernel
theorem dX8_init_120 : decode cX8_init 120 = .ok (.iconst 4, 1) := by decide +kernel
theorem dX8_init_121 : decode cX8_init 121 = .ok (.newarray .int, 2) := by decide +kernel
theorem dX8_init_123 : decode cX8_init 123 = .ok (.putfield 57, 3) := by decide +kernel
theorem dX8_init_126 : decode cX8_init 126 = .ok (.aload_n 0, 1) := by decide +kernel
theorem dX8_init_127 : decode cX8_init 127 = .ok (.iconst 4, 1) := by decide +kernel
theorem dX8_init_128 : decode cX8_init 128 = .ok (.newarray .int, 2) := by decide +kernel
theorem dX8_init_130 : decode cX8_init 130 = .ok (.putfield 60, 3) := by decide +kernel
theorem dX8_init_133 : decode cX8_init 133 = .ok (.aload_n 0, 1) := by decide +kernel
theorem dX8_init_134 : decode cX8_init 134 = .ok (.iconst 4, 1) := by decide +kernel
theorem dX8_init_135 : decode cX8_init 135 = .ok (.newarray .int, 2) := by decide +kernel
theorem dX8_init_137 : decode cX8_init 137 = .ok (.putfield 63, 3) := by decide +kernel
theorem dX8_init_140 : decode cX8_init 140 = .ok (.aload_n 0, 1) := by decide +kernel
theorem dX8_init_141 : decode cX8_init 141 = .ok (.iconst 4, 1) := by decide +kernel
theorem dX8_init_142 : decode cX8_init 142 = .ok (.newarray .long, 2) := by decide +kernel
theorem dX8_init_144 : decode cX8_init 144 = .ok (.putfield 66, 3) := by decide +kernel
theorem dX8_init_147 : decode cX8_init 147 = .ok (.aload_n 0, 1) := by decide +kernel
theorem dX8_init_148 : decode cX8_init 148 = .ok (.sipush 201, 3) := by decide +kernel
theorem dX8_init_151 : decode cX8_init 151 = .ok (.newarray .int, 2) := by decide +kernel
theorem dX8_init_153 : decode cX8_init 153 = .ok (.putfield 69, 3) := by decide +kernel
theorem dX8_init_156 : decode cX8_init 156 = .ok (.aload_n 0, 1) := by decide +kernel
theorem dX8_init_157 : decode cX8_init 157 = .ok (.sipush 201, 3) := by decide +kernel
theorem dX8_init_160 : decode cX8_init 160 = .ok (.newarray .int, 2) := by decide +kernel
theorem dX8_init_162 : decode cX8_init 162 = .ok (.putfield 72, 3) := by decide +kernel
theorem dX8_init_165 : decode cX8_init 165 = .ok (.aload_n 0, 1) := by decide +kernel
theorem dX8_init_166 : decode cX8_init 166 = .ok (.sipush 201, 3) := by decide +kernel
theorem dX8_init_169 : decode cX8_init 169 = .ok (.newarray .int, 2) := by decide +kernel
theorem dX8_init_171 : decode cX8_init 171 = .ok (.putfield 75, 3) := by decide +kernel
theorem dX8_init_174 : decode cX8_init 174 = .ok (.aload_n 0, 1) := by decide +kernel
theorem dX8_init_175 : decode cX8_init 175 = .ok (.sipush 201, 3) := by decide +kernel
theorem dX8_init_178 : decode cX8_init 178 = .ok (.newarray .int, 2) := by decide +kernel
theorem dX8_init_180 : decode cX8_init 180 = .ok (.putfield 78, 3) := by decide +kernel
theorem dX8_init_183 : decode cX8_init 183 = .ok (.aload_n 0, 1) := by decide +kernel
theorem dX8_init_184 : decode cX8_init 184 = .ok (.sipush 201, 3) := by decide +kernel
theorem dX8_init_187 : decode cX8_init 187 = .ok (.newarray .int, 2) := by decide +kernel
theorem dX8_init_189 : decode cX8_init 189 = .ok (.putfield 81, 3) := by decide +kernel
theorem dX8_init_192 : decode cX8_init 192 = .ok (.aload_n 0, 1) := by decide +kernel
theorem dX8_init_193 : decode cX8_init 193 = .ok (.sipush 201, 3) := by decide +kernel
theorem dX8_init_196 : decode cX8_init 196 = .ok (.newarray .int, 2) := by decide +kernel
theorem dX8_init_198 : decode cX8_init 198 = .ok (.putfield 84, 3) := by decide +kernel
theorem dX8_init_201 : decode cX8_init 201 = .ok (.aload_n 0, 1) := by decide +kernel
theorem dX8_init_202 : decode cX8_init 202 = .ok (.sipush 201, 3) := by decide +kernel
theorem dX8_init_205 : decode cX8_init 205 = .ok (.newarray .int, 2) := by decide +kernel
theorem dX8_init_207 : decode cX8_init 207 = .ok (.putfield 87, 3) := by decide +kernel
theorem dX8_init_210 : decode cX8_init 210 = .ok (.aload_n 0, 1) := by decide +kernel
theorem dX8_init_211 : decode cX8_init 211 = .ok (.sipush 201, 3) := by decide +kernel
theorem dX8_init_214 : decode cX8_init 214 = .ok (.newarray .long, 2) := by decide +kernel
theorem dX8_init_216 : decode cX8_init 216 = .ok (.putfield 90, 3) := by decide +kernel
theorem dX8_init_219 : decode cX8_init 219 = .ok (.aload_n 0, 1) := by decide +kernel
theorem dX8_init_220 : decode cX8_init 220 = .ok (.sipush 300, 3) := by decide +kernel
theorem dX8_init_223 : decode cX8_init 223 = .ok (.newarray .boolean, 2) := by decide +kernel
theorem dX8_init_225 : decode cX8_init 225 = .ok (.putfield 93, 3) := by decide +kernel
theorem dX8_init_228 : decode cX8_init 228 = .ok (.aload_n 0, 1) := by decide +kernel
theorem dX8_init_229 : decode cX8_init 229 = .ok (.sipush 300, 3) := by decide +kernel
theorem dX8_init_232 : decode cX8_init 232 = .ok (.newarray .int, 2) := by decide +kernel
theorem dX8_init_234 : decode cX8_init 234 = .ok (.putfield 96, 3) := by decide +kernel
theorem dX8_init_237 : decode cX8_init 237 = .ok (.aload_n 0, 1) := by decide +kernel
theorem dX8_init_238 : decode cX8_init 238 = .ok (.sipush 300, 3) := by decide +kernel
theorem dX8_init_241 : decode cX8_init 241 = .ok (.newarray .int, 2) := by decide +kernel
theorem dX8_init_243 : decode cX8_init 243 = .ok (.putfield 99, 3) := by decide +kernel
theorem dX8_init_246 : decode cX8_init 246 = .ok (.aload_n 0, 1) := by decide +kernel
theorem dX8_init_247 : decode cX8_init 247 = .ok (.sipush 300, 3) := by decide +kernel
theorem dX8_init_250 : decode cX8_init 250 = .ok (.newarray .int, 2) := by decide +kernel
theorem dX8_init_252 : decode cX8_init 252 = .ok (.putfield 102, 3) := by decide +kernel
theorem dX8_init_255 : decode cX8_init 255 = .ok (.aload_n 0, 1) := by decide +kernel
theorem dX8_init_256 : decode cX8_init 256 = .ok (.sipush 300, 3) := by decide +kernel
theorem dX8_init_259 : decode cX8_init 259 = .ok (.newarray .int, 2) := by decide +kernel
theorem dX8_init_261 : decode cX8_init 261 = .ok (.putfield 105, 3) := by decide +kernel
theorem dX8_init_264 : decode cX8_init 264 = .ok (.aload_n 0, 1) := by decide +kernel
theorem dX8_init_265 : decode cX8_init 265 = .ok (.sipush 300, 3) := by decide +kernel
theorem dX8_init_268 : decode cX8_init 268 = .ok (.newarray .int, 2) := by decide +kernel
theorem dX8_init_270 : decode cX8_init 270 = .ok (.putfield 108, 3) := by decide +kernel
theorem dX8_init_273 : decode cX8_init 273 = .ok (.aload_n 0, 1) := by decide +kernel
theorem dX8_init_274 : decode cX8_init 274 = .ok (.sipush 300, 3) := by decide +kernel
theorem dX8_init_277 : decode cX8_init 277 = .ok (.newarray .int, 2) := by decide +kernel
theorem dX8_init_279 : decode cX8_init 279 = .ok (.putfield 111, 3) := by decide +kernel
theorem dX8_init_282 : decode cX8_init 282 = .ok (.aload_n 0, 1) := by decide +kernel
theorem dX8_init_283 : decode cX8_init 283 = .ok (.sipush 300, 3) := by decide +kernel
theorem dX8_init_286 : decode cX8_init 286 = .ok (.newarray .int, 2) := by decide +kernel
theorem dX8_init_288 : decode cX8_init 288 = .ok (.putfield 114, 3) := by decide +kernel
theorem dX8_init_291 : decode cX8_init 291 = .ok (.aload_n 0, 1) := by decide +kernel
theorem dX8_init_292 : decode cX8_init 292 = .ok (.sipush 300, 3) := by decide +kernel
theorem dX8_init_295 : decode cX8_init 295 = .ok (.newarray .int, 2) := by decide +kernel
theorem dX8_init_297 : decode cX8_init 297 = .ok (.putfield 117, 3) := by decide +kernel
theorem dX8_init_300 : decode cX8_init 300 = .ok (.aload_n 0, 1) := by decide +kernel
theorem dX8_init_301 : decode cX8_init 301 = .ok (.sipush 300, 3) := by decide +kernel
theorem dX8_init_304 : decode cX8_init 304 = .ok (.newarray .int, 2) := by decide +kernel
theorem dX8_init_306 : decode cX8_init 306 = .ok (.putfield 120, 3) := by decide +kernel
theorem dX8_init_309 : decode cX8_init 309 = .ok (.aload_n 0, 1) := by decide +kernel
theorem dX8_init_310 : decode cX8_init 310 = .ok (.sipush 300, 3) := by decide +kernel
theorem dX8_init_313 : decode cX8_init 313 = .ok (.newarray .int, 2) := by decide +kernel
theorem dX8_init_315 : decode cX8_init 315 = .ok (.putfield 123, 3) := by decide +kernel
theorem dX8_init_318 : decode cX8_init 318 = .ok (.aload_n 0, 1) := by decide +kernel
theorem dX8_init_319 : decode cX8_init 319 = .ok (.sipush 300, 3) := by decide +kernel
theorem dX8_init_322 : decode cX8_init 322 = .ok (.newarray .long, 2) := by decide +kernel
theorem dX8_init_324 : decode cX8_init 324 = .ok (.putfield 126, 3) := by decide +kernel
theorem dX8_init_327 : decode cX8_init 327 = .ok (.aload_n 0, 1) := by decide +kernel
theorem dX8_init_328 : decode cX8_init 328 = .ok (.iload_n 1, 1) := by decide +kernel
theorem dX8_init_329 : decode cX8_init 329 = .ok (.iconst 1, 1) := by decide +kernel
theorem dX8_init_330 : decode cX8_init 330 = .ok (.if_icmp .ge 7, 3) := by decide +kernel
theorem dX8_init_333 : decode cX8_init 333 = .ok (.iconst 1, 1) := by decide +kernel
theorem dX8_init_334 : decode cX8_init 334 = .ok (.goto 15, 3) := by decide +kernel
theorem dX8_init_337 : decode cX8_init 337 = .ok (.iload_n 1, 1) := by decide +kernel
theorem dX8_init_338 : decode cX8_init 338 = .ok (.bipush 7, 2) := by decide +kernel
theorem dX8_init_340 : decode cX8_init 340 = .ok (.if_icmp .le 8, 3) := by decide +kernel
theorem dX8_init_343 : decode cX8_init 343 = .ok (.bipush 7, 2) := by decide +kernel
theorem dX8_init_345 : decode cX8_init 345 = .ok (.goto 4, 3) := by decide +kernel
theorem dX8_init_348 : decode cX8_init 348 = .ok (.iload_n 1, 1) := by decide +kernel
theorem dX8_init_349 : decode cX8_init 349 = .ok (.putfield 129, 3) := by decide +kernel
theorem dX8_init_352 : decode cX8_init 352 = .ok (.iconst 0, 1) := by decide +kernel
theorem dX8_init_353 : decode cX8_init 353 = .ok (.istore_n 2, 1) := by decide +kernel
theorem dX8_init_354 : decode cX8_init 354 = .ok (.iload_n 2, 1) := by decide +kernel
theorem dX8_init_355 : decode cX8_init 355 = .ok (.aload_n 0, 1) := by decide +kernel
theorem dX8_init_356 : decode cX8_init 356 = .ok (.getfield 129, 3) := by decide +kernel
theorem dX8_init_359 : decode cX8_init 359 = .ok (.if_icmp .ge 23, 3) := by decide +kernel
theorem dX8_init_362 : decode cX8_init 362 = .ok (.aload_n 0, 1) := by decide +kernel
theorem dX8_init_363 : decode cX8_init 363 = .ok (.getfield 36, 3) := by decide +kernel
theorem dX8_init_366 : decode cX8_init 366 = .ok (.iload_n 2, 1) := by decide +kernel
theorem dX8_init_367 : decode cX8_init 367 = .ok (.iconst 1, 1) := by decide +kernel
theorem dX8_init_368 : decode cX8_init 368 = .ok (.iastore, 1) := by decide +kernel
theorem dX8_init_369 : decode cX8_init 369 = .ok (.aload_n 0, 1) := by decide +kernel
theorem dX8_init_370 : decode cX8_init 370 = .ok (.getfield 33, 3) := by decide +kernel
theorem dX8_init_373 : decode cX8_init 373 = .ok (.iload_n 2, 1) := by decide +kernel
theorem dX8_init_374 : decode cX8_init 374 = .ok (.iconst 1, 1) := by decide +kernel
theorem dX8_init_375 : decode cX8_init 375 = .ok (.iastore, 1) := by decide +kernel
theorem dX8_init_376 : decode cX8_init 376 = .ok (.iinc 2 1, 3) := by decide +kernel
theorem dX8_init_379 : decode cX8_init 379 = .ok (.goto (-25), 3) := by decide +kernel
theorem dX8_init_382 : decode cX8_init 382 = .ok (.aload_n 0, 1) := by decide +kernel
theorem dX8_init_383 : decode cX8_init 383 = .ok (.getfield 33, 3) := by decide +kernel
theorem dX8_init_386 : decode cX8_init 386 = .ok (.bipush 7, 2) := by decide +kernel
theorem dX8_init_388 : decode cX8_init 388 = .ok (.aload_n 0, 1) := by decide +kernel
theorem dX8_init_389 : decode cX8_init 389 = .ok (.getfield 129, 3) := by decide +kernel
theorem dX8_init_392 : decode cX8_init 392 = .ok (.iconst 2, 1) := by decide +kernel
theorem dX8_init_393 : decode cX8_init 393 = .ok (.idiv, 1) := by decide +kernel
theorem dX8_init_394 : decode cX8_init 394 = .ok (.iconst 1, 1) := by decide +kernel
theorem dX8_init_395 : decode cX8_init 395 = .ok (.iadd, 1) := by decide +kernel
theorem dX8_init_396 : decode cX8_init 396 = .ok (.iastore, 1) := by decide +kernel
theorem dX8_init_397 : decode cX8_init 397 = .ok (.aload_n 0, 1) := by decide +kernel
theorem dX8_init_398 : decode cX8_init 398 = .ok (.getfield 33, 3) := by decide +kernel
theorem dX8_init_401 : decode cX8_init 401 = .ok (.bipush 8, 2) := by decide +kernel
theorem dX8_init_403 : decode cX8_init 403 = .ok (.aload_n 0, 1) := by decide +kernel
theorem dX8_init_404 : decode cX8_init 404 = .ok (.getfield 129, 3) := by decide +kernel
theorem dX8_init_407 : decode cX8_init 407 = .ok (.iconst 2, 1) := by decide +kernel
theorem dX8_init_408 : decode cX8_init 408 = .ok (.idiv, 1) := by decide +kernel
theorem dX8_init_409 : decode cX8_init 409 = .ok (.iconst 1, 1) := by decide +kernel
theorem dX8_init_410 : decode cX8_init 410 = .ok (.iadd, 1) := by decide +kernel
theorem dX8_init_411 : decode cX8_init 411 = .ok (.iastore, 1) := by decide +kernel
theorem dX8_init_412 : decode cX8_init 412 = .ok (.aload_n 0, 1) := by decide +kernel
theorem dX8_init_413 : decode cX8_init 413 = .ok (.iconst 1, 1) := by decide +kernel
theorem dX8_init_414 : decode cX8_init 414 = .ok (.putfield 133, 3) := by decide +kernel
theorem dX8_init_417 : decode cX8_init 417 = .ok (.iconst 0, 1) := by decide +kernel
theorem dX8_init_418 : decode cX8_init 418 = .ok (.istore_n 2, 1) := by decide +kernel
theorem dX8_init_419 : decode cX8_init 419 = .ok (.iload_n 2, 1) := by decide +kernel
theorem dX8_init_420 : decode cX8_init 420 = .ok (.iconst 4, 1) := by decide +kernel
theorem dX8_init_421 : decode cX8_init 421 = .ok (.if_icmp .ge 16, 3) := by decide +kernel
theorem dX8_init_424 : decode cX8_init 424 = .ok (.aload_n 0, 1) := by decide +kernel
theorem dX8_init_425 : decode cX8_init 425 = .ok (.getfield 39, 3) := by decide +kernel
theorem dX8_init_428 : decode cX8_init 428 = .ok (.iload_n 2, 1) := by decide +kernel
theorem dX8_init_429 : decode cX8_init 429 = .ok (.iconst (-1), 1) := by decide +kernel
theorem dX8_init_430 : decode cX8_init 430 = .ok (.iastore, 1) := by decide +kernel
theorem dX8_init_431 : decode cX8_init 431 = .ok (.iinc 2 1, 3) := by decide +kernel
theorem dX8_init_434 : decode cX8_init 434 = .ok (.goto (-15), 3) := by decide +kernel
theorem dX8_init_437 : decode cX8_init 437 = .ok (.return_, 1) := by decide +kernel
theorem dX8_isCopy_0 : decode cX8_isCopy 0 = .ok (.iload_n 1, 1) := by decide +kernel
theorem dX8_isCopy_1 : decode cX8_isCopy 1 = .ok (.ifCond .lt 15, 3) := by decide +kernel
theorem dX8_isCopy_4 : decode cX8_isCopy 4 = .ok (.iload_n 1, 1) := by decide +kernel
theorem dX8_isCopy_5 : decode cX8_isCopy 5 = .ok (.aload_n 0, 1) := by decide +kernel
theorem dX8_isCopy_6 : decode cX8_isCopy 6 = .ok (.getfield 129, 3) := by decide +kernel
theorem dX8_isCopy_9 : decode cX8_isCopy 9 = .ok (.if_icmp .ge 7, 3) := by decide +kernel
theorem dX8_isCopy_12 : decode cX8_isCopy 12 = .ok (.iconst 1, 1) := by decide +kernel
theorem dX8_isCopy_13 : decode cX8_isCopy 13 = .ok (.goto 4, 3) := by decide +kernel
theorem dX8_isCopy_16 : decode cX8_isCopy 16 = .ok (.iconst 0, 1) := by decide +kernel
theorem dX8_isCopy_17 : decode cX8_isCopy 17 = .ok (.ireturn, 1) := by decide +kernel
theorem dX8_isClient_0 : decode cX8_isClient 0 = .ok (.iload_n 0, 1) := by decide +kernel
theorem dX8_isClient_1 : decode cX8_isClient 1 = .ok (.ifCond .lt 12, 3) := by decide +kernel
theorem dX8_isClient_4 : decode cX8_isClient 4 = .ok (.iload_n 0, 1) := by decide +kernel
theorem dX8_isClient_5 : decode cX8_isClient 5 = .ok (.iconst 4, 1) := by decide +kernel
theorem dX8_isClient_6 : decode cX8_isClient 6 = .ok (.if_icmp .ge 7, 3) := by decide +kernel
theorem dX8_isClient_9 : decode cX8_isClient 9 = .ok (.iconst 1, 1) := by decide +kernel
theorem dX8_isClient_10 : decode cX8_isClient 10 = .ok (.goto 4, 3) := by decide +kernel
theorem dX8_isClient_13 : decode cX8_isClient 13 = .ok (.iconst 0, 1) := by decide +kernel
theorem dX8_isClient_14 : decode cX8_isClient 14 = .ok (.ireturn, 1) := by decide +kernel
theorem dX8_votes_0 : decode cX8_votes 0 = .ok (.aload_n 0, 1) := by decide +kernel
theorem dX8_votes_1 : decode cX8_votes 1 = .ok (.iload_n 1, 1) := by decide +kernel
theorem dX8_votes_2 : decode cX8_votes 2 = .ok (.invokevirtual 136, 3) := by decide +kernel
theorem dX8_votes_5 : decode cX8_votes 5 = .ok (.ifCond .eq 13, 3) := by decide +kernel
theorem dX8_votes_8 : decode cX8_votes 8 = .ok (.iload_n 2, 1) := by decide +kernel
theorem dX8_votes_9 : decode cX8_votes 9 = .ok (.ifCond .lt 9, 3) := by decide +kernel
theorem dX8_votes_12 : decode cX8_votes 12 = .ok (.iload_n 2, 1) := by decide +kernel
theorem dX8_votes_13 : decode cX8_votes 13 = .ok (.bipush 9, 2) := by decide +kernel
theorem dX8_votes_15 : decode cX8_votes 15 = .ok (.if_icmp .le 5, 3) := by decide +kernel
theorem dX8_votes_18 : decode cX8_votes 18 = .ok (.iconst 0, 1) := by decide +kernel
theorem dX8_votes_19 : decode cX8_votes 19 = .ok (.ireturn, 1) := by decide +kernel
theorem dX8_votes_20 : decode cX8_votes 20 = .ok (.aload_n 0, 1) := by decide +kernel
theorem dX8_votes_21 : decode cX8_votes 21 = .ok (.getfield 36, 3) := by decide +kernel
theorem dX8_votes_24 : decode cX8_votes 24 = .ok (.iload_n 1, 1) := by decide +kernel
theorem dX8_votes_25 : decode cX8_votes 25 = .ok (.iload_n 2, 1) := by decide +kernel
theorem dX8_votes_26 : decode cX8_votes 26 = .ok (.iastore, 1) := by decide +kernel
theorem dX8_votes_27 : decode cX8_votes 27 = .ok (.iconst 1, 1) := by decide +kernel
theorem dX8_votes_28 : decode cX8_votes 28 = .ok (.ireturn, 1) := by decide +kernel
theorem dX8_put_0 : decode cX8_put 0 = .ok (.aload_n 0, 1) := by decide +kernel
theorem dX8_put_1 : decode cX8_put 1 = .ok (.getfield 140, 3) := by decide +kernel
theorem dX8_put_4 : decode cX8_put 4 = .ok (.sipush 300, 3) := by decide +kernel
theorem dX8_put_7 : decode cX8_put 7 = .ok (.if_icmp .ne 14, 3) := by decide +kernel
theorem dX8_put_10 : decode cX8_put 10 = .ok (.aload_n 0, 1) := by decide +kernel
theorem dX8_put_11 : decode cX8_put 11 = .ok (.dup, 1) := by decide +kernel
theorem dX8_put_12 : decode cX8_put 12 = .ok (.getfield 143, 3) := by decide +kernel
theorem dX8_put_15 : decode cX8_put 15 = .ok (.iconst 1, 1) := by decide +kernel
theorem dX8_put_16 : decode cX8_put 16 = .ok (.iadd, 1) := by decide +kernel
theorem dX8_put_17 : decode cX8_put 17 = .ok (.putfield 143, 3) := by decide +kernel
theorem dX8_put_20 : decode cX8_put 20 = .ok (.return_, 1) := by decide +kernel
theorem dX8_put_21 : decode cX8_put 21 = .ok (.aload_n 0, 1) := by decide +kernel
theorem dX8_put_22 : decode cX8_put 22 = .ok (.getfield 93, 3) := by decide +kernel
theorem dX8_put_25 : decode cX8_put 25 = .ok (.aload_n 0, 1) := by decide +kernel
theorem dX8_put_26 : decode cX8_put 26 = .ok (.getfield 140, 3) := by decide +kernel
theorem dX8_put_29 : decode cX8_put 29 = .ok (.iload_n 1, 1) := by decide +kernel
theorem dX8_put_30 : decode cX8_put 30 = .ok (.bastore, 1) := by decide +kernel
theorem dX8_put_31 : decode cX8_put 31 = .ok (.aload_n 0, 1) := by decide +kernel
theorem dX8_put_32 : decode cX8_put 32 = .ok (.getfield 96, 3) := by decide +kernel
theorem dX8_put_35 : decode cX8_put 35 = .ok (.aload_n 0, 1) := by decide +kernel
theorem dX8_put_36 : decode cX8_put 36 = .ok (.getfield 140, 3) := by decide +kernel
theorem dX8_put_39 : decode cX8_put 39 = .ok (.iload_n 2, 1) := by decide +kernel
theorem dX8_put_40 : decode cX8_put 40 = .ok (.iastore, 1) := by decide +kernel
theorem dX8_put_41 : decode cX8_put 41 = .ok (.aload_n 0, 1) := by decide +kernel
theorem dX8_put_42 : decode cX8_put 42 = .ok (.getfield 99, 3) := by decide +kernel
theorem dX8_put_45 : decode cX8_put 45 = .ok (.aload_n 0, 1) := by decide +kernel
theorem dX8_put_46 : decode cX8_put 46 = .ok (.getfield 140, 3) := by decide +kernel
theorem dX8_put_49 : decode cX8_put 49 = .ok (.iload_n 3, 1) := by decide +kernel
theorem dX8_put_50 : decode cX8_put 50 = .ok (.iastore, 1) := by decide +kernel
theorem dX8_put_51 : decode cX8_put 51 = .ok (.aload_n 0, 1) := by decide +kernel
theorem dX8_put_52 : decode cX8_put 52 = .ok (.getfield 102, 3) := by decide +kernel
theorem dX8_put_55 : decode cX8_put 55 = .ok (.aload_n 0, 1) := by decide +kernel
theorem dX8_put_56 : decode cX8_put 56 = .ok (.getfield 140, 3) := by decide +kernel
theorem dX8_put_59 : decode cX8_put 59 = .ok (.iload 4, 2) := by decide +kernel
theorem dX8_put_61 : decode cX8_put 61 = .ok (.iastore, 1) := by decide +kernel
theorem dX8_put_62 : decode cX8_put 62 = .ok (.aload_n 0, 1) := by decide +kernel
theorem dX8_put_63 : decode cX8_put 63 = .ok (.getfield 105, 3) := by decide +kernel
theorem dX8_put_66 : decode cX8_put 66 = .ok (.aload_n 0, 1) := by decide +kernel
theorem dX8_put_67 : decode cX8_put 67 = .ok (.getfield 140, 3) := by decide +kernel
theorem dX8_put_70 : decode cX8_put 70 = .ok (.iload 5, 2) := by decide +kernel
theorem dX8_put_72 : decode cX8_put 72 = .ok (.iastore, 1) := by decide +kernel
theorem dX8_put_73 : decode cX8_put 73 = .ok (.aload_n 0, 1) := by decide +kernel
theorem dX8_put_74 : decode cX8_put 74 = .ok (.getfield 108, 3) := by decide +kernel
theorem dX8_put_77 : decode cX8_put 77 = .ok (.aload_n 0, 1) := by decide +kernel
theorem dX8_put_78 : decode cX8_put 78 = .ok (.getfield 140, 3) := by decide +kernel
theorem dX8_put_81 : decode cX8_put 81 = .ok (.iload 6, 2) := by decide +kernel
theorem dX8_put_83 : decode cX8_put 83 = .ok (.iastore, 1) := by decide +kernel
theorem dX8_put_84 : decode cX8_put 84 = .ok (.aload_n 0, 1) := by decide +kernel
theorem dX8_put_85 : decode cX8_put 85 = .ok (.getfield 111, 3) := by decide +kernel
theorem dX8_put_88 : decode cX8_put 88 = .ok (.aload_n 0, 1) := by decide +kernel
theorem dX8_put_89 : decode cX8_put 89 = .ok (.getfield 140, 3) := by decide +kernel
theorem dX8_put_92 : decode cX8_put 92 = .ok (.iload 7, 2) := by decide +kernel
theorem dX8_put_94 : decode cX8_put 94 = .ok (.iastore, 1) := by decide +kernel
theorem dX8_put_95 : decode cX8_put 95 = .ok (.aload_n 0, 1) := by decide +kernel
theorem dX8_put_96 : decode cX8_put 96 = .ok (.getfield 114, 3) := by decide +kernel
theorem dX8_put_99 : decode cX8_put 99 = .ok (.aload_n 0, 1) := by decide +kernel
theorem dX8_put_100 : decode cX8_put 100 = .ok (.getfield 140, 3) := by decide +kernel
theorem dX8_put_103 : decode cX8_put 103 = .ok (.iload 8, 2) := by decide +kernel
theorem dX8_put_105 : decode cX8_put 105 = .ok (.iastore, 1) := by decide +kernel
theorem dX8_put_106 : decode cX8_put 106 = .ok (.aload_n 0, 1) := by decide +kernel
theorem dX8_put_107 : decode cX8_put 107 = .ok (.getfield 126, 3) := by decide +kernel
theorem dX8_put_110 : decode cX8_put 110 = .ok (.aload_n 0, 1) := by decide +kernel
theorem dX8_put_111 : decode cX8_put 111 = .ok (.getfield 140, 3) := by decide +kernel
theorem dX8_put_114 : decode cX8_put 114 = .ok (.lload 9, 2) := by decide +kernel
theorem dX8_put_116 : decode cX8_put 116 = .ok (.lastore, 1) := by decide +kernel
theorem dX8_put_117 : decode cX8_put 117 = .ok (.aload_n 0, 1) := by decide +kernel
theorem dX8_put_118 : decode cX8_put 118 = .ok (.getfield 117, 3) := by decide +kernel
theorem dX8_put_121 : decode cX8_put 121 = .ok (.aload_n 0, 1) := by decide +kernel
theorem dX8_put_122 : decode cX8_put 122 = .ok (.getfield 140, 3) := by decide +kernel
theorem dX8_put_125 : decode cX8_put 125 = .ok (.iload 11, 2) := by decide +kernel
theorem dX8_put_127 : decode cX8_put 127 = .ok (.iastore, 1) := by decide +kernel
theorem dX8_put_128 : decode cX8_put 128 = .ok (.aload_n 0, 1) := by decide +kernel
theorem dX8_put_129 : decode cX8_put 129 = .ok (.getfield 120, 3) := by decide +kernel
theorem dX8_put_132 : decode cX8_put 132 = .ok (.aload_n 0, 1) := by decide +kernel
theorem dX8_put_133 : decode cX8_put 133 = .ok (.getfield 140, 3) := by decide +kernel
theorem dX8_put_136 : decode cX8_put 136 = .ok (.iload 12, 2) := by decide +kernel
theorem dX8_put_138 : decode cX8_put 138 = .ok (.iastore, 1) := by decide +kernel
theorem dX8_put_139 : decode cX8_put 139 = .ok (.aload_n 0, 1) := by decide +kernel
theorem dX8_put_140 : decode cX8_put 140 = .ok (.getfield 123, 3) := by decide +kernel
theorem dX8_put_143 : decode cX8_put 143 = .ok (.aload_n 0, 1) := by decide +kernel
theorem dX8_put_144 : decode cX8_put 144 = .ok (.getfield 140, 3) := by decide +kernel
theorem dX8_put_147 : decode cX8_put 147 = .ok (.iload 13, 2) := by decide +kernel
theorem dX8_put_149 : decode cX8_put 149 = .ok (.iastore, 1) := by decide +kernel
theorem dX8_put_150 : decode cX8_put 150 = .ok (.aload_n 0, 1) := by decide +kernel
theorem dX8_put_151 : decode cX8_put 151 = .ok (.dup, 1) := by decide +kernel
theorem dX8_put_152 : decode cX8_put 152 = .ok (.getfield 140, 3) := by decide +kernel
theorem dX8_put_155 : decode cX8_put 155 = .ok (.iconst 1, 1) := by decide +kernel
theorem dX8_put_156 : decode cX8_put 156 = .ok (.iadd, 1) := by decide +kernel
theorem dX8_put_157 : decode cX8_put 157 = .ok (.putfield 140, 3) := by decide +kernel
theorem dX8_put_160 : decode cX8_put 160 = .ok (.return_, 1) := by decide +kernel
theorem dX8_take_0 : decode cX8_take 0 = .ok (.aload_n 0, 1) := by decide +kernel
theorem dX8_take_1 : decode cX8_take 1 = .ok (.dup, 1) := by decide +kernel
theorem dX8_take_2 : decode cX8_take 2 = .ok (.getfield 140, 3) := by decide +kernel
theorem dX8_take_5 : decode cX8_take 5 = .ok (.iconst 1, 1) := by decide +kernel
theorem dX8_take_6 : decode cX8_take 6 = .ok (.isub, 1) := by decide +kernel
theorem dX8_take_7 : decode cX8_take 7 = .ok (.putfield 140, 3) := by decide +kernel
theorem dX8_take_10 : decode cX8_take 10 = .ok (.iload_n 1, 1) := by decide +kernel
theorem dX8_take_11 : decode cX8_take 11 = .ok (.istore_n 2, 1) := by decide +kernel
theorem dX8_take_12 : decode cX8_take 12 = .ok (.iload_n 2, 1) := by decide +kernel
theorem dX8_take_13 : decode cX8_take 13 = .ok (.aload_n 0, 1) := by decide +kernel
theorem dX8_take_14 : decode cX8_take 14 = .ok (.getfield 140, 3) := by decide +kernel
theorem dX8_take_17 : decode cX8_take 17 = .ok (.if_icmp .ge 177, 3) := by decide +kernel
theorem dX8_take_20 : decode cX8_take 20 = .ok (.aload_n 0, 1) := by decide +kernel
theorem dX8_take_21 : decode cX8_take 21 = .ok (.getfield 93, 3) := by decide +kernel
theorem dX8_take_24 : decode cX8_take 24 = .ok (.iload_n 2, 1) := by decide +kernel
theorem dX8_take_25 : decode cX8_take 25 = .ok (.aload_n 0, 1) := by decide +kernel
theorem dX8_take_26 : decode cX8_take 26 = .ok (.getfield 93, 3) := by decide +kernel
theorem dX8_take_29 : decode cX8_take 29 = .ok (.iload_n 2, 1) := by decide +kernel
theorem dX8_take_30 : decode cX8_take 30 = .ok (.iconst 1, 1) := by decide +kernel
theorem dX8_take_31 : decode cX8_take 31 = .ok (.iadd, 1) := by decide +kernel
theorem dX8_take_32 : decode cX8_take 32 = .ok (.baload, 1) := by decide +kernel
theorem dX8_take_33 : decode cX8_take 33 = .ok (.bastore, 1) := by decide +kernel
theorem dX8_take_34 : decode cX8_take 34 = .ok (.aload_n 0, 1) := by decide +kernel
theorem dX8_take_35 : decode cX8_take 35 = .ok (.getfield 96, 3) := by decide +kernel
theorem dX8_take_38 : decode cX8_take 38 = .ok (.iload_n 2, 1) := by decide +kernel
theorem dX8_take_39 : decode cX8_take 39 = .ok (.aload_n 0, 1) := by decide +kernel
theorem dX8_take_40 : decode cX8_take 40 = .ok (.getfield 96, 3) := by decide +kernel
theorem dX8_take_43 : decode cX8_take 43 = .ok (.iload_n 2, 1) := by decide +kernel
theorem dX8_take_44 : decode cX8_take 44 = .ok (.iconst 1, 1) := by decide +kernel
theorem dX8_take_45 : decode cX8_take 45 = .ok (.iadd, 1) := by decide +kernel
theorem dX8_take_46 : decode cX8_take 46 = .ok (.iaload, 1) := by decide +kernel
theorem dX8_take_47 : decode cX8_take 47 = .ok (.iastore, 1) := by decide +kernel
theorem dX8_take_48 : decode cX8_take 48 = .ok (.aload_n 0, 1) := by decide +kernel
theorem dX8_take_49 : decode cX8_take 49 = .ok (.getfield 99, 3) := by decide +kernel
theorem dX8_take_52 : decode cX8_take 52 = .ok (.iload_n 2, 1) := by decide +kernel
theorem dX8_take_53 : decode cX8_take 53 = .ok (.aload_n 0, 1) := by decide +kernel
theorem dX8_take_54 : decode cX8_take 54 = .ok (.getfield 99, 3) := by decide +kernel
theorem dX8_take_57 : decode cX8_take 57 = .ok (.iload_n 2, 1) := by decide +kernel
theorem dX8_take_58 : decode cX8_take 58 = .ok (.iconst 1, 1) := by decide +kernel
theorem dX8_take_59 : decode cX8_take 59 = .ok (.iadd, 1) := by decide +kernel
theorem dX8_take_60 : decode cX8_take 60 = .ok (.iaload, 1) := by decide +kernel
theorem dX8_take_61 : decode cX8_take 61 = .ok (.iastore, 1) := by decide +kernel
theorem dX8_take_62 : decode cX8_take 62 = .ok (.aload_n 0, 1) := by decide +kernel
theorem dX8_take_63 : decode cX8_take 63 = .ok (.getfield 102, 3) := by decide +kernel
theorem dX8_take_66 : decode cX8_take 66 = .ok (.iload_n 2, 1) := by decide +kernel
theorem dX8_take_67 : decode cX8_take 67 = .ok (.aload_n 0, 1) := by decide +kernel
theorem dX8_take_68 : decode cX8_take 68 = .ok (.getfield 102, 3) := by decide +kernel
theorem dX8_take_71 : decode cX8_take 71 = .ok (.iload_n 2, 1) := by decide +kernel
theorem dX8_take_72 : decode cX8_take 72 = .ok (.iconst 1, 1) := by decide +kernel
theorem dX8_take_73 : decode cX8_take 73 = .ok (.iadd, 1) := by decide +kernel
theorem dX8_take_74 : decode cX8_take 74 = .ok (.iaload, 1) := by decide +kernel
theorem dX8_take_75 : decode cX8_take 75 = .ok (.iastore, 1) := by decide +kernel
theorem dX8_take_76 : decode cX8_take 76 = .ok (.aload_n 0, 1) := by decide +kernel
theorem dX8_take_77 : decode cX8_take 77 = .ok (.getfield 105, 3) := by decide +kernel
theorem dX8_take_80 : decode cX8_take 80 = .ok (.iload_n 2, 1) := by decide +kernel
theorem dX8_take_81 : decode cX8_take 81 = .ok (.aload_n 0, 1) := by decide +kernel
theorem dX8_take_82 : decode cX8_take 82 = .ok (.getfield 105, 3) := by decide +kernel
theorem dX8_take_85 : decode cX8_take 85 = .ok (.iload_n 2, 1) := by decide +kernel
theorem dX8_take_86 : decode cX8_take 86 = .ok (.iconst 1, 1) := by decide +kernel
theorem dX8_take_87 : decode cX8_take 87 = .ok (.iadd, 1) := by decide +kernel
theorem dX8_take_88 : decode cX8_take 88 = .ok (.iaload, 1) := by decide +kernel
theorem dX8_take_89 : decode cX8_take 89 = .ok (.iastore, 1) := by decide +kernel
theorem dX8_take_90 : decode cX8_take 90 = .ok (.aload_n 0, 1) := by decide +kernel
theorem dX8_take_91 : decode cX8_take 91 = .ok (.getfield 108, 3) := by decide +kernel
theorem dX8_take_94 : decode cX8_take 94 = .ok (.iload_n 2, 1) := by decide +kernel
theorem dX8_take_95 : decode cX8_take 95 = .ok (.aload_n 0, 1) := by decide +kernel
theorem dX8_take_96 : decode cX8_take 96 = .ok (.getfield 108, 3) := by decide +kernel
theorem dX8_take_99 : decode cX8_take 99 = .ok (.iload_n 2, 1) := by decide +kernel
theorem dX8_take_100 : decode cX8_take 100 = .ok (.iconst 1, 1) := by decide +kernel
theorem dX8_take_101 : decode cX8_take 101 = .ok (.iadd, 1) := by decide +kernel
theorem dX8_take_102 : decode cX8_take 102 = .ok (.iaload, 1) := by decide +kernel
theorem dX8_take_103 : decode cX8_take 103 = .ok (.iastore, 1) := by decide +kernel
theorem dX8_take_104 : decode cX8_take 104 = .ok (.aload_n 0, 1) := by decide +kernel
theorem dX8_take_105 : decode cX8_take 105 = .ok (.getfield 111, 3) := by decide +kernel
theorem dX8_take_108 : decode cX8_take 108 = .ok (.iload_n 2, 1) := by decide +kernel
theorem dX8_take_109 : decode cX8_take 109 = .ok (.aload_n 0, 1) := by decide +kernel
theorem dX8_take_110 : decode cX8_take 110 = .ok (.getfield 111, 3) := by decide +kernel
theorem dX8_take_113 : decode cX8_take 113 = .ok (.iload_n 2, 1) := by decide +kernel
theorem dX8_take_114 : decode cX8_take 114 = .ok (.iconst 1, 1) := by decide +kernel
theorem dX8_take_115 : decode cX8_take 115 = .ok (.iadd, 1) := by decide +kernel
theorem dX8_take_116 : decode cX8_take 116 = .ok (.iaload, 1) := by decide +kernel
theorem dX8_take_117 : decode cX8_take 117 = .ok (.iastore, 1) := by decide +kernel
theorem dX8_take_118 : decode cX8_take 118 = .ok (.aload_n 0, 1) := by decide +kernel
theorem dX8_take_119 : decode cX8_take 119 = .ok (.getfield 114, 3) := by decide +kernel
theorem dX8_take_122 : decode cX8_take 122 = .ok (.iload_n 2, 1) := by decide +kernel
theorem dX8_take_123 : decode cX8_take 123 = .ok (.aload_n 0, 1) := by decide +kernel
theorem dX8_take_124 : decode cX8_take 124 = .ok (.getfield 114, 3) := by decide +kernel
theorem dX8_take_127 : decode cX8_take 127 = .ok (.iload_n 2, 1) := by decide +kernel
theorem dX8_take_128 : decode cX8_take 128 = .ok (.iconst 1, 1) := by decide +kernel
theorem dX8_take_129 : decode cX8_take 129 = .ok (.iadd, 1) := by decide +kernel
theorem dX8_take_130 : decode cX8_take 130 = .ok (.iaload, 1) := by decide +kernel
theorem dX8_take_131 : decode cX8_take 131 = .ok (.iastore, 1) := by decide +kernel
theorem dX8_take_132 : decode cX8_take 132 = .ok (.aload_n 0, 1) := by decide +kernel
theorem dX8_take_133 : decode cX8_take 133 = .ok (.getfield 126, 3) := by decide +kernel
theorem dX8_take_136 : decode cX8_take 136 = .ok (.iload_n 2, 1) := by decide +kernel
theorem dX8_take_137 : decode cX8_take 137 = .ok (.aload_n 0, 1) := by decide +kernel
theorem dX8_take_138 : decode cX8_take 138 = .ok (.getfield 126, 3) := by decide +kernel
theorem dX8_take_141 : decode cX8_take 141 = .ok (.iload_n 2, 1) := by decide +kernel
theorem dX8_take_142 : decode cX8_take 142 = .ok (.iconst 1, 1) := by decide +kernel
theorem dX8_take_143 : decode cX8_take 143 = .ok (.iadd, 1) := by decide +kernel
theorem dX8_take_144 : decode cX8_take 144 = .ok (.laload, 1) := by decide +kernel
theorem dX8_take_145 : decode cX8_take 145 = .ok (.lastore, 1) := by decide +kernel
theorem dX8_take_146 : decode cX8_take 146 = .ok (.aload_n 0, 1) := by decide +kernel
theorem dX8_take_147 : decode cX8_take 147 = .ok (.getfield 117, 3) := by decide +kernel
theorem dX8_take_150 : decode cX8_take 150 = .ok (.iload_n 2, 1) := by decide +kernel
theorem dX8_take_151 : decode cX8_take 151 = .ok (.aload_n 0, 1) := by decide +kernel
theorem dX8_take_152 : decode cX8_take 152 = .ok (.getfield 117, 3) := by decide +kernel
theorem dX8_take_155 : decode cX8_take 155 = .ok (.iload_n 2, 1) := by decide +kernel
theorem dX8_take_156 : decode cX8_take 156 = .ok (.iconst 1, 1) := by decide +kernel
theorem dX8_take_157 : decode cX8_take 157 = .ok (.iadd, 1) := by decide +kernel
theorem dX8_take_158 : decode cX8_take 158 = .ok (.iaload, 1) := by decide +kernel
theorem dX8_take_159 : decode cX8_take 159 = .ok (.iastore, 1) := by decide +kernel
theorem dX8_take_160 : decode cX8_take 160 = .ok (.aload_n 0, 1) := by decide +kernel
theorem dX8_take_161 : decode cX8_take 161 = .ok (.getfield 120, 3) := by decide +kernel
theorem dX8_take_164 : decode cX8_take 164 = .ok (.iload_n 2, 1) := by decide +kernel
theorem dX8_take_165 : decode cX8_take 165 = .ok (.aload_n 0, 1) := by decide +kernel
theorem dX8_take_166 : decode cX8_take 166 = .ok (.getfield 120, 3) := by decide +kernel
theorem dX8_take_169 : decode cX8_take 169 = .ok (.iload_n 2, 1) := by decide +kernel
theorem dX8_take_170 : decode cX8_take 170 = .ok (.iconst 1, 1) := by decide +kernel
theorem dX8_take_171 : decode cX8_take 171 = .ok (.iadd, 1) := by decide +kernel
theorem dX8_take_172 : decode cX8_take 172 = .ok (.iaload, 1) := by decide +kernel
theorem dX8_take_173 : decode cX8_take 173 = .ok (.iastore, 1) := by decide +kernel
theorem dX8_take_174 : decode cX8_take 174 = .ok (.aload_n 0, 1) := by decide +kernel
theorem dX8_take_175 : decode cX8_take 175 = .ok (.getfield 123, 3) := by decide +kernel
theorem dX8_take_178 : decode cX8_take 178 = .ok (.iload_n 2, 1) := by decide +kernel
theorem dX8_take_179 : decode cX8_take 179 = .ok (.aload_n 0, 1) := by decide +kernel
theorem dX8_take_180 : decode cX8_take 180 = .ok (.getfield 123, 3) := by decide +kernel
theorem dX8_take_183 : decode cX8_take 183 = .ok (.iload_n 2, 1) := by decide +kernel
theorem dX8_take_184 : decode cX8_take 184 = .ok (.iconst 1, 1) := by decide +kernel
theorem dX8_take_185 : decode cX8_take 185 = .ok (.iadd, 1) := by decide +kernel
theorem dX8_take_186 : decode cX8_take 186 = .ok (.iaload, 1) := by decide +kernel
theorem dX8_take_187 : decode cX8_take 187 = .ok (.iastore, 1) := by decide +kernel
theorem dX8_take_188 : decode cX8_take 188 = .ok (.iinc 2 1, 3) := by decide +kernel
theorem dX8_take_191 : decode cX8_take 191 = .ok (.goto (-179), 3) := by decide +kernel
theorem dX8_take_194 : decode cX8_take 194 = .ok (.return_, 1) := by decide +kernel
end
section
theorem dX8_ask_0 : decode cX8_ask 0 = .ok (.aload_n 0, 1) := by decide +kernel
theorem dX8_ask_1 : decode cX8_ask 1 = .ok (.getfield 39, 3) := by decide +kernel
theorem dX8_ask_4 : decode cX8_ask 4 = .ok (.iload_n 1, 1) := by decide +kernel
theorem dX8_ask_5 : decode cX8_ask 5 = .ok (.iaload, 1) := by decide +kernel
theorem dX8_ask_6 : decode cX8_ask 6 = .ok (.istore_n 3, 1) := by decide +kernel
theorem dX8_ask_7 : decode cX8_ask 7 = .ok (.aload_n 0, 1) := by decide +kernel
theorem dX8_ask_8 : decode cX8_ask 8 = .ok (.getfield 42, 3) := by decide +kernel
theorem dX8_ask_11 : decode cX8_ask 11 = .ok (.iload_n 1, 1) := by decide +kernel
theorem dX8_ask_12 : decode cX8_ask 12 = .ok (.iaload, 1) := by decide +kernel
theorem dX8_ask_13 : decode cX8_ask 13 = .ok (.iconst 2, 1) := by decide +kernel
theorem dX8_ask_14 : decode cX8_ask 14 = .ok (.if_icmp .eq 13, 3) := by decide +kernel
theorem dX8_ask_17 : decode cX8_ask 17 = .ok (.aload_n 0, 1) := by decide +kernel
theorem dX8_ask_18 : decode cX8_ask 18 = .ok (.getfield 42, 3) := by decide +kernel
theorem dX8_ask_21 : decode cX8_ask 21 = .ok (.iload_n 1, 1) := by decide +kernel
theorem dX8_ask_22 : decode cX8_ask 22 = .ok (.iaload, 1) := by decide +kernel
theorem dX8_ask_23 : decode cX8_ask 23 = .ok (.iconst 4, 1) := by decide +kernel
theorem dX8_ask_24 : decode cX8_ask 24 = .ok (.if_icmp .ne 7, 3) := by decide +kernel
theorem dX8_ask_27 : decode cX8_ask 27 = .ok (.iconst 1, 1) := by decide +kernel
theorem dX8_ask_28 : decode cX8_ask 28 = .ok (.goto 4, 3) := by decide +kernel
theorem dX8_ask_31 : decode cX8_ask 31 = .ok (.iconst 0, 1) := by decide +kernel
theorem dX8_ask_32 : decode cX8_ask 32 = .ok (.istore 4, 2) := by decide +kernel
theorem dX8_ask_34 : decode cX8_ask 34 = .ok (.aload_n 0, 1) := by decide +kernel
theorem dX8_ask_35 : decode cX8_ask 35 = .ok (.getfield 42, 3) := by decide +kernel
theorem dX8_ask_38 : decode cX8_ask 38 = .ok (.iload_n 1, 1) := by decide +kernel
theorem dX8_ask_39 : decode cX8_ask 39 = .ok (.iaload, 1) := by decide +kernel
theorem dX8_ask_40 : decode cX8_ask 40 = .ok (.iconst 2, 1) := by decide +kernel
theorem dX8_ask_41 : decode cX8_ask 41 = .ok (.if_icmp .ne 17, 3) := by decide +kernel
theorem dX8_ask_44 : decode cX8_ask 44 = .ok (.aload_n 0, 1) := by decide +kernel
theorem dX8_ask_45 : decode cX8_ask 45 = .ok (.getfield 69, 3) := by decide +kernel
theorem dX8_ask_48 : decode cX8_ask 48 = .ok (.iload_n 3, 1) := by decide +kernel
theorem dX8_ask_49 : decode cX8_ask 49 = .ok (.iaload, 1) := by decide +kernel
theorem dX8_ask_50 : decode cX8_ask 50 = .ok (.iconst 1, 1) := by decide +kernel
theorem dX8_ask_51 : decode cX8_ask 51 = .ok (.if_icmp .ne 7, 3) := by decide +kernel
theorem dX8_ask_54 : decode cX8_ask 54 = .ok (.iconst 1, 1) := by decide +kernel
theorem dX8_ask_55 : decode cX8_ask 55 = .ok (.goto 4, 3) := by decide +kernel
theorem dX8_ask_58 : decode cX8_ask 58 = .ok (.iconst 0, 1) := by decide +kernel
theorem dX8_ask_59 : decode cX8_ask 59 = .ok (.istore 5, 2) := by decide +kernel
theorem dX8_ask_61 : decode cX8_ask 61 = .ok (.iload 4, 2) := by decide +kernel
theorem dX8_ask_63 : decode cX8_ask 63 = .ok (.ifCond .ne 7, 3) := by decide +kernel
theorem dX8_ask_66 : decode cX8_ask 66 = .ok (.iconst 0, 1) := by decide +kernel
theorem dX8_ask_67 : decode cX8_ask 67 = .ok (.goto 23, 3) := by decide +kernel
theorem dX8_ask_70 : decode cX8_ask 70 = .ok (.iload 5, 2) := by decide +kernel
theorem dX8_ask_72 : decode cX8_ask 72 = .ok (.ifCond .eq 12, 3) := by decide +kernel
theorem dX8_ask_75 : decode cX8_ask 75 = .ok (.aload_n 0, 1) := by decide +kernel
theorem dX8_ask_76 : decode cX8_ask 76 = .ok (.getfield 81, 3) := by decide +kernel
theorem dX8_ask_79 : decode cX8_ask 79 = .ok (.iload_n 3, 1) := by decide +kernel
theorem dX8_ask_80 : decode cX8_ask 80 = .ok (.iaload, 1) := by decide +kernel
theorem dX8_ask_81 : decode cX8_ask 81 = .ok (.goto 9, 3) := by decide +kernel
theorem dX8_ask_84 : decode cX8_ask 84 = .ok (.aload_n 0, 1) := by decide +kernel
theorem dX8_ask_85 : decode cX8_ask 85 = .ok (.getfield 60, 3) := by decide +kernel
theorem dX8_ask_88 : decode cX8_ask 88 = .ok (.iload_n 1, 1) := by decide +kernel
theorem dX8_ask_89 : decode cX8_ask 89 = .ok (.iaload, 1) := by decide +kernel
theorem dX8_ask_90 : decode cX8_ask 90 = .ok (.istore 6, 2) := by decide +kernel
theorem dX8_ask_92 : decode cX8_ask 92 = .ok (.iload 4, 2) := by decide +kernel
theorem dX8_ask_94 : decode cX8_ask 94 = .ok (.ifCond .ne 7, 3) := by decide +kernel
theorem dX8_ask_97 : decode cX8_ask 97 = .ok (.iconst 0, 1) := by decide +kernel
theorem dX8_ask_98 : decode cX8_ask 98 = .ok (.goto 23, 3) := by decide +kernel
theorem dX8_ask_101 : decode cX8_ask 101 = .ok (.iload 5, 2) := by decide +kernel
theorem dX8_ask_103 : decode cX8_ask 103 = .ok (.ifCond .eq 12, 3) := by decide +kernel
theorem dX8_ask_106 : decode cX8_ask 106 = .ok (.aload_n 0, 1) := by decide +kernel
theorem dX8_ask_107 : decode cX8_ask 107 = .ok (.getfield 84, 3) := by decide +kernel
theorem dX8_ask_110 : decode cX8_ask 110 = .ok (.iload_n 3, 1) := by decide +kernel
theorem dX8_ask_111 : decode cX8_ask 111 = .ok (.iaload, 1) := by decide +kernel
theorem dX8_ask_112 : decode cX8_ask 112 = .ok (.goto 9, 3) := by decide +kernel
theorem dX8_ask_115 : decode cX8_ask 115 = .ok (.aload_n 0, 1) := by decide +kernel
theorem dX8_ask_116 : decode cX8_ask 116 = .ok (.getfield 63, 3) := by decide +kernel
theorem dX8_ask_119 : decode cX8_ask 119 = .ok (.iload_n 1, 1) := by decide +kernel
theorem dX8_ask_120 : decode cX8_ask 120 = .ok (.iaload, 1) := by decide +kernel
theorem dX8_ask_121 : decode cX8_ask 121 = .ok (.istore 7, 2) := by decide +kernel
theorem dX8_ask_123 : decode cX8_ask 123 = .ok (.iload 4, 2) := by decide +kernel
theorem dX8_ask_125 : decode cX8_ask 125 = .ok (.ifCond .ne 7, 3) := by decide +kernel
theorem dX8_ask_128 : decode cX8_ask 128 = .ok (.lconst 0, 1) := by decide +kernel
theorem dX8_ask_129 : decode cX8_ask 129 = .ok (.goto 23, 3) := by decide +kernel
theorem dX8_ask_132 : decode cX8_ask 132 = .ok (.iload 5, 2) := by decide +kernel
theorem dX8_ask_134 : decode cX8_ask 134 = .ok (.ifCond .eq 12, 3) := by decide +kernel
theorem dX8_ask_137 : decode cX8_ask 137 = .ok (.aload_n 0, 1) := by decide +kernel
theorem dX8_ask_138 : decode cX8_ask 138 = .ok (.getfield 90, 3) := by decide +kernel
theorem dX8_ask_141 : decode cX8_ask 141 = .ok (.iload_n 3, 1) := by decide +kernel
theorem dX8_ask_142 : decode cX8_ask 142 = .ok (.laload, 1) := by decide +kernel
theorem dX8_ask_143 : decode cX8_ask 143 = .ok (.goto 9, 3) := by decide +kernel
theorem dX8_ask_146 : decode cX8_ask 146 = .ok (.aload_n 0, 1) := by decide +kernel
theorem dX8_ask_147 : decode cX8_ask 147 = .ok (.getfield 66, 3) := by decide +kernel
theorem dX8_ask_150 : decode cX8_ask 150 = .ok (.iload_n 1, 1) := by decide +kernel
theorem dX8_ask_151 : decode cX8_ask 151 = .ok (.laload, 1) := by decide +kernel
theorem dX8_ask_152 : decode cX8_ask 152 = .ok (.lstore 8, 2) := by decide +kernel
theorem dX8_ask_154 : decode cX8_ask 154 = .ok (.aload_n 0, 1) := by decide +kernel
theorem dX8_ask_155 : decode cX8_ask 155 = .ok (.iconst 0, 1) := by decide +kernel
theorem dX8_ask_156 : decode cX8_ask 156 = .ok (.iload_n 2, 1) := by decide +kernel
theorem dX8_ask_157 : decode cX8_ask 157 = .ok (.iload_n 1, 1) := by decide +kernel
theorem dX8_ask_158 : decode cX8_ask 158 = .ok (.iload_n 3, 1) := by decide +kernel
theorem dX8_ask_159 : decode cX8_ask 159 = .ok (.aload_n 0, 1) := by decide +kernel
theorem dX8_ask_160 : decode cX8_ask 160 = .ok (.getfield 42, 3) := by decide +kernel
theorem dX8_ask_163 : decode cX8_ask 163 = .ok (.iload_n 1, 1) := by decide +kernel
theorem dX8_ask_164 : decode cX8_ask 164 = .ok (.iaload, 1) := by decide +kernel
theorem dX8_ask_165 : decode cX8_ask 165 = .ok (.aload_n 0, 1) := by decide +kernel
theorem dX8_ask_166 : decode cX8_ask 166 = .ok (.getfield 45, 3) := by decide +kernel
theorem dX8_ask_169 : decode cX8_ask 169 = .ok (.iload_n 1, 1) := by decide +kernel
theorem dX8_ask_170 : decode cX8_ask 170 = .ok (.iaload, 1) := by decide +kernel
theorem dX8_ask_171 : decode cX8_ask 171 = .ok (.iload 6, 2) := by decide +kernel
theorem dX8_ask_173 : decode cX8_ask 173 = .ok (.iload 7, 2) := by decide +kernel
theorem dX8_ask_175 : decode cX8_ask 175 = .ok (.lload 8, 2) := by decide +kernel
theorem dX8_ask_177 : decode cX8_ask 177 = .ok (.aload_n 0, 1) := by decide +kernel
theorem dX8_ask_178 : decode cX8_ask 178 = .ok (.getfield 42, 3) := by decide +kernel
theorem dX8_ask_181 : decode cX8_ask 181 = .ok (.iload_n 1, 1) := by decide +kernel
theorem dX8_ask_182 : decode cX8_ask 182 = .ok (.iaload, 1) := by decide +kernel
theorem dX8_ask_183 : decode cX8_ask 183 = .ok (.iconst 3, 1) := by decide +kernel
theorem dX8_ask_184 : decode cX8_ask 184 = .ok (.if_icmp .eq 13, 3) := by decide +kernel
theorem dX8_ask_187 : decode cX8_ask 187 = .ok (.aload_n 0, 1) := by decide +kernel
theorem dX8_ask_188 : decode cX8_ask 188 = .ok (.getfield 42, 3) := by decide +kernel
theorem dX8_ask_191 : decode cX8_ask 191 = .ok (.iload_n 1, 1) := by decide +kernel
theorem dX8_ask_192 : decode cX8_ask 192 = .ok (.iaload, 1) := by decide +kernel
theorem dX8_ask_193 : decode cX8_ask 193 = .ok (.iconst 5, 1) := by decide +kernel
theorem dX8_ask_194 : decode cX8_ask 194 = .ok (.if_icmp .ne 12, 3) := by decide +kernel
theorem dX8_ask_197 : decode cX8_ask 197 = .ok (.aload_n 0, 1) := by decide +kernel
theorem dX8_ask_198 : decode cX8_ask 198 = .ok (.getfield 87, 3) := by decide +kernel
theorem dX8_ask_201 : decode cX8_ask 201 = .ok (.iload_n 3, 1) := by decide +kernel
theorem dX8_ask_202 : decode cX8_ask 202 = .ok (.iaload, 1) := by decide +kernel
theorem dX8_ask_203 : decode cX8_ask 203 = .ok (.goto 4, 3) := by decide +kernel
theorem dX8_ask_206 : decode cX8_ask 206 = .ok (.iconst (-1), 1) := by decide +kernel
theorem dX8_ask_207 : decode cX8_ask 207 = .ok (.iconst 0, 1) := by decide +kernel
theorem dX8_ask_208 : decode cX8_ask 208 = .ok (.iconst 0, 1) := by decide +kernel
theorem dX8_ask_209 : decode cX8_ask 209 = .ok (.invokevirtual 146, 3) := by decide +kernel
theorem dX8_ask_212 : decode cX8_ask 212 = .ok (.return_, 1) := by decide +kernel
theorem dX8_beginPhase_0 : decode cX8_beginPhase 0 = .ok (.aload_n 0, 1) := by decide +kernel
theorem dX8_beginPhase_1 : decode cX8_beginPhase 1 = .ok (.getfield 42, 3) := by decide +kernel
theorem dX8_beginPhase_4 : decode cX8_beginPhase 4 = .ok (.iload_n 1, 1) := by decide +kernel
theorem dX8_beginPhase_5 : decode cX8_beginPhase 5 = .ok (.iload_n 2, 1) := by decide +kernel
theorem dX8_beginPhase_6 : decode cX8_beginPhase 6 = .ok (.iastore, 1) := by decide +kernel
theorem dX8_beginPhase_7 : decode cX8_beginPhase 7 = .ok (.aload_n 0, 1) := by decide +kernel
theorem dX8_beginPhase_8 : decode cX8_beginPhase 8 = .ok (.getfield 45, 3) := by decide +kernel
theorem dX8_beginPhase_11 : decode cX8_beginPhase 11 = .ok (.iload_n 1, 1) := by decide +kernel
theorem dX8_beginPhase_12 : decode cX8_beginPhase 12 = .ok (.dup2, 1) := by decide +kernel
theorem dX8_beginPhase_13 : decode cX8_beginPhase 13 = .ok (.iaload, 1) := by decide +kernel
theorem dX8_beginPhase_14 : decode cX8_beginPhase 14 = .ok (.iconst 1, 1) := by decide +kernel
theorem dX8_beginPhase_15 : decode cX8_beginPhase 15 = .ok (.iadd, 1) := by decide +kernel
theorem dX8_beginPhase_16 : decode cX8_beginPhase 16 = .ok (.iastore, 1) := by decide +kernel
theorem dX8_beginPhase_17 : decode cX8_beginPhase 17 = .ok (.aload_n 0, 1) := by decide +kernel
theorem dX8_beginPhase_18 : decode cX8_beginPhase 18 = .ok (.getfield 57, 3) := by decide +kernel
theorem dX8_beginPhase_21 : decode cX8_beginPhase 21 = .ok (.iload_n 1, 1) := by decide +kernel
theorem dX8_beginPhase_22 : decode cX8_beginPhase 22 = .ok (.iconst 0, 1) := by decide +kernel
theorem dX8_beginPhase_23 : decode cX8_beginPhase 23 = .ok (.iastore, 1) := by decide +kernel
theorem dX8_beginPhase_24 : decode cX8_beginPhase 24 = .ok (.iconst 0, 1) := by decide +kernel
theorem dX8_beginPhase_25 : decode cX8_beginPhase 25 = .ok (.istore_n 3, 1) := by decide +kernel
theorem dX8_beginPhase_26 : decode cX8_beginPhase 26 = .ok (.iload_n 3, 1) := by decide +kernel
theorem dX8_beginPhase_27 : decode cX8_beginPhase 27 = .ok (.aload_n 0, 1) := by decide +kernel
theorem dX8_beginPhase_28 : decode cX8_beginPhase 28 = .ok (.getfield 129, 3) := by decide +kernel
theorem dX8_beginPhase_31 : decode cX8_beginPhase 31 = .ok (.if_icmp .ge 15, 3) := by decide +kernel
theorem dX8_beginPhase_34 : decode cX8_beginPhase 34 = .ok (.aload_n 0, 1) := by decide +kernel
theorem dX8_beginPhase_35 : decode cX8_beginPhase 35 = .ok (.iload_n 1, 1) := by decide +kernel
theorem dX8_beginPhase_36 : decode cX8_beginPhase 36 = .ok (.iload_n 3, 1) := by decide +kernel
theorem dX8_beginPhase_37 : decode cX8_beginPhase 37 = .ok (.invokevirtual 150, 3) := by decide +kernel
theorem dX8_beginPhase_40 : decode cX8_beginPhase 40 = .ok (.iinc 3 1, 3) := by decide +kernel
theorem dX8_beginPhase_43 : decode cX8_beginPhase 43 = .ok (.goto (-17), 3) := by decide +kernel
theorem dX8_beginPhase_46 : decode cX8_beginPhase 46 = .ok (.return_, 1) := by decide +kernel
theorem dX8_beginAct_0 : decode cX8_beginAct 0 = .ok (.aload_n 0, 1) := by decide +kernel
theorem dX8_beginAct_1 : decode cX8_beginAct 1 = .ok (.dup, 1) := by decide +kernel
theorem dX8_beginAct_2 : decode cX8_beginAct 2 = .ok (.getfield 154, 3) := by decide +kernel
theorem dX8_beginAct_5 : decode cX8_beginAct 5 = .ok (.iconst 1, 1) := by decide +kernel
theorem dX8_beginAct_6 : decode cX8_beginAct 6 = .ok (.iadd, 1) := by decide +kernel
theorem dX8_beginAct_7 : decode cX8_beginAct 7 = .ok (.putfield 154, 3) := by decide +kernel
theorem dX8_beginAct_10 : decode cX8_beginAct 10 = .ok (.aload_n 0, 1) := by decide +kernel
theorem dX8_beginAct_11 : decode cX8_beginAct 11 = .ok (.dup, 1) := by decide +kernel
theorem dX8_beginAct_12 : decode cX8_beginAct 12 = .ok (.getfield 157, 3) := by decide +kernel
theorem dX8_beginAct_15 : decode cX8_beginAct 15 = .ok (.iconst 1, 1) := by decide +kernel
theorem dX8_beginAct_16 : decode cX8_beginAct 16 = .ok (.iadd, 1) := by decide +kernel
theorem dX8_beginAct_17 : decode cX8_beginAct 17 = .ok (.putfield 157, 3) := by decide +kernel
theorem dX8_beginAct_20 : decode cX8_beginAct 20 = .ok (.aload_n 0, 1) := by decide +kernel
theorem dX8_beginAct_21 : decode cX8_beginAct 21 = .ok (.getfield 69, 3) := by decide +kernel
theorem dX8_beginAct_24 : decode cX8_beginAct 24 = .ok (.aload_n 0, 1) := by decide +kernel
theorem dX8_beginAct_25 : decode cX8_beginAct 25 = .ok (.getfield 154, 3) := by decide +kernel
theorem dX8_beginAct_28 : decode cX8_beginAct 28 = .ok (.iload_n 2, 1) := by decide +kernel
theorem dX8_beginAct_29 : decode cX8_beginAct 29 = .ok (.iastore, 1) := by decide +kernel
theorem dX8_beginAct_30 : decode cX8_beginAct 30 = .ok (.aload_n 0, 1) := by decide +kernel
theorem dX8_beginAct_31 : decode cX8_beginAct 31 = .ok (.getfield 72, 3) := by decide +kernel
theorem dX8_beginAct_34 : decode cX8_beginAct 34 = .ok (.aload_n 0, 1) := by decide +kernel
theorem dX8_beginAct_35 : decode cX8_beginAct 35 = .ok (.getfield 154, 3) := by decide +kernel
theorem dX8_beginAct_38 : decode cX8_beginAct 38 = .ok (.iload_n 1, 1) := by decide +kernel
theorem dX8_beginAct_39 : decode cX8_beginAct 39 = .ok (.iastore, 1) := by decide +kernel
theorem dX8_beginAct_40 : decode cX8_beginAct 40 = .ok (.aload_n 0, 1) := by decide +kernel
theorem dX8_beginAct_41 : decode cX8_beginAct 41 = .ok (.getfield 75, 3) := by decide +kernel
theorem dX8_beginAct_44 : decode cX8_beginAct 44 = .ok (.aload_n 0, 1) := by decide +kernel
theorem dX8_beginAct_45 : decode cX8_beginAct 45 = .ok (.getfield 154, 3) := by decide +kernel
theorem dX8_beginAct_48 : decode cX8_beginAct 48 = .ok (.aload_n 0, 1) := by decide +kernel
theorem dX8_beginAct_49 : decode cX8_beginAct 49 = .ok (.getfield 157, 3) := by decide +kernel
theorem dX8_beginAct_52 : decode cX8_beginAct 52 = .ok (.iastore, 1) := by decide +kernel
theorem dX8_beginAct_53 : decode cX8_beginAct 53 = .ok (.aload_n 0, 1) := by decide +kernel
theorem dX8_beginAct_54 : decode cX8_beginAct 54 = .ok (.getfield 78, 3) := by decide +kernel
theorem dX8_beginAct_57 : decode cX8_beginAct 57 = .ok (.aload_n 0, 1) := by decide +kernel
theorem dX8_beginAct_58 : decode cX8_beginAct 58 = .ok (.getfield 154, 3) := by decide +kernel
theorem dX8_beginAct_61 : decode cX8_beginAct 61 = .ok (.iconst (-1), 1) := by decide +kernel
theorem dX8_beginAct_62 : decode cX8_beginAct 62 = .ok (.iastore, 1) := by decide +kernel
theorem dX8_beginAct_63 : decode cX8_beginAct 63 = .ok (.aload_n 0, 1) := by decide +kernel
theorem dX8_beginAct_64 : decode cX8_beginAct 64 = .ok (.getfield 81, 3) := by decide +kernel
theorem dX8_beginAct_67 : decode cX8_beginAct 67 = .ok (.aload_n 0, 1) := by decide +kernel
theorem dX8_beginAct_68 : decode cX8_beginAct 68 = .ok (.getfield 154, 3) := by decide +kernel
theorem dX8_beginAct_71 : decode cX8_beginAct 71 = .ok (.iconst (-1), 1) := by decide +kernel
theorem dX8_beginAct_72 : decode cX8_beginAct 72 = .ok (.iastore, 1) := by decide +kernel
theorem dX8_beginAct_73 : decode cX8_beginAct 73 = .ok (.aload_n 0, 1) := by decide +kernel
theorem dX8_beginAct_74 : decode cX8_beginAct 74 = .ok (.getfield 84, 3) := by decide +kernel
theorem dX8_beginAct_77 : decode cX8_beginAct 77 = .ok (.aload_n 0, 1) := by decide +kernel
theorem dX8_beginAct_78 : decode cX8_beginAct 78 = .ok (.getfield 154, 3) := by decide +kernel
theorem dX8_beginAct_81 : decode cX8_beginAct 81 = .ok (.iconst (-1), 1) := by decide +kernel
theorem dX8_beginAct_82 : decode cX8_beginAct 82 = .ok (.iastore, 1) := by decide +kernel
theorem dX8_beginAct_83 : decode cX8_beginAct 83 = .ok (.aload_n 0, 1) := by decide +kernel
theorem dX8_beginAct_84 : decode cX8_beginAct 84 = .ok (.getfield 87, 3) := by decide +kernel
theorem dX8_beginAct_87 : decode cX8_beginAct 87 = .ok (.aload_n 0, 1) := by decide +kernel
theorem dX8_beginAct_88 : decode cX8_beginAct 88 = .ok (.getfield 154, 3) := by decide +kernel
theorem dX8_beginAct_91 : decode cX8_beginAct 91 = .ok (.iload 5, 2) := by decide +kernel
theorem dX8_beginAct_93 : decode cX8_beginAct 93 = .ok (.iastore, 1) := by decide +kernel
theorem dX8_beginAct_94 : decode cX8_beginAct 94 = .ok (.aload_n 0, 1) := by decide +kernel
theorem dX8_beginAct_95 : decode cX8_beginAct 95 = .ok (.getfield 90, 3) := by decide +kernel
theorem dX8_beginAct_98 : decode cX8_beginAct 98 = .ok (.aload_n 0, 1) := by decide +kernel
theorem dX8_beginAct_99 : decode cX8_beginAct 99 = .ok (.getfield 154, 3) := by decide +kernel
theorem dX8_beginAct_102 : decode cX8_beginAct 102 = .ok (.lload_n 3, 1) := by decide +kernel
theorem dX8_beginAct_103 : decode cX8_beginAct 103 = .ok (.lastore, 1) := by decide +kernel
theorem dX8_beginAct_104 : decode cX8_beginAct 104 = .ok (.aload_n 0, 1) := by decide +kernel
theorem dX8_beginAct_105 : decode cX8_beginAct 105 = .ok (.getfield 39, 3) := by decide +kernel
theorem dX8_beginAct_108 : decode cX8_beginAct 108 = .ok (.iload_n 1, 1) := by decide +kernel
theorem dX8_beginAct_109 : decode cX8_beginAct 109 = .ok (.aload_n 0, 1) := by decide +kernel
theorem dX8_beginAct_110 : decode cX8_beginAct 110 = .ok (.getfield 154, 3) := by decide +kernel
theorem dX8_beginAct_113 : decode cX8_beginAct 113 = .ok (.iastore, 1) := by decide +kernel
theorem dX8_beginAct_114 : decode cX8_beginAct 114 = .ok (.aload_n 0, 1) := by decide +kernel
theorem dX8_beginAct_115 : decode cX8_beginAct 115 = .ok (.getfield 45, 3) := by decide +kernel
theorem dX8_beginAct_118 : decode cX8_beginAct 118 = .ok (.iload_n 1, 1) := by decide +kernel
theorem dX8_beginAct_119 : decode cX8_beginAct 119 = .ok (.iconst 0, 1) := by decide +kernel
theorem dX8_beginAct_120 : decode cX8_beginAct 120 = .ok (.iastore, 1) := by decide +kernel
theorem dX8_beginAct_121 : decode cX8_beginAct 121 = .ok (.aload_n 0, 1) := by decide +kernel
theorem dX8_beginAct_122 : decode cX8_beginAct 122 = .ok (.getfield 60, 3) := by decide +kernel
theorem dX8_beginAct_125 : decode cX8_beginAct 125 = .ok (.iload_n 1, 1) := by decide +kernel
theorem dX8_beginAct_126 : decode cX8_beginAct 126 = .ok (.iconst 0, 1) := by decide +kernel
theorem dX8_beginAct_127 : decode cX8_beginAct 127 = .ok (.iastore, 1) := by decide +kernel
theorem dX8_beginAct_128 : decode cX8_beginAct 128 = .ok (.aload_n 0, 1) := by decide +kernel
theorem dX8_beginAct_129 : decode cX8_beginAct 129 = .ok (.getfield 63, 3) := by decide +kernel
theorem dX8_beginAct_132 : decode cX8_beginAct 132 = .ok (.iload_n 1, 1) := by decide +kernel
theorem dX8_beginAct_133 : decode cX8_beginAct 133 = .ok (.iconst 0, 1) := by decide +kernel
theorem dX8_beginAct_134 : decode cX8_beginAct 134 = .ok (.iastore, 1) := by decide +kernel
theorem dX8_beginAct_135 : decode cX8_beginAct 135 = .ok (.aload_n 0, 1) := by decide +kernel
theorem dX8_beginAct_136 : decode cX8_beginAct 136 = .ok (.getfield 66, 3) := by decide +kernel
theorem dX8_beginAct_139 : decode cX8_beginAct 139 = .ok (.iload_n 1, 1) := by decide +kernel
theorem dX8_beginAct_140 : decode cX8_beginAct 140 = .ok (.lconst 0, 1) := by decide +kernel
theorem dX8_beginAct_141 : decode cX8_beginAct 141 = .ok (.lastore, 1) := by decide +kernel
theorem dX8_beginAct_142 : decode cX8_beginAct 142 = .ok (.iload_n 2, 1) := by decide +kernel
theorem dX8_beginAct_143 : decode cX8_beginAct 143 = .ok (.iconst 2, 1) := by decide +kernel
theorem dX8_beginAct_144 : decode cX8_beginAct 144 = .ok (.if_icmp .ne 11, 3) := by decide +kernel
theorem dX8_beginAct_147 : decode cX8_beginAct 147 = .ok (.aload_n 0, 1) := by decide +kernel
theorem dX8_beginAct_148 : decode cX8_beginAct 148 = .ok (.getfield 51, 3) := by decide +kernel
theorem dX8_beginAct_151 : decode cX8_beginAct 151 = .ok (.iload_n 1, 1) := by decide +kernel
theorem dX8_beginAct_152 : decode cX8_beginAct 152 = .ok (.iload 5, 2) := by decide +kernel
theorem dX8_beginAct_154 : decode cX8_beginAct 154 = .ok (.iastore, 1) := by decide +kernel
theorem dX8_beginAct_155 : decode cX8_beginAct 155 = .ok (.aload_n 0, 1) := by decide +kernel
theorem dX8_beginAct_156 : decode cX8_beginAct 156 = .ok (.iload_n 1, 1) := by decide +kernel
theorem dX8_beginAct_157 : decode cX8_beginAct 157 = .ok (.iload_n 2, 1) := by decide +kernel
theorem dX8_beginAct_158 : decode cX8_beginAct 158 = .ok (.iconst 2, 1) := by decide +kernel
theorem dX8_beginAct_159 : decode cX8_beginAct 159 = .ok (.if_icmp .ne 7, 3) := by decide +kernel
theorem dX8_beginAct_162 : decode cX8_beginAct 162 = .ok (.iconst 3, 1) := by decide +kernel
theorem dX8_beginAct_163 : decode cX8_beginAct 163 = .ok (.goto 4, 3) := by decide +kernel
theorem dX8_beginAct_166 : decode cX8_beginAct 166 = .ok (.iconst 1, 1) := by decide +kernel
theorem dX8_beginAct_167 : decode cX8_beginAct 167 = .ok (.invokevirtual 160, 3) := by decide +kernel
theorem dX8_beginAct_170 : decode cX8_beginAct 170 = .ok (.aload_n 0, 1) := by decide +kernel
theorem dX8_beginAct_171 : decode cX8_beginAct 171 = .ok (.getfield 154, 3) := by decide +kernel
theorem dX8_beginAct_174 : decode cX8_beginAct 174 = .ok (.ireturn, 1) := by decide +kernel
theorem dX8_change_0 : decode cX8_change 0 = .ok (.iconst 0, 1) := by decide +kernel
theorem dX8_change_1 : decode cX8_change 1 = .ok (.istore_n 3, 1) := by decide +kernel
theorem dX8_change_2 : decode cX8_change 2 = .ok (.iconst 0, 1) := by decide +kernel
theorem dX8_change_3 : decode cX8_change 3 = .ok (.istore 4, 2) := by decide +kernel
theorem dX8_change_5 : decode cX8_change 5 = .ok (.iload 4, 2) := by decide +kernel
theorem dX8_change_7 : decode cX8_change 7 = .ok (.aload_n 0, 1) := by decide +kernel
theorem dX8_change_8 : decode cX8_change 8 = .ok (.getfield 129, 3) := by decide +kernel
theorem dX8_change_11 : decode cX8_change 11 = .ok (.if_icmp .ge 19, 3) := by decide +kernel
theorem dX8_change_14 : decode cX8_change 14 = .ok (.iload_n 3, 1) := by decide +kernel
theorem dX8_change_15 : decode cX8_change 15 = .ok (.aload_n 0, 1) := by decide +kernel
theorem dX8_change_16 : decode cX8_change 16 = .ok (.getfield 36, 3) := by decide +kernel
theorem dX8_change_19 : decode cX8_change 19 = .ok (.iload 4, 2) := by decide +kernel
theorem dX8_change_21 : decode cX8_change 21 = .ok (.iaload, 1) := by decide +kernel
theorem dX8_change_22 : decode cX8_change 22 = .ok (.iadd, 1) := by decide +kernel
theorem dX8_change_23 : decode cX8_change 23 = .ok (.istore_n 3, 1) := by decide +kernel
theorem dX8_change_24 : decode cX8_change 24 = .ok (.iinc 4 1, 3) := by decide +kernel
theorem dX8_change_27 : decode cX8_change 27 = .ok (.goto (-22), 3) := by decide +kernel
theorem dX8_change_30 : decode cX8_change 30 = .ok (.iload_n 1, 1) := by decide +kernel
theorem dX8_change_31 : decode cX8_change 31 = .ok (.iconst 1, 1) := by decide +kernel
theorem dX8_change_32 : decode cX8_change 32 = .ok (.if_icmp .lt 36, 3) := by decide +kernel
theorem dX8_change_35 : decode cX8_change 35 = .ok (.iload_n 2, 1) := by decide +kernel
theorem dX8_change_36 : decode cX8_change 36 = .ok (.iconst 1, 1) := by decide +kernel
theorem dX8_change_37 : decode cX8_change 37 = .ok (.if_icmp .lt 31, 3) := by decide +kernel
theorem dX8_change_40 : decode cX8_change 40 = .ok (.iload_n 1, 1) := by decide +kernel
theorem dX8_change_41 : decode cX8_change 41 = .ok (.iload_n 3, 1) := by decide +kernel
theorem dX8_change_42 : decode cX8_change 42 = .ok (.if_icmp .gt 26, 3) := by decide +kernel
theorem dX8_change_45 : decode cX8_change 45 = .ok (.iload_n 2, 1) := by decide +kernel
theorem dX8_change_46 : decode cX8_change 46 = .ok (.iload_n 3, 1) := by decide +kernel
theorem dX8_change_47 : decode cX8_change 47 = .ok (.if_icmp .gt 21, 3) := by decide +kernel
theorem dX8_change_50 : decode cX8_change 50 = .ok (.iload_n 1, 1) := by decide +kernel
theorem dX8_change_51 : decode cX8_change 51 = .ok (.iload_n 2, 1) := by decide +kernel
theorem dX8_change_52 : decode cX8_change 52 = .ok (.iadd, 1) := by decide +kernel
theorem dX8_change_53 : decode cX8_change 53 = .ok (.iload_n 3, 1) := by decide +kernel
theorem dX8_change_54 : decode cX8_change 54 = .ok (.if_icmp .le 14, 3) := by decide +kernel
theorem dX8_change_57 : decode cX8_change 57 = .ok (.iconst 2, 1) := by decide +kernel
theorem dX8_change_58 : decode cX8_change 58 = .ok (.iload_n 2, 1) := by decide +kernel
theorem dX8_change_59 : decode cX8_change 59 = .ok (.imul, 1) := by decide +kernel
theorem dX8_change_60 : decode cX8_change 60 = .ok (.iload_n 3, 1) := by decide +kernel
theorem dX8_change_61 : decode cX8_change 61 = .ok (.if_icmp .le 7, 3) := by decide +kernel
theorem dX8_change_64 : decode cX8_change 64 = .ok (.iconst 1, 1) := by decide +kernel
theorem dX8_change_65 : decode cX8_change 65 = .ok (.goto 4, 3) := by decide +kernel
theorem dX8_change_68 : decode cX8_change 68 = .ok (.iconst 0, 1) := by decide +kernel
theorem dX8_change_69 : decode cX8_change 69 = .ok (.istore 4, 2) := by decide +kernel
theorem dX8_change_71 : decode cX8_change 71 = .ok (.iload 4, 2) := by decide +kernel
theorem dX8_change_73 : decode cX8_change 73 = .ok (.ifCond .eq 46, 3) := by decide +kernel
theorem dX8_change_76 : decode cX8_change 76 = .ok (.aload_n 0, 1) := by decide +kernel
theorem dX8_change_77 : decode cX8_change 77 = .ok (.getfield 133, 3) := by decide +kernel
theorem dX8_change_80 : decode cX8_change 80 = .ok (.bipush 16, 2) := by decide +kernel
theorem dX8_change_82 : decode cX8_change 82 = .ok (.if_icmp .eq 37, 3) := by decide +kernel
theorem dX8_change_85 : decode cX8_change 85 = .ok (.aload_n 0, 1) := by decide +kernel
theorem dX8_change_86 : decode cX8_change 86 = .ok (.getfield 154, 3) := by decide +kernel
theorem dX8_change_89 : decode cX8_change 89 = .ok (.sipush 200, 3) := by decide +kernel
theorem dX8_change_92 : decode cX8_change 92 = .ok (.if_icmp .eq 27, 3) := by decide +kernel
theorem dX8_change_95 : decode cX8_change 95 = .ok (.aload_n 0, 1) := by decide +kernel
theorem dX8_change_96 : decode cX8_change 96 = .ok (.getfield 39, 3) := by decide +kernel
theorem dX8_change_99 : decode cX8_change 99 = .ok (.iconst 0, 1) := by decide +kernel
theorem dX8_change_100 : decode cX8_change 100 = .ok (.iaload, 1) := by decide +kernel
theorem dX8_change_101 : decode cX8_change 101 = .ok (.ifCond .ge 18, 3) := by decide +kernel
theorem dX8_change_104 : decode cX8_change 104 = .ok (.aload_n 0, 1) := by decide +kernel
theorem dX8_change_105 : decode cX8_change 105 = .ok (.getfield 48, 3) := by decide +kernel
theorem dX8_change_108 : decode cX8_change 108 = .ok (.iconst 0, 1) := by decide +kernel
theorem dX8_change_109 : decode cX8_change 109 = .ok (.iaload, 1) := by decide +kernel
theorem dX8_change_110 : decode cX8_change 110 = .ok (.aload_n 0, 1) := by decide +kernel
theorem dX8_change_111 : decode cX8_change 111 = .ok (.getfield 51, 3) := by decide +kernel
theorem dX8_change_114 : decode cX8_change 114 = .ok (.iconst 0, 1) := by decide +kernel
theorem dX8_change_115 : decode cX8_change 115 = .ok (.iaload, 1) := by decide +kernel
theorem dX8_change_116 : decode cX8_change 116 = .ok (.if_icmp .ge 5, 3) := by decide +kernel
theorem dX8_change_119 : decode cX8_change 119 = .ok (.iconst (-1), 1) := by decide +kernel
theorem dX8_change_120 : decode cX8_change 120 = .ok (.ireturn, 1) := by decide +kernel
theorem dX8_change_121 : decode cX8_change 121 = .ok (.iconst 0, 1) := by decide +kernel
theorem dX8_change_122 : decode cX8_change 122 = .ok (.istore 5, 2) := by decide +kernel
theorem dX8_change_124 : decode cX8_change 124 = .ok (.iload 5, 2) := by decide +kernel
theorem dX8_change_126 : decode cX8_change 126 = .ok (.aload_n 0, 1) := by decide +kernel
theorem dX8_change_127 : decode cX8_change 127 = .ok (.getfield 129, 3) := by decide +kernel
theorem dX8_change_130 : decode cX8_change 130 = .ok (.if_icmp .ge 31, 3) := by decide +kernel
theorem dX8_change_133 : decode cX8_change 133 = .ok (.aload_n 0, 1) := by decide +kernel
theorem dX8_change_134 : decode cX8_change 134 = .ok (.getfield 33, 3) := by decide +kernel
theorem dX8_change_137 : decode cX8_change 137 = .ok (.bipush 9, 2) := by decide +kernel
theorem dX8_change_139 : decode cX8_change 139 = .ok (.aload_n 0, 1) := by decide +kernel
theorem dX8_change_140 : decode cX8_change 140 = .ok (.getfield 133, 3) := by decide +kernel
theorem dX8_change_143 : decode cX8_change 143 = .ok (.imul, 1) := by decide +kernel
theorem dX8_change_144 : decode cX8_change 144 = .ok (.iload 5, 2) := by decide +kernel
theorem dX8_change_146 : decode cX8_change 146 = .ok (.iadd, 1) := by decide +kernel
theorem dX8_change_147 : decode cX8_change 147 = .ok (.aload_n 0, 1) := by decide +kernel
theorem dX8_change_148 : decode cX8_change 148 = .ok (.getfield 36, 3) := by decide +kernel
theorem dX8_change_151 : decode cX8_change 151 = .ok (.iload 5, 2) := by decide +kernel
theorem dX8_change_153 : decode cX8_change 153 = .ok (.iaload, 1) := by decide +kernel
theorem dX8_change_154 : decode cX8_change 154 = .ok (.iastore, 1) := by decide +kernel
theorem dX8_change_155 : decode cX8_change 155 = .ok (.iinc 5 1, 3) := by decide +kernel
theorem dX8_change_158 : decode cX8_change 158 = .ok (.goto (-34), 3) := by decide +kernel
theorem dX8_change_161 : decode cX8_change 161 = .ok (.aload_n 0, 1) := by decide +kernel
theorem dX8_change_162 : decode cX8_change 162 = .ok (.getfield 33, 3) := by decide +kernel
theorem dX8_change_165 : decode cX8_change 165 = .ok (.bipush 9, 2) := by decide +kernel
theorem dX8_change_167 : decode cX8_change 167 = .ok (.aload_n 0, 1) := by decide +kernel
theorem dX8_change_168 : decode cX8_change 168 = .ok (.getfield 133, 3) := by decide +kernel
theorem dX8_change_171 : decode cX8_change 171 = .ok (.imul, 1) := by decide +kernel
theorem dX8_change_172 : decode cX8_change 172 = .ok (.bipush 7, 2) := by decide +kernel
theorem dX8_change_174 : decode cX8_change 174 = .ok (.iadd, 1) := by decide +kernel
theorem dX8_change_175 : decode cX8_change 175 = .ok (.iload_n 1, 1) := by decide +kernel
theorem dX8_change_176 : decode cX8_change 176 = .ok (.iastore, 1) := by decide +kernel
theorem dX8_change_177 : decode cX8_change 177 = .ok (.aload_n 0, 1) := by decide +kernel
theorem dX8_change_178 : decode cX8_change 178 = .ok (.getfield 33, 3) := by decide +kernel
theorem dX8_change_181 : decode cX8_change 181 = .ok (.bipush 9, 2) := by decide +kernel
theorem dX8_change_183 : decode cX8_change 183 = .ok (.aload_n 0, 1) := by decide +kernel
theorem dX8_change_184 : decode cX8_change 184 = .ok (.getfield 133, 3) := by decide +kernel
theorem dX8_change_187 : decode cX8_change 187 = .ok (.imul, 1) := by decide +kernel
theorem dX8_change_188 : decode cX8_change 188 = .ok (.bipush 8, 2) := by decide +kernel
theorem dX8_change_190 : decode cX8_change 190 = .ok (.iadd, 1) := by decide +kernel
theorem dX8_change_191 : decode cX8_change 191 = .ok (.iload_n 2, 1) := by decide +kernel
theorem dX8_change_192 : decode cX8_change 192 = .ok (.iastore, 1) := by decide +kernel
theorem dX8_change_193 : decode cX8_change 193 = .ok (.aload_n 0, 1) := by decide +kernel
theorem dX8_change_194 : decode cX8_change 194 = .ok (.dup, 1) := by decide +kernel
theorem dX8_change_195 : decode cX8_change 195 = .ok (.getfield 133, 3) := by decide +kernel
theorem dX8_change_198 : decode cX8_change 198 = .ok (.iconst 1, 1) := by decide +kernel
theorem dX8_change_199 : decode cX8_change 199 = .ok (.iadd, 1) := by decide +kernel
theorem dX8_change_200 : decode cX8_change 200 = .ok (.putfield 133, 3) := by decide +kernel
theorem dX8_change_203 : decode cX8_change 203 = .ok (.aload_n 0, 1) := by decide +kernel
theorem dX8_change_204 : decode cX8_change 204 = .ok (.iconst 0, 1) := by decide +kernel
theorem dX8_change_205 : decode cX8_change 205 = .ok (.iconst 2, 1) := by decide +kernel
theorem dX8_change_206 : decode cX8_change 206 = .ok (.lconst 0, 1) := by decide +kernel
theorem dX8_change_207 : decode cX8_change 207 = .ok (.aload_n 0, 1) := by decide +kernel
theorem dX8_change_208 : decode cX8_change 208 = .ok (.getfield 133, 3) := by decide +kernel
theorem dX8_change_211 : decode cX8_change 211 = .ok (.iconst 1, 1) := by decide +kernel
theorem dX8_change_212 : decode cX8_change 212 = .ok (.isub, 1) := by decide +kernel
theorem dX8_change_213 : decode cX8_change 213 = .ok (.invokevirtual 163, 3) := by decide +kernel
theorem dX8_change_216 : decode cX8_change 216 = .ok (.ireturn, 1) := by decide +kernel
theorem dX8_resume_0 : decode cX8_resume 0 = .ok (.aload_n 0, 1) := by decide +kernel
theorem dX8_resume_1 : decode cX8_resume 1 = .ok (.getfield 39, 3) := by decide +kernel
theorem dX8_resume_4 : decode cX8_resume 4 = .ok (.iconst 0, 1) := by decide +kernel
theorem dX8_resume_5 : decode cX8_resume 5 = .ok (.iaload, 1) := by decide +kernel
theorem dX8_resume_6 : decode cX8_resume 6 = .ok (.ifCond .ge 28, 3) := by decide +kernel
theorem dX8_resume_9 : decode cX8_resume 9 = .ok (.aload_n 0, 1) := by decide +kernel
theorem dX8_resume_10 : decode cX8_resume 10 = .ok (.getfield 48, 3) := by decide +kernel
theorem dX8_resume_13 : decode cX8_resume 13 = .ok (.iconst 0, 1) := by decide +kernel
theorem dX8_resume_14 : decode cX8_resume 14 = .ok (.iaload, 1) := by decide +kernel
theorem dX8_resume_15 : decode cX8_resume 15 = .ok (.aload_n 0, 1) := by decide +kernel
theorem dX8_resume_16 : decode cX8_resume 16 = .ok (.getfield 51, 3) := by decide +kernel
theorem dX8_resume_19 : decode cX8_resume 19 = .ok (.iconst 0, 1) := by decide +kernel
theorem dX8_resume_20 : decode cX8_resume 20 = .ok (.iaload, 1) := by decide +kernel
theorem dX8_resume_21 : decode cX8_resume 21 = .ok (.if_icmp .ge 13, 3) := by decide +kernel
theorem dX8_resume_24 : decode cX8_resume 24 = .ok (.aload_n 0, 1) := by decide +kernel
theorem dX8_resume_25 : decode cX8_resume 25 = .ok (.getfield 154, 3) := by decide +kernel
theorem dX8_resume_28 : decode cX8_resume 28 = .ok (.sipush 200, 3) := by decide +kernel
theorem dX8_resume_31 : decode cX8_resume 31 = .ok (.if_icmp .ne 5, 3) := by decide +kernel
theorem dX8_resume_34 : decode cX8_resume 34 = .ok (.iconst (-1), 1) := by decide +kernel
theorem dX8_resume_35 : decode cX8_resume 35 = .ok (.ireturn, 1) := by decide +kernel
theorem dX8_resume_36 : decode cX8_resume 36 = .ok (.aload_n 0, 1) := by decide +kernel
theorem dX8_resume_37 : decode cX8_resume 37 = .ok (.iconst 0, 1) := by decide +kernel
theorem dX8_resume_38 : decode cX8_resume 38 = .ok (.iconst 2, 1) := by decide +kernel
theorem dX8_resume_39 : decode cX8_resume 39 = .ok (.lconst 0, 1) := by decide +kernel
theorem dX8_resume_40 : decode cX8_resume 40 = .ok (.aload_n 0, 1) := by decide +kernel
theorem dX8_resume_41 : decode cX8_resume 41 = .ok (.getfield 51, 3) := by decide +kernel
theorem dX8_resume_44 : decode cX8_resume 44 = .ok (.iconst 0, 1) := by decide +kernel
theorem dX8_resume_45 : decode cX8_resume 45 = .ok (.iaload, 1) := by decide +kernel
theorem dX8_resume_46 : decode cX8_resume 46 = .ok (.invokevirtual 163, 3) := by decide +kernel
theorem dX8_resume_49 : decode cX8_resume 49 = .ok (.ireturn, 1) := by decide +kernel
theorem dX8_read_0 : decode cX8_read 0 = .ok (.iload_n 1, 1) := by decide +kernel
theorem dX8_read_1 : decode cX8_read 1 = .ok (.invokestatic 167, 3) := by decide +kernel
theorem dX8_read_4 : decode cX8_read 4 = .ok (.ifCond .eq 22, 3) := by decide +kernel
theorem dX8_read_7 : decode cX8_read 7 = .ok (.aload_n 0, 1) := by decide +kernel
theorem dX8_read_8 : decode cX8_read 8 = .ok (.getfield 39, 3) := by decide +kernel
theorem dX8_read_11 : decode cX8_read 11 = .ok (.iload_n 1, 1) := by decide +kernel
theorem dX8_read_12 : decode cX8_read 12 = .ok (.iaload, 1) := by decide +kernel
theorem dX8_read_13 : decode cX8_read 13 = .ok (.ifCond .ge 13, 3) := by decide +kernel
theorem dX8_read_16 : decode cX8_read 16 = .ok (.aload_n 0, 1) := by decide +kernel
theorem dX8_read_17 : decode cX8_read 17 = .ok (.getfield 154, 3) := by decide +kernel
theorem dX8_read_20 : decode cX8_read 20 = .ok (.sipush 200, 3) := by decide +kernel
theorem dX8_read_23 : decode cX8_read 23 = .ok (.if_icmp .ne 7, 3) := by decide +kernel
theorem dX8_read_26 : decode cX8_read 26 = .ok (.iconst (-1), 1) := by decide +kernel
theorem dX8_read_27 : decode cX8_read 27 = .ok (.goto 11, 3) := by decide +kernel
theorem dX8_read_30 : decode cX8_read 30 = .ok (.aload_n 0, 1) := by decide +kernel
theorem dX8_read_31 : decode cX8_read 31 = .ok (.iload_n 1, 1) := by decide +kernel
theorem dX8_read_32 : decode cX8_read 32 = .ok (.iconst 0, 1) := by decide +kernel
theorem dX8_read_33 : decode cX8_read 33 = .ok (.lconst 0, 1) := by decide +kernel
theorem dX8_read_34 : decode cX8_read 34 = .ok (.iconst (-1), 1) := by decide +kernel
theorem dX8_read_35 : decode cX8_read 35 = .ok (.invokevirtual 163, 3) := by decide +kernel
theorem dX8_read_38 : decode cX8_read 38 = .ok (.ireturn, 1) := by decide +kernel
theorem dX8_write_0 : decode cX8_write 0 = .ok (.iload_n 1, 1) := by decide +kernel
theorem dX8_write_1 : decode cX8_write 1 = .ok (.invokestatic 167, 3) := by decide +kernel
theorem dX8_write_4 : decode cX8_write 4 = .ok (.ifCond .eq 22, 3) := by decide +kernel
theorem dX8_write_7 : decode cX8_write 7 = .ok (.aload_n 0, 1) := by decide +kernel
theorem dX8_write_8 : decode cX8_write 8 = .ok (.getfield 39, 3) := by decide +kernel
theorem dX8_write_11 : decode cX8_write 11 = .ok (.iload_n 1, 1) := by decide +kernel
theorem dX8_write_12 : decode cX8_write 12 = .ok (.iaload, 1) := by decide +kernel
theorem dX8_write_13 : decode cX8_write 13 = .ok (.ifCond .ge 13, 3) := by decide +kernel
theorem dX8_write_16 : decode cX8_write 16 = .ok (.aload_n 0, 1) := by decide +kernel
theorem dX8_write_17 : decode cX8_write 17 = .ok (.getfield 154, 3) := by decide +kernel
theorem dX8_write_20 : decode cX8_write 20 = .ok (.sipush 200, 3) := by decide +kernel
theorem dX8_write_23 : decode cX8_write 23 = .ok (.if_icmp .ne 7, 3) := by decide +kernel
theorem dX8_write_26 : decode cX8_write 26 = .ok (.iconst (-1), 1) := by decide +kernel
theorem dX8_write_27 : decode cX8_write 27 = .ok (.goto 11, 3) := by decide +kernel
theorem dX8_write_30 : decode cX8_write 30 = .ok (.aload_n 0, 1) := by decide +kernel
theorem dX8_write_31 : decode cX8_write 31 = .ok (.iload_n 1, 1) := by decide +kernel
theorem dX8_write_32 : decode cX8_write 32 = .ok (.iconst 1, 1) := by decide +kernel
theorem dX8_write_33 : decode cX8_write 33 = .ok (.lload_n 2, 1) := by decide +kernel
theorem dX8_write_34 : decode cX8_write 34 = .ok (.iconst (-1), 1) := by decide +kernel
theorem dX8_write_35 : decode cX8_write 35 = .ok (.invokevirtual 163, 3) := by decide +kernel
theorem dX8_write_38 : decode cX8_write 38 = .ok (.ireturn, 1) := by decide +kernel
theorem dX8_again_0 : decode cX8_again 0 = .ok (.iload_n 1, 1) := by decide +kernel
theorem dX8_again_1 : decode cX8_again 1 = .ok (.invokestatic 167, 3) := by decide +kernel
theorem dX8_again_4 : decode cX8_again 4 = .ok (.ifCond .eq 12, 3) := by decide +kernel
theorem dX8_again_7 : decode cX8_again 7 = .ok (.aload_n 0, 1) := by decide +kernel
theorem dX8_again_8 : decode cX8_again 8 = .ok (.getfield 39, 3) := by decide +kernel
theorem dX8_again_11 : decode cX8_again 11 = .ok (.iload_n 1, 1) := by decide +kernel
theorem dX8_again_12 : decode cX8_again 12 = .ok (.iaload, 1) := by decide +kernel
theorem dX8_again_13 : decode cX8_again 13 = .ok (.ifCond .ge 5, 3) := by decide +kernel
theorem dX8_again_16 : decode cX8_again 16 = .ok (.iconst (-1), 1) := by decide +kernel
theorem dX8_again_17 : decode cX8_again 17 = .ok (.ireturn, 1) := by decide +kernel
theorem dX8_again_18 : decode cX8_again 18 = .ok (.iconst 0, 1) := by decide +kernel
theorem dX8_again_19 : decode cX8_again 19 = .ok (.istore_n 2, 1) := by decide +kernel
theorem dX8_again_20 : decode cX8_again 20 = .ok (.iconst 0, 1) := by decide +kernel
theorem dX8_again_21 : decode cX8_again 21 = .ok (.istore_n 3, 1) := by decide +kernel
theorem dX8_again_22 : decode cX8_again 22 = .ok (.iload_n 3, 1) := by decide +kernel
theorem dX8_again_23 : decode cX8_again 23 = .ok (.aload_n 0, 1) := by decide +kernel
theorem dX8_again_24 : decode cX8_again 24 = .ok (.getfield 129, 3) := by decide +kernel
theorem dX8_again_27 : decode cX8_again 27 = .ok (.if_icmp .ge 35, 3) := by decide +kernel
theorem dX8_again_30 : decode cX8_again 30 = .ok (.aload_n 0, 1) := by decide +kernel
theorem dX8_again_31 : decode cX8_again 31 = .ok (.getfield 57, 3) := by decide +kernel
theorem dX8_again_34 : decode cX8_again 34 = .ok (.iload_n 1, 1) := by decide +kernel
theorem dX8_again_35 : decode cX8_again 35 = .ok (.iaload, 1) := by decide +kernel
theorem dX8_again_36 : decode cX8_again 36 = .ok (.iload_n 3, 1) := by decide +kernel
theorem dX8_again_37 : decode cX8_again 37 = .ok (.ishr, 1) := by decide +kernel
theorem dX8_again_38 : decode cX8_again 38 = .ok (.iconst 1, 1) := by decide +kernel
theorem dX8_again_39 : decode cX8_again 39 = .ok (.iand, 1) := by decide +kernel
theorem dX8_again_40 : decode cX8_again 40 = .ok (.iconst 1, 1) := by decide +kernel
theorem dX8_again_41 : decode cX8_again 41 = .ok (.if_icmp .ne 6, 3) := by decide +kernel
theorem dX8_again_44 : decode cX8_again 44 = .ok (.goto 12, 3) := by decide +kernel
theorem dX8_again_47 : decode cX8_again 47 = .ok (.aload_n 0, 1) := by decide +kernel
theorem dX8_again_48 : decode cX8_again 48 = .ok (.iload_n 1, 1) := by decide +kernel
theorem dX8_again_49 : decode cX8_again 49 = .ok (.iload_n 3, 1) := by decide +kernel
theorem dX8_again_50 : decode cX8_again 50 = .ok (.invokevirtual 150, 3) := by decide +kernel
theorem dX8_again_53 : decode cX8_again 53 = .ok (.iinc 2 1, 3) := by decide +kernel
theorem dX8_again_56 : decode cX8_again 56 = .ok (.iinc 3 1, 3) := by decide +kernel
theorem dX8_again_59 : decode cX8_again 59 = .ok (.goto (-37), 3) := by decide +kernel
theorem dX8_again_62 : decode cX8_again 62 = .ok (.iload_n 2, 1) := by decide +kernel
theorem dX8_again_63 : decode cX8_again 63 = .ok (.ireturn, 1) := by decide +kernel
theorem dX8_isGreater_0 : decode cX8_isGreater 0 = .ok (.iload_n 0, 1) := by decide +kernel
theorem dX8_isGreater_1 : decode cX8_isGreater 1 = .ok (.iload_n 2, 1) := by decide +kernel
theorem dX8_isGreater_2 : decode cX8_isGreater 2 = .ok (.if_icmp .gt 13, 3) := by decide +kernel
theorem dX8_isGreater_5 : decode cX8_isGreater 5 = .ok (.iload_n 0, 1) := by decide +kernel
theorem dX8_isGreater_6 : decode cX8_isGreater 6 = .ok (.iload_n 2, 1) := by decide +kernel
theorem dX8_isGreater_7 : decode cX8_isGreater 7 = .ok (.if_icmp .ne 12, 3) := by decide +kernel
theorem dX8_isGreater_10 : decode cX8_isGreater 10 = .ok (.iload_n 1, 1) := by decide +kernel
theorem dX8_isGreater_11 : decode cX8_isGreater 11 = .ok (.iload_n 3, 1) := by decide +kernel
theorem dX8_isGreater_12 : decode cX8_isGreater 12 = .ok (.if_icmp .le 7, 3) := by decide +kernel
theorem dX8_isGreater_15 : decode cX8_isGreater 15 = .ok (.iconst 1, 1) := by decide +kernel
theorem dX8_isGreater_16 : decode cX8_isGreater 16 = .ok (.goto 4, 3) := by decide +kernel
theorem dX8_isGreater_19 : decode cX8_isGreater 19 = .ok (.iconst 0, 1) := by decide +kernel
theorem dX8_isGreater_20 : decode cX8_isGreater 20 = .ok (.ireturn, 1) := by decide +kernel
theorem dX8_isQuorum_0 : decode cX8_isQuorum 0 = .ok (.iconst 0, 1) := by decide +kernel
theorem dX8_isQuorum_1 : decode cX8_isQuorum 1 = .ok (.istore 4, 2) := by decide +kernel
theorem dX8_isQuorum_3 : decode cX8_isQuorum 3 = .ok (.iconst 0, 1) := by decide +kernel
theorem dX8_isQuorum_4 : decode cX8_isQuorum 4 = .ok (.istore 5, 2) := by decide +kernel
theorem dX8_isQuorum_6 : decode cX8_isQuorum 6 = .ok (.iload 5, 2) := by decide +kernel
theorem dX8_isQuorum_8 : decode cX8_isQuorum 8 = .ok (.aload_n 0, 1) := by decide +kernel
theorem dX8_isQuorum_9 : decode cX8_isQuorum 9 = .ok (.getfield 129, 3) := by decide +kernel
theorem dX8_isQuorum_12 : decode cX8_isQuorum 12 = .ok (.if_icmp .ge 45, 3) := by decide +kernel
theorem dX8_isQuorum_15 : decode cX8_isQuorum 15 = .ok (.iload 4, 2) := by decide +kernel
theorem dX8_isQuorum_17 : decode cX8_isQuorum 17 = .ok (.aload_n 0, 1) := by decide +kernel
theorem dX8_isQuorum_18 : decode cX8_isQuorum 18 = .ok (.getfield 57, 3) := by decide +kernel
theorem dX8_isQuorum_21 : decode cX8_isQuorum 21 = .ok (.iload_n 1, 1) := by decide +kernel
theorem dX8_isQuorum_22 : decode cX8_isQuorum 22 = .ok (.iaload, 1) := by decide +kernel
theorem dX8_isQuorum_23 : decode cX8_isQuorum 23 = .ok (.iload 5, 2) := by decide +kernel
theorem dX8_isQuorum_25 : decode cX8_isQuorum 25 = .ok (.ishr, 1) := by decide +kernel
theorem dX8_isQuorum_26 : decode cX8_isQuorum 26 = .ok (.iconst 1, 1) := by decide +kernel
theorem dX8_isQuorum_27 : decode cX8_isQuorum 27 = .ok (.iand, 1) := by decide +kernel
theorem dX8_isQuorum_28 : decode cX8_isQuorum 28 = .ok (.iconst 1, 1) := by decide +kernel
theorem dX8_isQuorum_29 : decode cX8_isQuorum 29 = .ok (.if_icmp .ne 18, 3) := by decide +kernel
theorem dX8_isQuorum_32 : decode cX8_isQuorum 32 = .ok (.aload_n 0, 1) := by decide +kernel
theorem dX8_isQuorum_33 : decode cX8_isQuorum 33 = .ok (.getfield 33, 3) := by decide +kernel
theorem dX8_isQuorum_36 : decode cX8_isQuorum 36 = .ok (.bipush 9, 2) := by decide +kernel
theorem dX8_isQuorum_38 : decode cX8_isQuorum 38 = .ok (.iload_n 2, 1) := by decide +kernel
theorem dX8_isQuorum_39 : decode cX8_isQuorum 39 = .ok (.imul, 1) := by decide +kernel
theorem dX8_isQuorum_40 : decode cX8_isQuorum 40 = .ok (.iload 5, 2) := by decide +kernel
theorem dX8_isQuorum_42 : decode cX8_isQuorum 42 = .ok (.iadd, 1) := by decide +kernel
theorem dX8_isQuorum_43 : decode cX8_isQuorum 43 = .ok (.iaload, 1) := by decide +kernel
theorem dX8_isQuorum_44 : decode cX8_isQuorum 44 = .ok (.goto 4, 3) := by decide +kernel
theorem dX8_isQuorum_47 : decode cX8_isQuorum 47 = .ok (.iconst 0, 1) := by decide +kernel
theorem dX8_isQuorum_48 : decode cX8_isQuorum 48 = .ok (.iadd, 1) := by decide +kernel
theorem dX8_isQuorum_49 : decode cX8_isQuorum 49 = .ok (.istore 4, 2) := by decide +kernel
theorem dX8_isQuorum_51 : decode cX8_isQuorum 51 = .ok (.iinc 5 1, 3) := by decide +kernel
theorem dX8_isQuorum_54 : decode cX8_isQuorum 54 = .ok (.goto (-48), 3) := by decide +kernel
theorem dX8_isQuorum_57 : decode cX8_isQuorum 57 = .ok (.iload 4, 2) := by decide +kernel
theorem dX8_isQuorum_59 : decode cX8_isQuorum 59 = .ok (.aload_n 0, 1) := by decide +kernel
theorem dX8_isQuorum_60 : decode cX8_isQuorum 60 = .ok (.getfield 33, 3) := by decide +kernel
theorem dX8_isQuorum_63 : decode cX8_isQuorum 63 = .ok (.bipush 9, 2) := by decide +kernel
theorem dX8_isQuorum_65 : decode cX8_isQuorum 65 = .ok (.iload_n 2, 1) := by decide +kernel
theorem dX8_isQuorum_66 : decode cX8_isQuorum 66 = .ok (.imul, 1) := by decide +kernel
theorem dX8_isQuorum_67 : decode cX8_isQuorum 67 = .ok (.iload_n 3, 1) := by decide +kernel
theorem dX8_isQuorum_68 : decode cX8_isQuorum 68 = .ok (.iadd, 1) := by decide +kernel
theorem dX8_isQuorum_69 : decode cX8_isQuorum 69 = .ok (.iaload, 1) := by decide +kernel
theorem dX8_isQuorum_70 : decode cX8_isQuorum 70 = .ok (.if_icmp .lt 7, 3) := by decide +kernel
theorem dX8_isQuorum_73 : decode cX8_isQuorum 73 = .ok (.iconst 1, 1) := by decide +kernel
theorem dX8_isQuorum_74 : decode cX8_isQuorum 74 = .ok (.goto 4, 3) := by decide +kernel
theorem dX8_isQuorum_77 : decode cX8_isQuorum 77 = .ok (.iconst 0, 1) := by decide +kernel
theorem dX8_isQuorum_78 : decode cX8_isQuorum 78 = .ok (.ireturn, 1) := by decide +kernel
theorem dX8_areQuorums_0 : decode cX8_areQuorums 0 = .ok (.iconst 1, 1) := by decide +kernel
theorem dX8_areQuorums_1 : decode cX8_areQuorums 1 = .ok (.istore 5, 2) := by decide +kernel
theorem dX8_areQuorums_3 : decode cX8_areQuorums 3 = .ok (.iload_n 2, 1) := by decide +kernel
theorem dX8_areQuorums_4 : decode cX8_areQuorums 4 = .ok (.istore 6, 2) := by decide +kernel
theorem dX8_areQuorums_6 : decode cX8_areQuorums 6 = .ok (.iload 6, 2) := by decide +kernel
theorem dX8_areQuorums_8 : decode cX8_areQuorums 8 = .ok (.iload_n 3, 1) := by decide +kernel
theorem dX8_areQuorums_9 : decode cX8_areQuorums 9 = .ok (.if_icmp .gt 25, 3) := by decide +kernel
theorem dX8_areQuorums_12 : decode cX8_areQuorums 12 = .ok (.iload 5, 2) := by decide +kernel
theorem dX8_areQuorums_14 : decode cX8_areQuorums 14 = .ok (.ifCond .eq 20, 3) := by decide +kernel
theorem dX8_areQuorums_17 : decode cX8_areQuorums 17 = .ok (.aload_n 0, 1) := by decide +kernel
theorem dX8_areQuorums_18 : decode cX8_areQuorums 18 = .ok (.iload_n 1, 1) := by decide +kernel
theorem dX8_areQuorums_19 : decode cX8_areQuorums 19 = .ok (.iload 6, 2) := by decide +kernel
theorem dX8_areQuorums_21 : decode cX8_areQuorums 21 = .ok (.iload 4, 2) := by decide +kernel
theorem dX8_areQuorums_23 : decode cX8_areQuorums 23 = .ok (.invokevirtual 170, 3) := by decide +kernel
theorem dX8_areQuorums_26 : decode cX8_areQuorums 26 = .ok (.istore 5, 2) := by decide +kernel
theorem dX8_areQuorums_28 : decode cX8_areQuorums 28 = .ok (.iinc 6 1, 3) := by decide +kernel
theorem dX8_areQuorums_31 : decode cX8_areQuorums 31 = .ok (.goto (-25), 3) := by decide +kernel
theorem dX8_areQuorums_34 : decode cX8_areQuorums 34 = .ok (.iload 5, 2) := by decide +kernel
theorem dX8_areQuorums_36 : decode cX8_areQuorums 36 = .ok (.ireturn, 1) := by decide +kernel
theorem dX8_isOver_0 : decode cX8_isOver 0 = .ok (.aload_n 0, 1) := by decide +kernel
theorem dX8_isOver_1 : decode cX8_isOver 1 = .ok (.getfield 87, 3) := by decide +kernel
theorem dX8_isOver_4 : decode cX8_isOver 4 = .ok (.aload_n 0, 1) := by decide +kernel
theorem dX8_isOver_5 : decode cX8_isOver 5 = .ok (.getfield 39, 3) := by decide +kernel
theorem dX8_isOver_8 : decode cX8_isOver 8 = .ok (.iload_n 1, 1) := by decide +kernel
theorem dX8_isOver_9 : decode cX8_isOver 9 = .ok (.iaload, 1) := by decide +kernel
theorem dX8_isOver_10 : decode cX8_isOver 10 = .ok (.iaload, 1) := by decide +kernel
theorem dX8_isOver_11 : decode cX8_isOver 11 = .ok (.istore_n 2, 1) := by decide +kernel
theorem dX8_isOver_12 : decode cX8_isOver 12 = .ok (.aload_n 0, 1) := by decide +kernel
theorem dX8_isOver_13 : decode cX8_isOver 13 = .ok (.getfield 42, 3) := by decide +kernel
theorem dX8_isOver_16 : decode cX8_isOver 16 = .ok (.iload_n 1, 1) := by decide +kernel
theorem dX8_isOver_17 : decode cX8_isOver 17 = .ok (.iaload, 1) := by decide +kernel
theorem dX8_isOver_18 : decode cX8_isOver 18 = .ok (.tableswitch 83 1 3 #[26, 46, 66], 26) := by decide +kernel
theorem dX8_isOver_44 : decode cX8_isOver 44 = .ok (.aload_n 0, 1) := by decide +kernel
theorem dX8_isOver_45 : decode cX8_isOver 45 = .ok (.iload_n 1, 1) := by decide +kernel
theorem dX8_isOver_46 : decode cX8_isOver 46 = .ok (.aload_n 0, 1) := by decide +kernel
theorem dX8_isOver_47 : decode cX8_isOver 47 = .ok (.getfield 48, 3) := by decide +kernel
theorem dX8_isOver_50 : decode cX8_isOver 50 = .ok (.iload_n 1, 1) := by decide +kernel
theorem dX8_isOver_51 : decode cX8_isOver 51 = .ok (.iaload, 1) := by decide +kernel
theorem dX8_isOver_52 : decode cX8_isOver 52 = .ok (.aload_n 0, 1) := by decide +kernel
theorem dX8_isOver_53 : decode cX8_isOver 53 = .ok (.getfield 51, 3) := by decide +kernel
theorem dX8_isOver_56 : decode cX8_isOver 56 = .ok (.iload_n 1, 1) := by decide +kernel
theorem dX8_isOver_57 : decode cX8_isOver 57 = .ok (.iaload, 1) := by decide +kernel
theorem dX8_isOver_58 : decode cX8_isOver 58 = .ok (.bipush 7, 2) := by decide +kernel
theorem dX8_isOver_60 : decode cX8_isOver 60 = .ok (.invokevirtual 174, 3) := by decide +kernel
theorem dX8_isOver_63 : decode cX8_isOver 63 = .ok (.ireturn, 1) := by decide +kernel
theorem dX8_isOver_64 : decode cX8_isOver 64 = .ok (.aload_n 0, 1) := by decide +kernel
theorem dX8_isOver_65 : decode cX8_isOver 65 = .ok (.iload_n 1, 1) := by decide +kernel
theorem dX8_isOver_66 : decode cX8_isOver 66 = .ok (.aload_n 0, 1) := by decide +kernel
theorem dX8_isOver_67 : decode cX8_isOver 67 = .ok (.getfield 48, 3) := by decide +kernel
theorem dX8_isOver_70 : decode cX8_isOver 70 = .ok (.iload_n 1, 1) := by decide +kernel
theorem dX8_isOver_71 : decode cX8_isOver 71 = .ok (.iaload, 1) := by decide +kernel
theorem dX8_isOver_72 : decode cX8_isOver 72 = .ok (.aload_n 0, 1) := by decide +kernel
theorem dX8_isOver_73 : decode cX8_isOver 73 = .ok (.getfield 51, 3) := by decide +kernel
theorem dX8_isOver_76 : decode cX8_isOver 76 = .ok (.iload_n 1, 1) := by decide +kernel
theorem dX8_isOver_77 : decode cX8_isOver 77 = .ok (.iaload, 1) := by decide +kernel
theorem dX8_isOver_78 : decode cX8_isOver 78 = .ok (.bipush 8, 2) := by decide +kernel
theorem dX8_isOver_80 : decode cX8_isOver 80 = .ok (.invokevirtual 174, 3) := by decide +kernel
theorem dX8_isOver_83 : decode cX8_isOver 83 = .ok (.ireturn, 1) := by decide +kernel
theorem dX8_isOver_84 : decode cX8_isOver 84 = .ok (.aload_n 0, 1) := by decide +kernel
theorem dX8_isOver_85 : decode cX8_isOver 85 = .ok (.iload_n 1, 1) := by decide +kernel
theorem dX8_isOver_86 : decode cX8_isOver 86 = .ok (.aload_n 0, 1) := by decide +kernel
theorem dX8_isOver_87 : decode cX8_isOver 87 = .ok (.getfield 48, 3) := by decide +kernel
theorem dX8_isOver_90 : decode cX8_isOver 90 = .ok (.iload_n 1, 1) := by decide +kernel
theorem dX8_isOver_91 : decode cX8_isOver 91 = .ok (.iaload, 1) := by decide +kernel
theorem dX8_isOver_92 : decode cX8_isOver 92 = .ok (.iload_n 2, 1) := by decide +kernel
theorem dX8_isOver_93 : decode cX8_isOver 93 = .ok (.iconst 1, 1) := by decide +kernel
theorem dX8_isOver_94 : decode cX8_isOver 94 = .ok (.isub, 1) := by decide +kernel
theorem dX8_isOver_95 : decode cX8_isOver 95 = .ok (.bipush 8, 2) := by decide +kernel
theorem dX8_isOver_97 : decode cX8_isOver 97 = .ok (.invokevirtual 174, 3) := by decide +kernel
theorem dX8_isOver_100 : decode cX8_isOver 100 = .ok (.ireturn, 1) := by decide +kernel
theorem dX8_isOver_101 : decode cX8_isOver 101 = .ok (.aload_n 0, 1) := by decide +kernel
theorem dX8_isOver_102 : decode cX8_isOver 102 = .ok (.iload_n 1, 1) := by decide +kernel
theorem dX8_isOver_103 : decode cX8_isOver 103 = .ok (.iload_n 2, 1) := by decide +kernel
theorem dX8_isOver_104 : decode cX8_isOver 104 = .ok (.bipush 8, 2) := by decide +kernel
theorem dX8_isOver_106 : decode cX8_isOver 106 = .ok (.invokevirtual 170, 3) := by decide +kernel
theorem dX8_isOver_109 : decode cX8_isOver 109 = .ok (.ireturn, 1) := by decide +kernel
theorem dX8_finish_0 : decode cX8_finish 0 = .ok (.aload_n 0, 1) := by decide +kernel
theorem dX8_finish_1 : decode cX8_finish 1 = .ok (.getfield 39, 3) := by decide +kernel
theorem dX8_finish_4 : decode cX8_finish 4 = .ok (.iload_n 1, 1) := by decide +kernel
theorem dX8_finish_5 : decode cX8_finish 5 = .ok (.iaload, 1) := by decide +kernel
theorem dX8_finish_6 : decode cX8_finish 6 = .ok (.istore_n 2, 1) := by decide +kernel
theorem dX8_finish_7 : decode cX8_finish 7 = .ok (.aload_n 0, 1) := by decide +kernel
theorem dX8_finish_8 : decode cX8_finish 8 = .ok (.getfield 78, 3) := by decide +kernel
theorem dX8_finish_11 : decode cX8_finish 11 = .ok (.iload_n 2, 1) := by decide +kernel
theorem dX8_finish_12 : decode cX8_finish 12 = .ok (.aload_n 0, 1) := by decide +kernel
theorem dX8_finish_13 : decode cX8_finish 13 = .ok (.getfield 157, 3) := by decide +kernel
theorem dX8_finish_16 : decode cX8_finish 16 = .ok (.iastore, 1) := by decide +kernel
theorem dX8_finish_17 : decode cX8_finish 17 = .ok (.aload_n 0, 1) := by decide +kernel
theorem dX8_finish_18 : decode cX8_finish 18 = .ok (.getfield 69, 3) := by decide +kernel
theorem dX8_finish_21 : decode cX8_finish 21 = .ok (.iload_n 2, 1) := by decide +kernel
theorem dX8_finish_22 : decode cX8_finish 22 = .ok (.iaload, 1) := by decide +kernel
theorem dX8_finish_23 : decode cX8_finish 23 = .ok (.ifCond .ne 39, 3) := by decide +kernel
theorem dX8_finish_26 : decode cX8_finish 26 = .ok (.aload_n 0, 1) := by decide +kernel
theorem dX8_finish_27 : decode cX8_finish 27 = .ok (.getfield 81, 3) := by decide +kernel
theorem dX8_finish_30 : decode cX8_finish 30 = .ok (.iload_n 2, 1) := by decide +kernel
theorem dX8_finish_31 : decode cX8_finish 31 = .ok (.aload_n 0, 1) := by decide +kernel
theorem dX8_finish_32 : decode cX8_finish 32 = .ok (.getfield 60, 3) := by decide +kernel
theorem dX8_finish_35 : decode cX8_finish 35 = .ok (.iload_n 1, 1) := by decide +kernel
theorem dX8_finish_36 : decode cX8_finish 36 = .ok (.iaload, 1) := by decide +kernel
theorem dX8_finish_37 : decode cX8_finish 37 = .ok (.iastore, 1) := by decide +kernel
theorem dX8_finish_38 : decode cX8_finish 38 = .ok (.aload_n 0, 1) := by decide +kernel
theorem dX8_finish_39 : decode cX8_finish 39 = .ok (.getfield 84, 3) := by decide +kernel
theorem dX8_finish_42 : decode cX8_finish 42 = .ok (.iload_n 2, 1) := by decide +kernel
theorem dX8_finish_43 : decode cX8_finish 43 = .ok (.aload_n 0, 1) := by decide +kernel
theorem dX8_finish_44 : decode cX8_finish 44 = .ok (.getfield 63, 3) := by decide +kernel
theorem dX8_finish_47 : decode cX8_finish 47 = .ok (.iload_n 1, 1) := by decide +kernel
theorem dX8_finish_48 : decode cX8_finish 48 = .ok (.iaload, 1) := by decide +kernel
theorem dX8_finish_49 : decode cX8_finish 49 = .ok (.iastore, 1) := by decide +kernel
theorem dX8_finish_50 : decode cX8_finish 50 = .ok (.aload_n 0, 1) := by decide +kernel
theorem dX8_finish_51 : decode cX8_finish 51 = .ok (.getfield 90, 3) := by decide +kernel
theorem dX8_finish_54 : decode cX8_finish 54 = .ok (.iload_n 2, 1) := by decide +kernel
theorem dX8_finish_55 : decode cX8_finish 55 = .ok (.aload_n 0, 1) := by decide +kernel
theorem dX8_finish_56 : decode cX8_finish 56 = .ok (.getfield 66, 3) := by decide +kernel
theorem dX8_finish_59 : decode cX8_finish 59 = .ok (.iload_n 1, 1) := by decide +kernel
theorem dX8_finish_60 : decode cX8_finish 60 = .ok (.laload, 1) := by decide +kernel
theorem dX8_finish_61 : decode cX8_finish 61 = .ok (.lastore, 1) := by decide +kernel
theorem dX8_finish_62 : decode cX8_finish 62 = .ok (.aload_n 0, 1) := by decide +kernel
theorem dX8_finish_63 : decode cX8_finish 63 = .ok (.iload_n 1, 1) := by decide +kernel
theorem dX8_finish_64 : decode cX8_finish 64 = .ok (.invokevirtual 178, 3) := by decide +kernel
theorem dX8_finish_67 : decode cX8_finish 67 = .ok (.return_, 1) := by decide +kernel
theorem dX8_end_0 : decode cX8_end 0 = .ok (.aload_n 0, 1) := by decide +kernel
theorem dX8_end_1 : decode cX8_end 1 = .ok (.getfield 39, 3) := by decide +kernel
theorem dX8_end_4 : decode cX8_end 4 = .ok (.iload_n 1, 1) := by decide +kernel
theorem dX8_end_5 : decode cX8_end 5 = .ok (.iconst (-1), 1) := by decide +kernel
theorem dX8_end_6 : decode cX8_end 6 = .ok (.iastore, 1) := by decide +kernel
theorem dX8_end_7 : decode cX8_end 7 = .ok (.aload_n 0, 1) := by decide +kernel
theorem dX8_end_8 : decode cX8_end 8 = .ok (.getfield 42, 3) := by decide +kernel
theorem dX8_end_11 : decode cX8_end 11 = .ok (.iload_n 1, 1) := by decide +kernel
theorem dX8_end_12 : decode cX8_end 12 = .ok (.iconst 0, 1) := by decide +kernel
theorem dX8_end_13 : decode cX8_end 13 = .ok (.iastore, 1) := by decide +kernel
theorem dX8_end_14 : decode cX8_end 14 = .ok (.aload_n 0, 1) := by decide +kernel
theorem dX8_end_15 : decode cX8_end 15 = .ok (.getfield 57, 3) := by decide +kernel
theorem dX8_end_18 : decode cX8_end 18 = .ok (.iload_n 1, 1) := by decide +kernel
theorem dX8_end_19 : decode cX8_end 19 = .ok (.iconst 0, 1) := by decide +kernel
theorem dX8_end_20 : decode cX8_end 20 = .ok (.iastore, 1) := by decide +kernel
theorem dX8_end_21 : decode cX8_end 21 = .ok (.return_, 1) := by decide +kernel
theorem dX8_goOn_0 : decode cX8_goOn 0 = .ok (.aload_n 0, 1) := by decide +kernel
theorem dX8_goOn_1 : decode cX8_goOn 1 = .ok (.getfield 39, 3) := by decide +kernel
theorem dX8_goOn_4 : decode cX8_goOn 4 = .ok (.iload_n 1, 1) := by decide +kernel
theorem dX8_goOn_5 : decode cX8_goOn 5 = .ok (.iaload, 1) := by decide +kernel
theorem dX8_goOn_6 : decode cX8_goOn 6 = .ok (.istore_n 2, 1) := by decide +kernel
theorem dX8_goOn_7 : decode cX8_goOn 7 = .ok (.aload_n 0, 1) := by decide +kernel
theorem dX8_goOn_8 : decode cX8_goOn 8 = .ok (.getfield 42, 3) := by decide +kernel
theorem dX8_goOn_11 : decode cX8_goOn 11 = .ok (.iload_n 1, 1) := by decide +kernel
theorem dX8_goOn_12 : decode cX8_goOn 12 = .ok (.iaload, 1) := by decide +kernel
theorem dX8_goOn_13 : decode cX8_goOn 13 = .ok (.tableswitch 125 1 4 #[31, 125, 71, 104], 31) := by decide +kernel
theorem dX8_goOn_44 : decode cX8_goOn 44 = .ok (.aload_n 0, 1) := by decide +kernel
theorem dX8_goOn_45 : decode cX8_goOn 45 = .ok (.getfield 69, 3) := by decide +kernel
theorem dX8_goOn_48 : decode cX8_goOn 48 = .ok (.iload_n 2, 1) := by decide +kernel
theorem dX8_goOn_49 : decode cX8_goOn 49 = .ok (.iaload, 1) := by decide +kernel
theorem dX8_goOn_50 : decode cX8_goOn 50 = .ok (.iconst 1, 1) := by decide +kernel
theorem dX8_goOn_51 : decode cX8_goOn 51 = .ok (.if_icmp .ne 24, 3) := by decide +kernel
theorem dX8_goOn_54 : decode cX8_goOn 54 = .ok (.aload_n 0, 1) := by decide +kernel
theorem dX8_goOn_55 : decode cX8_goOn 55 = .ok (.getfield 81, 3) := by decide +kernel
theorem dX8_goOn_58 : decode cX8_goOn 58 = .ok (.iload_n 2, 1) := by decide +kernel
theorem dX8_goOn_59 : decode cX8_goOn 59 = .ok (.aload_n 0, 1) := by decide +kernel
theorem dX8_goOn_60 : decode cX8_goOn 60 = .ok (.getfield 60, 3) := by decide +kernel
theorem dX8_goOn_63 : decode cX8_goOn 63 = .ok (.iload_n 1, 1) := by decide +kernel
theorem dX8_goOn_64 : decode cX8_goOn 64 = .ok (.iaload, 1) := by decide +kernel
theorem dX8_goOn_65 : decode cX8_goOn 65 = .ok (.iconst 1, 1) := by decide +kernel
theorem dX8_goOn_66 : decode cX8_goOn 66 = .ok (.iadd, 1) := by decide +kernel
theorem dX8_goOn_67 : decode cX8_goOn 67 = .ok (.iastore, 1) := by decide +kernel
theorem dX8_goOn_68 : decode cX8_goOn 68 = .ok (.aload_n 0, 1) := by decide +kernel
theorem dX8_goOn_69 : decode cX8_goOn 69 = .ok (.getfield 84, 3) := by decide +kernel
theorem dX8_goOn_72 : decode cX8_goOn 72 = .ok (.iload_n 2, 1) := by decide +kernel
theorem dX8_goOn_73 : decode cX8_goOn 73 = .ok (.iload_n 2, 1) := by decide +kernel
theorem dX8_goOn_74 : decode cX8_goOn 74 = .ok (.iastore, 1) := by decide +kernel
theorem dX8_goOn_75 : decode cX8_goOn 75 = .ok (.aload_n 0, 1) := by decide +kernel
theorem dX8_goOn_76 : decode cX8_goOn 76 = .ok (.iload_n 1, 1) := by decide +kernel
theorem dX8_goOn_77 : decode cX8_goOn 77 = .ok (.iconst 2, 1) := by decide +kernel
theorem dX8_goOn_78 : decode cX8_goOn 78 = .ok (.invokevirtual 160, 3) := by decide +kernel
theorem dX8_goOn_81 : decode cX8_goOn 81 = .ok (.goto 62, 3) := by decide +kernel
theorem dX8_goOn_84 : decode cX8_goOn 84 = .ok (.aload_n 0, 1) := by decide +kernel
theorem dX8_goOn_85 : decode cX8_goOn 85 = .ok (.getfield 81, 3) := by decide +kernel
theorem dX8_goOn_88 : decode cX8_goOn 88 = .ok (.iload_n 2, 1) := by decide +kernel
theorem dX8_goOn_89 : decode cX8_goOn 89 = .ok (.aload_n 0, 1) := by decide +kernel
theorem dX8_goOn_90 : decode cX8_goOn 90 = .ok (.getfield 60, 3) := by decide +kernel
theorem dX8_goOn_93 : decode cX8_goOn 93 = .ok (.iload_n 1, 1) := by decide +kernel
theorem dX8_goOn_94 : decode cX8_goOn 94 = .ok (.iaload, 1) := by decide +kernel
theorem dX8_goOn_95 : decode cX8_goOn 95 = .ok (.iastore, 1) := by decide +kernel
theorem dX8_goOn_96 : decode cX8_goOn 96 = .ok (.aload_n 0, 1) := by decide +kernel
theorem dX8_goOn_97 : decode cX8_goOn 97 = .ok (.getfield 84, 3) := by decide +kernel
theorem dX8_goOn_100 : decode cX8_goOn 100 = .ok (.iload_n 2, 1) := by decide +kernel
theorem dX8_goOn_101 : decode cX8_goOn 101 = .ok (.aload_n 0, 1) := by decide +kernel
theorem dX8_goOn_102 : decode cX8_goOn 102 = .ok (.getfield 63, 3) := by decide +kernel
theorem dX8_goOn_105 : decode cX8_goOn 105 = .ok (.iload_n 1, 1) := by decide +kernel
theorem dX8_goOn_106 : decode cX8_goOn 106 = .ok (.iaload, 1) := by decide +kernel
theorem dX8_goOn_107 : decode cX8_goOn 107 = .ok (.iastore, 1) := by decide +kernel
theorem dX8_goOn_108 : decode cX8_goOn 108 = .ok (.aload_n 0, 1) := by decide +kernel
theorem dX8_goOn_109 : decode cX8_goOn 109 = .ok (.iload_n 1, 1) := by decide +kernel
theorem dX8_goOn_110 : decode cX8_goOn 110 = .ok (.iconst 4, 1) := by decide +kernel
theorem dX8_goOn_111 : decode cX8_goOn 111 = .ok (.invokevirtual 160, 3) := by decide +kernel
theorem dX8_goOn_114 : decode cX8_goOn 114 = .ok (.goto 29, 3) := by decide +kernel
theorem dX8_goOn_117 : decode cX8_goOn 117 = .ok (.aload_n 0, 1) := by decide +kernel
theorem dX8_goOn_118 : decode cX8_goOn 118 = .ok (.getfield 48, 3) := by decide +kernel
theorem dX8_goOn_121 : decode cX8_goOn 121 = .ok (.iload_n 1, 1) := by decide +kernel
theorem dX8_goOn_122 : decode cX8_goOn 122 = .ok (.aload_n 0, 1) := by decide +kernel
theorem dX8_goOn_123 : decode cX8_goOn 123 = .ok (.getfield 87, 3) := by decide +kernel
theorem dX8_goOn_126 : decode cX8_goOn 126 = .ok (.iload_n 2, 1) := by decide +kernel
theorem dX8_goOn_127 : decode cX8_goOn 127 = .ok (.iaload, 1) := by decide +kernel
theorem dX8_goOn_128 : decode cX8_goOn 128 = .ok (.iastore, 1) := by decide +kernel
theorem dX8_goOn_129 : decode cX8_goOn 129 = .ok (.aload_n 0, 1) := by decide +kernel
theorem dX8_goOn_130 : decode cX8_goOn 130 = .ok (.iload_n 1, 1) := by decide +kernel
theorem dX8_goOn_131 : decode cX8_goOn 131 = .ok (.iconst 5, 1) := by decide +kernel
theorem dX8_goOn_132 : decode cX8_goOn 132 = .ok (.invokevirtual 160, 3) := by decide +kernel
theorem dX8_goOn_135 : decode cX8_goOn 135 = .ok (.goto 8, 3) := by decide +kernel
theorem dX8_goOn_138 : decode cX8_goOn 138 = .ok (.aload_n 0, 1) := by decide +kernel
theorem dX8_goOn_139 : decode cX8_goOn 139 = .ok (.iload_n 1, 1) := by decide +kernel
theorem dX8_goOn_140 : decode cX8_goOn 140 = .ok (.invokevirtual 182, 3) := by decide +kernel
theorem dX8_goOn_143 : decode cX8_goOn 143 = .ok (.return_, 1) := by decide +kernel
end
section
theorem dX8_answer_0 : decode cX8_answer 0 = .ok (.aload_n 0, 1) := by decide +kernel
theorem dX8_answer_1 : decode cX8_answer 1 = .ok (.getfield 99, 3) := by decide +kernel
theorem dX8_answer_4 : decode cX8_answer 4 = .ok (.iload_n 1, 1) := by decide +kernel
theorem dX8_answer_5 : decode cX8_answer 5 = .ok (.iaload, 1) := by decide +kernel
theorem dX8_answer_6 : decode cX8_answer 6 = .ok (.istore_n 2, 1) := by decide +kernel
theorem dX8_answer_7 : decode cX8_answer 7 = .ok (.iconst 1, 1) := by decide +kernel
theorem dX8_answer_8 : decode cX8_answer 8 = .ok (.aload_n 0, 1) := by decide +kernel
theorem dX8_answer_9 : decode cX8_answer 9 = .ok (.getfield 96, 3) := by decide +kernel
theorem dX8_answer_12 : decode cX8_answer 12 = .ok (.iload_n 1, 1) := by decide +kernel
theorem dX8_answer_13 : decode cX8_answer 13 = .ok (.iaload, 1) := by decide +kernel
theorem dX8_answer_14 : decode cX8_answer 14 = .ok (.ishl, 1) := by decide +kernel
theorem dX8_answer_15 : decode cX8_answer 15 = .ok (.istore_n 3, 1) := by decide +kernel
theorem dX8_answer_16 : decode cX8_answer 16 = .ok (.aload_n 0, 1) := by decide +kernel
theorem dX8_answer_17 : decode cX8_answer 17 = .ok (.getfield 39, 3) := by decide +kernel
theorem dX8_answer_20 : decode cX8_answer 20 = .ok (.iload_n 2, 1) := by decide +kernel
theorem dX8_answer_21 : decode cX8_answer 21 = .ok (.iaload, 1) := by decide +kernel
theorem dX8_answer_22 : decode cX8_answer 22 = .ok (.ifCond .lt 63, 3) := by decide +kernel
theorem dX8_answer_25 : decode cX8_answer 25 = .ok (.aload_n 0, 1) := by decide +kernel
theorem dX8_answer_26 : decode cX8_answer 26 = .ok (.getfield 102, 3) := by decide +kernel
theorem dX8_answer_29 : decode cX8_answer 29 = .ok (.iload_n 1, 1) := by decide +kernel
theorem dX8_answer_30 : decode cX8_answer 30 = .ok (.iaload, 1) := by decide +kernel
theorem dX8_answer_31 : decode cX8_answer 31 = .ok (.aload_n 0, 1) := by decide +kernel
theorem dX8_answer_32 : decode cX8_answer 32 = .ok (.getfield 39, 3) := by decide +kernel
theorem dX8_answer_35 : decode cX8_answer 35 = .ok (.iload_n 2, 1) := by decide +kernel
theorem dX8_answer_36 : decode cX8_answer 36 = .ok (.iaload, 1) := by decide +kernel
theorem dX8_answer_37 : decode cX8_answer 37 = .ok (.if_icmp .ne 48, 3) := by decide +kernel
theorem dX8_answer_40 : decode cX8_answer 40 = .ok (.aload_n 0, 1) := by decide +kernel
theorem dX8_answer_41 : decode cX8_answer 41 = .ok (.getfield 105, 3) := by decide +kernel
theorem dX8_answer_44 : decode cX8_answer 44 = .ok (.iload_n 1, 1) := by decide +kernel
theorem dX8_answer_45 : decode cX8_answer 45 = .ok (.iaload, 1) := by decide +kernel
theorem dX8_answer_46 : decode cX8_answer 46 = .ok (.aload_n 0, 1) := by decide +kernel
theorem dX8_answer_47 : decode cX8_answer 47 = .ok (.getfield 42, 3) := by decide +kernel
theorem dX8_answer_50 : decode cX8_answer 50 = .ok (.iload_n 2, 1) := by decide +kernel
theorem dX8_answer_51 : decode cX8_answer 51 = .ok (.iaload, 1) := by decide +kernel
theorem dX8_answer_52 : decode cX8_answer 52 = .ok (.if_icmp .ne 33, 3) := by decide +kernel
theorem dX8_answer_55 : decode cX8_answer 55 = .ok (.aload_n 0, 1) := by decide +kernel
theorem dX8_answer_56 : decode cX8_answer 56 = .ok (.getfield 108, 3) := by decide +kernel
theorem dX8_answer_59 : decode cX8_answer 59 = .ok (.iload_n 1, 1) := by decide +kernel
theorem dX8_answer_60 : decode cX8_answer 60 = .ok (.iaload, 1) := by decide +kernel
theorem dX8_answer_61 : decode cX8_answer 61 = .ok (.aload_n 0, 1) := by decide +kernel
theorem dX8_answer_62 : decode cX8_answer 62 = .ok (.getfield 45, 3) := by decide +kernel
theorem dX8_answer_65 : decode cX8_answer 65 = .ok (.iload_n 2, 1) := by decide +kernel
theorem dX8_answer_66 : decode cX8_answer 66 = .ok (.iaload, 1) := by decide +kernel
theorem dX8_answer_67 : decode cX8_answer 67 = .ok (.if_icmp .ne 18, 3) := by decide +kernel
theorem dX8_answer_70 : decode cX8_answer 70 = .ok (.aload_n 0, 1) := by decide +kernel
theorem dX8_answer_71 : decode cX8_answer 71 = .ok (.getfield 57, 3) := by decide +kernel
theorem dX8_answer_74 : decode cX8_answer 74 = .ok (.iload_n 2, 1) := by decide +kernel
theorem dX8_answer_75 : decode cX8_answer 75 = .ok (.iaload, 1) := by decide +kernel
theorem dX8_answer_76 : decode cX8_answer 76 = .ok (.iload_n 3, 1) := by decide +kernel
theorem dX8_answer_77 : decode cX8_answer 77 = .ok (.iand, 1) := by decide +kernel
theorem dX8_answer_78 : decode cX8_answer 78 = .ok (.ifCond .ne 7, 3) := by decide +kernel
theorem dX8_answer_81 : decode cX8_answer 81 = .ok (.iconst 1, 1) := by decide +kernel
theorem dX8_answer_82 : decode cX8_answer 82 = .ok (.goto 4, 3) := by decide +kernel
theorem dX8_answer_85 : decode cX8_answer 85 = .ok (.iconst 0, 1) := by decide +kernel
theorem dX8_answer_86 : decode cX8_answer 86 = .ok (.istore 4, 2) := by decide +kernel
theorem dX8_answer_88 : decode cX8_answer 88 = .ok (.aload_n 0, 1) := by decide +kernel
theorem dX8_answer_89 : decode cX8_answer 89 = .ok (.getfield 111, 3) := by decide +kernel
theorem dX8_answer_92 : decode cX8_answer 92 = .ok (.iload_n 1, 1) := by decide +kernel
theorem dX8_answer_93 : decode cX8_answer 93 = .ok (.iaload, 1) := by decide +kernel
theorem dX8_answer_94 : decode cX8_answer 94 = .ok (.istore 5, 2) := by decide +kernel
theorem dX8_answer_96 : decode cX8_answer 96 = .ok (.aload_n 0, 1) := by decide +kernel
theorem dX8_answer_97 : decode cX8_answer 97 = .ok (.getfield 114, 3) := by decide +kernel
theorem dX8_answer_100 : decode cX8_answer 100 = .ok (.iload_n 1, 1) := by decide +kernel
theorem dX8_answer_101 : decode cX8_answer 101 = .ok (.iaload, 1) := by decide +kernel
theorem dX8_answer_102 : decode cX8_answer 102 = .ok (.istore 6, 2) := by decide +kernel
theorem dX8_answer_104 : decode cX8_answer 104 = .ok (.aload_n 0, 1) := by decide +kernel
theorem dX8_answer_105 : decode cX8_answer 105 = .ok (.getfield 126, 3) := by decide +kernel
theorem dX8_answer_108 : decode cX8_answer 108 = .ok (.iload_n 1, 1) := by decide +kernel
theorem dX8_answer_109 : decode cX8_answer 109 = .ok (.laload, 1) := by decide +kernel
theorem dX8_answer_110 : decode cX8_answer 110 = .ok (.lstore 7, 2) := by decide +kernel
theorem dX8_answer_112 : decode cX8_answer 112 = .ok (.aload_n 0, 1) := by decide +kernel
theorem dX8_answer_113 : decode cX8_answer 113 = .ok (.getfield 120, 3) := by decide +kernel
theorem dX8_answer_116 : decode cX8_answer 116 = .ok (.iload_n 1, 1) := by decide +kernel
theorem dX8_answer_117 : decode cX8_answer 117 = .ok (.iaload, 1) := by decide +kernel
theorem dX8_answer_118 : decode cX8_answer 118 = .ok (.istore 9, 2) := by decide +kernel
theorem dX8_answer_120 : decode cX8_answer 120 = .ok (.aload_n 0, 1) := by decide +kernel
theorem dX8_answer_121 : decode cX8_answer 121 = .ok (.getfield 123, 3) := by decide +kernel
theorem dX8_answer_124 : decode cX8_answer 124 = .ok (.iload_n 1, 1) := by decide +kernel
theorem dX8_answer_125 : decode cX8_answer 125 = .ok (.iaload, 1) := by decide +kernel
theorem dX8_answer_126 : decode cX8_answer 126 = .ok (.istore 10, 2) := by decide +kernel
theorem dX8_answer_128 : decode cX8_answer 128 = .ok (.aload_n 0, 1) := by decide +kernel
theorem dX8_answer_129 : decode cX8_answer 129 = .ok (.iload_n 1, 1) := by decide +kernel
theorem dX8_answer_130 : decode cX8_answer 130 = .ok (.invokevirtual 185, 3) := by decide +kernel
theorem dX8_answer_133 : decode cX8_answer 133 = .ok (.iload 4, 2) := by decide +kernel
theorem dX8_answer_135 : decode cX8_answer 135 = .ok (.ifCond .ne 4, 3) := by decide +kernel
theorem dX8_answer_138 : decode cX8_answer 138 = .ok (.return_, 1) := by decide +kernel
theorem dX8_answer_139 : decode cX8_answer 139 = .ok (.aload_n 0, 1) := by decide +kernel
theorem dX8_answer_140 : decode cX8_answer 140 = .ok (.getfield 57, 3) := by decide +kernel
theorem dX8_answer_143 : decode cX8_answer 143 = .ok (.iload_n 2, 1) := by decide +kernel
theorem dX8_answer_144 : decode cX8_answer 144 = .ok (.dup2, 1) := by decide +kernel
theorem dX8_answer_145 : decode cX8_answer 145 = .ok (.iaload, 1) := by decide +kernel
theorem dX8_answer_146 : decode cX8_answer 146 = .ok (.iload_n 3, 1) := by decide +kernel
theorem dX8_answer_147 : decode cX8_answer 147 = .ok (.ior, 1) := by decide +kernel
theorem dX8_answer_148 : decode cX8_answer 148 = .ok (.iastore, 1) := by decide +kernel
theorem dX8_answer_149 : decode cX8_answer 149 = .ok (.aload_n 0, 1) := by decide +kernel
theorem dX8_answer_150 : decode cX8_answer 150 = .ok (.getfield 42, 3) := by decide +kernel
theorem dX8_answer_153 : decode cX8_answer 153 = .ok (.iload_n 2, 1) := by decide +kernel
theorem dX8_answer_154 : decode cX8_answer 154 = .ok (.iaload, 1) := by decide +kernel
theorem dX8_answer_155 : decode cX8_answer 155 = .ok (.iconst 1, 1) := by decide +kernel
theorem dX8_answer_156 : decode cX8_answer 156 = .ok (.if_icmp .eq 13, 3) := by decide +kernel
theorem dX8_answer_159 : decode cX8_answer 159 = .ok (.aload_n 0, 1) := by decide +kernel
theorem dX8_answer_160 : decode cX8_answer 160 = .ok (.getfield 42, 3) := by decide +kernel
theorem dX8_answer_163 : decode cX8_answer 163 = .ok (.iload_n 2, 1) := by decide +kernel
theorem dX8_answer_164 : decode cX8_answer 164 = .ok (.iaload, 1) := by decide +kernel
theorem dX8_answer_165 : decode cX8_answer 165 = .ok (.iconst 3, 1) := by decide +kernel
theorem dX8_answer_166 : decode cX8_answer 166 = .ok (.if_icmp .ne 49, 3) := by decide +kernel
theorem dX8_answer_169 : decode cX8_answer 169 = .ok (.iload 5, 2) := by decide +kernel
theorem dX8_answer_171 : decode cX8_answer 171 = .ok (.iload 6, 2) := by decide +kernel
theorem dX8_answer_173 : decode cX8_answer 173 = .ok (.aload_n 0, 1) := by decide +kernel
theorem dX8_answer_174 : decode cX8_answer 174 = .ok (.getfield 60, 3) := by decide +kernel
theorem dX8_answer_177 : decode cX8_answer 177 = .ok (.iload_n 2, 1) := by decide +kernel
theorem dX8_answer_178 : decode cX8_answer 178 = .ok (.iaload, 1) := by decide +kernel
theorem dX8_answer_179 : decode cX8_answer 179 = .ok (.aload_n 0, 1) := by decide +kernel
theorem dX8_answer_180 : decode cX8_answer 180 = .ok (.getfield 63, 3) := by decide +kernel
theorem dX8_answer_183 : decode cX8_answer 183 = .ok (.iload_n 2, 1) := by decide +kernel
theorem dX8_answer_184 : decode cX8_answer 184 = .ok (.iaload, 1) := by decide +kernel
theorem dX8_answer_185 : decode cX8_answer 185 = .ok (.invokestatic 188, 3) := by decide +kernel
theorem dX8_answer_188 : decode cX8_answer 188 = .ok (.ifCond .eq 27, 3) := by decide +kernel
theorem dX8_answer_191 : decode cX8_answer 191 = .ok (.aload_n 0, 1) := by decide +kernel
theorem dX8_answer_192 : decode cX8_answer 192 = .ok (.getfield 60, 3) := by decide +kernel
theorem dX8_answer_195 : decode cX8_answer 195 = .ok (.iload_n 2, 1) := by decide +kernel
theorem dX8_answer_196 : decode cX8_answer 196 = .ok (.iload 5, 2) := by decide +kernel
theorem dX8_answer_198 : decode cX8_answer 198 = .ok (.iastore, 1) := by decide +kernel
theorem dX8_answer_199 : decode cX8_answer 199 = .ok (.aload_n 0, 1) := by decide +kernel
theorem dX8_answer_200 : decode cX8_answer 200 = .ok (.getfield 63, 3) := by decide +kernel
theorem dX8_answer_203 : decode cX8_answer 203 = .ok (.iload_n 2, 1) := by decide +kernel
theorem dX8_answer_204 : decode cX8_answer 204 = .ok (.iload 6, 2) := by decide +kernel
theorem dX8_answer_206 : decode cX8_answer 206 = .ok (.iastore, 1) := by decide +kernel
theorem dX8_answer_207 : decode cX8_answer 207 = .ok (.aload_n 0, 1) := by decide +kernel
theorem dX8_answer_208 : decode cX8_answer 208 = .ok (.getfield 66, 3) := by decide +kernel
theorem dX8_answer_211 : decode cX8_answer 211 = .ok (.iload_n 2, 1) := by decide +kernel
theorem dX8_answer_212 : decode cX8_answer 212 = .ok (.lload 7, 2) := by decide +kernel
theorem dX8_answer_214 : decode cX8_answer 214 = .ok (.lastore, 1) := by decide +kernel
theorem dX8_answer_215 : decode cX8_answer 215 = .ok (.iload 9, 2) := by decide +kernel
theorem dX8_answer_217 : decode cX8_answer 217 = .ok (.aload_n 0, 1) := by decide +kernel
theorem dX8_answer_218 : decode cX8_answer 218 = .ok (.getfield 48, 3) := by decide +kernel
theorem dX8_answer_221 : decode cX8_answer 221 = .ok (.iload_n 2, 1) := by decide +kernel
theorem dX8_answer_222 : decode cX8_answer 222 = .ok (.iaload, 1) := by decide +kernel
theorem dX8_answer_223 : decode cX8_answer 223 = .ok (.if_icmp .le 7, 3) := by decide +kernel
theorem dX8_answer_226 : decode cX8_answer 226 = .ok (.iconst 1, 1) := by decide +kernel
theorem dX8_answer_227 : decode cX8_answer 227 = .ok (.goto 4, 3) := by decide +kernel
theorem dX8_answer_230 : decode cX8_answer 230 = .ok (.iconst 0, 1) := by decide +kernel
theorem dX8_answer_231 : decode cX8_answer 231 = .ok (.istore 11, 2) := by decide +kernel
theorem dX8_answer_233 : decode cX8_answer 233 = .ok (.iload 11, 2) := by decide +kernel
theorem dX8_answer_235 : decode cX8_answer 235 = .ok (.ifCond .eq 11, 3) := by decide +kernel
theorem dX8_answer_238 : decode cX8_answer 238 = .ok (.aload_n 0, 1) := by decide +kernel
theorem dX8_answer_239 : decode cX8_answer 239 = .ok (.getfield 48, 3) := by decide +kernel
theorem dX8_answer_242 : decode cX8_answer 242 = .ok (.iload_n 2, 1) := by decide +kernel
theorem dX8_answer_243 : decode cX8_answer 243 = .ok (.iload 9, 2) := by decide +kernel
theorem dX8_answer_245 : decode cX8_answer 245 = .ok (.iastore, 1) := by decide +kernel
theorem dX8_answer_246 : decode cX8_answer 246 = .ok (.iload 10, 2) := by decide +kernel
theorem dX8_answer_248 : decode cX8_answer 248 = .ok (.aload_n 0, 1) := by decide +kernel
theorem dX8_answer_249 : decode cX8_answer 249 = .ok (.getfield 51, 3) := by decide +kernel
theorem dX8_answer_252 : decode cX8_answer 252 = .ok (.iload_n 2, 1) := by decide +kernel
theorem dX8_answer_253 : decode cX8_answer 253 = .ok (.iaload, 1) := by decide +kernel
theorem dX8_answer_254 : decode cX8_answer 254 = .ok (.if_icmp .le 11, 3) := by decide +kernel
theorem dX8_answer_257 : decode cX8_answer 257 = .ok (.aload_n 0, 1) := by decide +kernel
theorem dX8_answer_258 : decode cX8_answer 258 = .ok (.getfield 51, 3) := by decide +kernel
theorem dX8_answer_261 : decode cX8_answer 261 = .ok (.iload_n 2, 1) := by decide +kernel
theorem dX8_answer_262 : decode cX8_answer 262 = .ok (.iload 10, 2) := by decide +kernel
theorem dX8_answer_264 : decode cX8_answer 264 = .ok (.iastore, 1) := by decide +kernel
theorem dX8_answer_265 : decode cX8_answer 265 = .ok (.iload 11, 2) := by decide +kernel
theorem dX8_answer_267 : decode cX8_answer 267 = .ok (.ifCond .eq 22, 3) := by decide +kernel
theorem dX8_answer_270 : decode cX8_answer 270 = .ok (.aload_n 0, 1) := by decide +kernel
theorem dX8_answer_271 : decode cX8_answer 271 = .ok (.getfield 42, 3) := by decide +kernel
theorem dX8_answer_274 : decode cX8_answer 274 = .ok (.iload_n 2, 1) := by decide +kernel
theorem dX8_answer_275 : decode cX8_answer 275 = .ok (.iaload, 1) := by decide +kernel
theorem dX8_answer_276 : decode cX8_answer 276 = .ok (.iconst 1, 1) := by decide +kernel
theorem dX8_answer_277 : decode cX8_answer 277 = .ok (.if_icmp .ne 12, 3) := by decide +kernel
theorem dX8_answer_280 : decode cX8_answer 280 = .ok (.aload_n 0, 1) := by decide +kernel
theorem dX8_answer_281 : decode cX8_answer 281 = .ok (.iload_n 2, 1) := by decide +kernel
theorem dX8_answer_282 : decode cX8_answer 282 = .ok (.iconst 1, 1) := by decide +kernel
theorem dX8_answer_283 : decode cX8_answer 283 = .ok (.invokevirtual 160, 3) := by decide +kernel
theorem dX8_answer_286 : decode cX8_answer 286 = .ok (.goto 16, 3) := by decide +kernel
theorem dX8_answer_289 : decode cX8_answer 289 = .ok (.aload_n 0, 1) := by decide +kernel
theorem dX8_answer_290 : decode cX8_answer 290 = .ok (.iload_n 2, 1) := by decide +kernel
theorem dX8_answer_291 : decode cX8_answer 291 = .ok (.invokevirtual 191, 3) := by decide +kernel
theorem dX8_answer_294 : decode cX8_answer 294 = .ok (.ifCond .eq 8, 3) := by decide +kernel
theorem dX8_answer_297 : decode cX8_answer 297 = .ok (.aload_n 0, 1) := by decide +kernel
theorem dX8_answer_298 : decode cX8_answer 298 = .ok (.iload_n 2, 1) := by decide +kernel
theorem dX8_answer_299 : decode cX8_answer 299 = .ok (.invokevirtual 194, 3) := by decide +kernel
theorem dX8_answer_302 : decode cX8_answer 302 = .ok (.return_, 1) := by decide +kernel
theorem dX8_request_0 : decode cX8_request 0 = .ok (.aload_n 0, 1) := by decide +kernel
theorem dX8_request_1 : decode cX8_request 1 = .ok (.getfield 96, 3) := by decide +kernel
theorem dX8_request_4 : decode cX8_request 4 = .ok (.iload_n 1, 1) := by decide +kernel
theorem dX8_request_5 : decode cX8_request 5 = .ok (.iaload, 1) := by decide +kernel
theorem dX8_request_6 : decode cX8_request 6 = .ok (.istore_n 2, 1) := by decide +kernel
theorem dX8_request_7 : decode cX8_request 7 = .ok (.aload_n 0, 1) := by decide +kernel
theorem dX8_request_8 : decode cX8_request 8 = .ok (.getfield 99, 3) := by decide +kernel
theorem dX8_request_11 : decode cX8_request 11 = .ok (.iload_n 1, 1) := by decide +kernel
theorem dX8_request_12 : decode cX8_request 12 = .ok (.iaload, 1) := by decide +kernel
theorem dX8_request_13 : decode cX8_request 13 = .ok (.istore_n 3, 1) := by decide +kernel
theorem dX8_request_14 : decode cX8_request 14 = .ok (.aload_n 0, 1) := by decide +kernel
theorem dX8_request_15 : decode cX8_request 15 = .ok (.getfield 102, 3) := by decide +kernel
theorem dX8_request_18 : decode cX8_request 18 = .ok (.iload_n 1, 1) := by decide +kernel
theorem dX8_request_19 : decode cX8_request 19 = .ok (.iaload, 1) := by decide +kernel
theorem dX8_request_20 : decode cX8_request 20 = .ok (.istore 4, 2) := by decide +kernel
theorem dX8_request_22 : decode cX8_request 22 = .ok (.aload_n 0, 1) := by decide +kernel
theorem dX8_request_23 : decode cX8_request 23 = .ok (.getfield 105, 3) := by decide +kernel
theorem dX8_request_26 : decode cX8_request 26 = .ok (.iload_n 1, 1) := by decide +kernel
theorem dX8_request_27 : decode cX8_request 27 = .ok (.iaload, 1) := by decide +kernel
theorem dX8_request_28 : decode cX8_request 28 = .ok (.istore 5, 2) := by decide +kernel
theorem dX8_request_30 : decode cX8_request 30 = .ok (.aload_n 0, 1) := by decide +kernel
theorem dX8_request_31 : decode cX8_request 31 = .ok (.getfield 108, 3) := by decide +kernel
theorem dX8_request_34 : decode cX8_request 34 = .ok (.iload_n 1, 1) := by decide +kernel
theorem dX8_request_35 : decode cX8_request 35 = .ok (.iaload, 1) := by decide +kernel
theorem dX8_request_36 : decode cX8_request 36 = .ok (.istore 6, 2) := by decide +kernel
theorem dX8_request_38 : decode cX8_request 38 = .ok (.aload_n 0, 1) := by decide +kernel
theorem dX8_request_39 : decode cX8_request 39 = .ok (.getfield 117, 3) := by decide +kernel
theorem dX8_request_42 : decode cX8_request 42 = .ok (.iload_n 1, 1) := by decide +kernel
theorem dX8_request_43 : decode cX8_request 43 = .ok (.iaload, 1) := by decide +kernel
theorem dX8_request_44 : decode cX8_request 44 = .ok (.istore 7, 2) := by decide +kernel
theorem dX8_request_46 : decode cX8_request 46 = .ok (.iload 5, 2) := by decide +kernel
theorem dX8_request_48 : decode cX8_request 48 = .ok (.iconst 2, 1) := by decide +kernel
theorem dX8_request_49 : decode cX8_request 49 = .ok (.if_icmp .eq 9, 3) := by decide +kernel
theorem dX8_request_52 : decode cX8_request 52 = .ok (.iload 5, 2) := by decide +kernel
theorem dX8_request_54 : decode cX8_request 54 = .ok (.iconst 4, 1) := by decide +kernel
theorem dX8_request_55 : decode cX8_request 55 = .ok (.if_icmp .ne 69, 3) := by decide +kernel
theorem dX8_request_58 : decode cX8_request 58 = .ok (.aload_n 0, 1) := by decide +kernel
theorem dX8_request_59 : decode cX8_request 59 = .ok (.getfield 111, 3) := by decide +kernel
theorem dX8_request_62 : decode cX8_request 62 = .ok (.iload_n 1, 1) := by decide +kernel
theorem dX8_request_63 : decode cX8_request 63 = .ok (.iaload, 1) := by decide +kernel
theorem dX8_request_64 : decode cX8_request 64 = .ok (.aload_n 0, 1) := by decide +kernel
theorem dX8_request_65 : decode cX8_request 65 = .ok (.getfield 114, 3) := by decide +kernel
theorem dX8_request_68 : decode cX8_request 68 = .ok (.iload_n 1, 1) := by decide +kernel
theorem dX8_request_69 : decode cX8_request 69 = .ok (.iaload, 1) := by decide +kernel
theorem dX8_request_70 : decode cX8_request 70 = .ok (.aload_n 0, 1) := by decide +kernel
theorem dX8_request_71 : decode cX8_request 71 = .ok (.getfield 13, 3) := by decide +kernel
theorem dX8_request_74 : decode cX8_request 74 = .ok (.iload_n 2, 1) := by decide +kernel
theorem dX8_request_75 : decode cX8_request 75 = .ok (.iaload, 1) := by decide +kernel
theorem dX8_request_76 : decode cX8_request 76 = .ok (.aload_n 0, 1) := by decide +kernel
theorem dX8_request_77 : decode cX8_request 77 = .ok (.getfield 17, 3) := by decide +kernel
theorem dX8_request_80 : decode cX8_request 80 = .ok (.iload_n 2, 1) := by decide +kernel
theorem dX8_request_81 : decode cX8_request 81 = .ok (.iaload, 1) := by decide +kernel
theorem dX8_request_82 : decode cX8_request 82 = .ok (.invokestatic 188, 3) := by decide +kernel
theorem dX8_request_85 : decode cX8_request 85 = .ok (.ifCond .eq 39, 3) := by decide +kernel
theorem dX8_request_88 : decode cX8_request 88 = .ok (.aload_n 0, 1) := by decide +kernel
theorem dX8_request_89 : decode cX8_request 89 = .ok (.getfield 13, 3) := by decide +kernel
theorem dX8_request_92 : decode cX8_request 92 = .ok (.iload_n 2, 1) := by decide +kernel
theorem dX8_request_93 : decode cX8_request 93 = .ok (.aload_n 0, 1) := by decide +kernel
theorem dX8_request_94 : decode cX8_request 94 = .ok (.getfield 111, 3) := by decide +kernel
theorem dX8_request_97 : decode cX8_request 97 = .ok (.iload_n 1, 1) := by decide +kernel
theorem dX8_request_98 : decode cX8_request 98 = .ok (.iaload, 1) := by decide +kernel
theorem dX8_request_99 : decode cX8_request 99 = .ok (.iastore, 1) := by decide +kernel
theorem dX8_request_100 : decode cX8_request 100 = .ok (.aload_n 0, 1) := by decide +kernel
theorem dX8_request_101 : decode cX8_request 101 = .ok (.getfield 17, 3) := by decide +kernel
theorem dX8_request_104 : decode cX8_request 104 = .ok (.iload_n 2, 1) := by decide +kernel
theorem dX8_request_105 : decode cX8_request 105 = .ok (.aload_n 0, 1) := by decide +kernel
theorem dX8_request_106 : decode cX8_request 106 = .ok (.getfield 114, 3) := by decide +kernel
theorem dX8_request_109 : decode cX8_request 109 = .ok (.iload_n 1, 1) := by decide +kernel
theorem dX8_request_110 : decode cX8_request 110 = .ok (.iaload, 1) := by decide +kernel
theorem dX8_request_111 : decode cX8_request 111 = .ok (.iastore, 1) := by decide +kernel
theorem dX8_request_112 : decode cX8_request 112 = .ok (.aload_n 0, 1) := by decide +kernel
theorem dX8_request_113 : decode cX8_request 113 = .ok (.getfield 7, 3) := by decide +kernel
theorem dX8_request_116 : decode cX8_request 116 = .ok (.iload_n 2, 1) := by decide +kernel
theorem dX8_request_117 : decode cX8_request 117 = .ok (.aload_n 0, 1) := by decide +kernel
theorem dX8_request_118 : decode cX8_request 118 = .ok (.getfield 126, 3) := by decide +kernel
theorem dX8_request_121 : decode cX8_request 121 = .ok (.iload_n 1, 1) := by decide +kernel
theorem dX8_request_122 : decode cX8_request 122 = .ok (.laload, 1) := by decide +kernel
theorem dX8_request_123 : decode cX8_request 123 = .ok (.lastore, 1) := by decide +kernel
theorem dX8_request_124 : decode cX8_request 124 = .ok (.iload 5, 2) := by decide +kernel
theorem dX8_request_126 : decode cX8_request 126 = .ok (.iconst 3, 1) := by decide +kernel
theorem dX8_request_127 : decode cX8_request 127 = .ok (.if_icmp .eq 9, 3) := by decide +kernel
theorem dX8_request_130 : decode cX8_request 130 = .ok (.iload 5, 2) := by decide +kernel
theorem dX8_request_132 : decode cX8_request 132 = .ok (.iconst 5, 1) := by decide +kernel
theorem dX8_request_133 : decode cX8_request 133 = .ok (.if_icmp .ne 22, 3) := by decide +kernel
theorem dX8_request_136 : decode cX8_request 136 = .ok (.aload_n 0, 1) := by decide +kernel
theorem dX8_request_137 : decode cX8_request 137 = .ok (.getfield 23, 3) := by decide +kernel
theorem dX8_request_140 : decode cX8_request 140 = .ok (.iload_n 2, 1) := by decide +kernel
theorem dX8_request_141 : decode cX8_request 141 = .ok (.iaload, 1) := by decide +kernel
theorem dX8_request_142 : decode cX8_request 142 = .ok (.iload 7, 2) := by decide +kernel
theorem dX8_request_144 : decode cX8_request 144 = .ok (.if_icmp .ge 11, 3) := by decide +kernel
theorem dX8_request_147 : decode cX8_request 147 = .ok (.aload_n 0, 1) := by decide +kernel
theorem dX8_request_148 : decode cX8_request 148 = .ok (.getfield 23, 3) := by decide +kernel
theorem dX8_request_151 : decode cX8_request 151 = .ok (.iload_n 2, 1) := by decide +kernel
theorem dX8_request_152 : decode cX8_request 152 = .ok (.iload 7, 2) := by decide +kernel
theorem dX8_request_154 : decode cX8_request 154 = .ok (.iastore, 1) := by decide +kernel
theorem dX8_request_155 : decode cX8_request 155 = .ok (.iload 5, 2) := by decide +kernel
theorem dX8_request_157 : decode cX8_request 157 = .ok (.iconst 5, 1) := by decide +kernel
theorem dX8_request_158 : decode cX8_request 158 = .ok (.if_icmp .ne 22, 3) := by decide +kernel
theorem dX8_request_161 : decode cX8_request 161 = .ok (.aload_n 0, 1) := by decide +kernel
theorem dX8_request_162 : decode cX8_request 162 = .ok (.getfield 20, 3) := by decide +kernel
theorem dX8_request_165 : decode cX8_request 165 = .ok (.iload_n 2, 1) := by decide +kernel
theorem dX8_request_166 : decode cX8_request 166 = .ok (.iaload, 1) := by decide +kernel
theorem dX8_request_167 : decode cX8_request 167 = .ok (.iload 7, 2) := by decide +kernel
theorem dX8_request_169 : decode cX8_request 169 = .ok (.if_icmp .ge 11, 3) := by decide +kernel
theorem dX8_request_172 : decode cX8_request 172 = .ok (.aload_n 0, 1) := by decide +kernel
theorem dX8_request_173 : decode cX8_request 173 = .ok (.getfield 20, 3) := by decide +kernel
theorem dX8_request_176 : decode cX8_request 176 = .ok (.iload_n 2, 1) := by decide +kernel
theorem dX8_request_177 : decode cX8_request 177 = .ok (.iload 7, 2) := by decide +kernel
theorem dX8_request_179 : decode cX8_request 179 = .ok (.iastore, 1) := by decide +kernel
theorem dX8_request_180 : decode cX8_request 180 = .ok (.aload_n 0, 1) := by decide +kernel
theorem dX8_request_181 : decode cX8_request 181 = .ok (.iload_n 1, 1) := by decide +kernel
theorem dX8_request_182 : decode cX8_request 182 = .ok (.invokevirtual 185, 3) := by decide +kernel
theorem dX8_request_185 : decode cX8_request 185 = .ok (.aload_n 0, 1) := by decide +kernel
theorem dX8_request_186 : decode cX8_request 186 = .ok (.iconst 1, 1) := by decide +kernel
theorem dX8_request_187 : decode cX8_request 187 = .ok (.iload_n 2, 1) := by decide +kernel
theorem dX8_request_188 : decode cX8_request 188 = .ok (.iload_n 3, 1) := by decide +kernel
theorem dX8_request_189 : decode cX8_request 189 = .ok (.iload 4, 2) := by decide +kernel
theorem dX8_request_191 : decode cX8_request 191 = .ok (.iload 5, 2) := by decide +kernel
theorem dX8_request_193 : decode cX8_request 193 = .ok (.iload 6, 2) := by decide +kernel
theorem dX8_request_195 : decode cX8_request 195 = .ok (.aload_n 0, 1) := by decide +kernel
theorem dX8_request_196 : decode cX8_request 196 = .ok (.getfield 13, 3) := by decide +kernel
theorem dX8_request_199 : decode cX8_request 199 = .ok (.iload_n 2, 1) := by decide +kernel
theorem dX8_request_200 : decode cX8_request 200 = .ok (.iaload, 1) := by decide +kernel
theorem dX8_request_201 : decode cX8_request 201 = .ok (.aload_n 0, 1) := by decide +kernel
theorem dX8_request_202 : decode cX8_request 202 = .ok (.getfield 17, 3) := by decide +kernel
theorem dX8_request_205 : decode cX8_request 205 = .ok (.iload_n 2, 1) := by decide +kernel
theorem dX8_request_206 : decode cX8_request 206 = .ok (.iaload, 1) := by decide +kernel
theorem dX8_request_207 : decode cX8_request 207 = .ok (.aload_n 0, 1) := by decide +kernel
theorem dX8_request_208 : decode cX8_request 208 = .ok (.getfield 7, 3) := by decide +kernel
theorem dX8_request_211 : decode cX8_request 211 = .ok (.iload_n 2, 1) := by decide +kernel
theorem dX8_request_212 : decode cX8_request 212 = .ok (.laload, 1) := by decide +kernel
theorem dX8_request_213 : decode cX8_request 213 = .ok (.iconst (-1), 1) := by decide +kernel
theorem dX8_request_214 : decode cX8_request 214 = .ok (.aload_n 0, 1) := by decide +kernel
theorem dX8_request_215 : decode cX8_request 215 = .ok (.getfield 20, 3) := by decide +kernel
theorem dX8_request_218 : decode cX8_request 218 = .ok (.iload_n 2, 1) := by decide +kernel
theorem dX8_request_219 : decode cX8_request 219 = .ok (.iaload, 1) := by decide +kernel
theorem dX8_request_220 : decode cX8_request 220 = .ok (.aload_n 0, 1) := by decide +kernel
theorem dX8_request_221 : decode cX8_request 221 = .ok (.getfield 23, 3) := by decide +kernel
theorem dX8_request_224 : decode cX8_request 224 = .ok (.iload_n 2, 1) := by decide +kernel
theorem dX8_request_225 : decode cX8_request 225 = .ok (.iaload, 1) := by decide +kernel
theorem dX8_request_226 : decode cX8_request 226 = .ok (.invokevirtual 146, 3) := by decide +kernel
theorem dX8_request_229 : decode cX8_request 229 = .ok (.return_, 1) := by decide +kernel
theorem dX8_canBe_0 : decode cX8_canBe 0 = .ok (.aload_n 0, 1) := by decide +kernel
theorem dX8_canBe_1 : decode cX8_canBe 1 = .ok (.getfield 29, 3) := by decide +kernel
theorem dX8_canBe_4 : decode cX8_canBe 4 = .ok (.aload_n 0, 1) := by decide +kernel
theorem dX8_canBe_5 : decode cX8_canBe 5 = .ok (.getfield 96, 3) := by decide +kernel
theorem dX8_canBe_8 : decode cX8_canBe 8 = .ok (.iload_n 1, 1) := by decide +kernel
theorem dX8_canBe_9 : decode cX8_canBe 9 = .ok (.iaload, 1) := by decide +kernel
theorem dX8_canBe_10 : decode cX8_canBe 10 = .ok (.baload, 1) := by decide +kernel
theorem dX8_canBe_11 : decode cX8_canBe 11 = .ok (.ifCond .ne 32, 3) := by decide +kernel
theorem dX8_canBe_14 : decode cX8_canBe 14 = .ok (.aload_n 0, 1) := by decide +kernel
theorem dX8_canBe_15 : decode cX8_canBe 15 = .ok (.getfield 26, 3) := by decide +kernel
theorem dX8_canBe_18 : decode cX8_canBe 18 = .ok (.aload_n 0, 1) := by decide +kernel
theorem dX8_canBe_19 : decode cX8_canBe 19 = .ok (.getfield 96, 3) := by decide +kernel
theorem dX8_canBe_22 : decode cX8_canBe 22 = .ok (.iload_n 1, 1) := by decide +kernel
theorem dX8_canBe_23 : decode cX8_canBe 23 = .ok (.iaload, 1) := by decide +kernel
theorem dX8_canBe_24 : decode cX8_canBe 24 = .ok (.iaload, 1) := by decide +kernel
theorem dX8_canBe_25 : decode cX8_canBe 25 = .ok (.aload_n 0, 1) := by decide +kernel
theorem dX8_canBe_26 : decode cX8_canBe 26 = .ok (.getfield 54, 3) := by decide +kernel
theorem dX8_canBe_29 : decode cX8_canBe 29 = .ok (.aload_n 0, 1) := by decide +kernel
theorem dX8_canBe_30 : decode cX8_canBe 30 = .ok (.getfield 99, 3) := by decide +kernel
theorem dX8_canBe_33 : decode cX8_canBe 33 = .ok (.iload_n 1, 1) := by decide +kernel
theorem dX8_canBe_34 : decode cX8_canBe 34 = .ok (.iaload, 1) := by decide +kernel
theorem dX8_canBe_35 : decode cX8_canBe 35 = .ok (.iaload, 1) := by decide +kernel
theorem dX8_canBe_36 : decode cX8_canBe 36 = .ok (.if_icmp .ne 7, 3) := by decide +kernel
theorem dX8_canBe_39 : decode cX8_canBe 39 = .ok (.iconst 1, 1) := by decide +kernel
theorem dX8_canBe_40 : decode cX8_canBe 40 = .ok (.goto 4, 3) := by decide +kernel
theorem dX8_canBe_43 : decode cX8_canBe 43 = .ok (.iconst 0, 1) := by decide +kernel
theorem dX8_canBe_44 : decode cX8_canBe 44 = .ok (.ireturn, 1) := by decide +kernel
theorem dX8_deliver_0 : decode cX8_deliver 0 = .ok (.iload_n 1, 1) := by decide +kernel
theorem dX8_deliver_1 : decode cX8_deliver 1 = .ok (.ifCond .lt 19, 3) := by decide +kernel
theorem dX8_deliver_4 : decode cX8_deliver 4 = .ok (.iload_n 1, 1) := by decide +kernel
theorem dX8_deliver_5 : decode cX8_deliver 5 = .ok (.aload_n 0, 1) := by decide +kernel
theorem dX8_deliver_6 : decode cX8_deliver 6 = .ok (.getfield 140, 3) := by decide +kernel
theorem dX8_deliver_9 : decode cX8_deliver 9 = .ok (.if_icmp .ge 11, 3) := by decide +kernel
theorem dX8_deliver_12 : decode cX8_deliver 12 = .ok (.aload_n 0, 1) := by decide +kernel
theorem dX8_deliver_13 : decode cX8_deliver 13 = .ok (.iload_n 1, 1) := by decide +kernel
theorem dX8_deliver_14 : decode cX8_deliver 14 = .ok (.invokevirtual 197, 3) := by decide +kernel
theorem dX8_deliver_17 : decode cX8_deliver 17 = .ok (.ifCond .ne 5, 3) := by decide +kernel
theorem dX8_deliver_20 : decode cX8_deliver 20 = .ok (.iconst 0, 1) := by decide +kernel
theorem dX8_deliver_21 : decode cX8_deliver 21 = .ok (.ireturn, 1) := by decide +kernel
theorem dX8_deliver_22 : decode cX8_deliver 22 = .ok (.aload_n 0, 1) := by decide +kernel
theorem dX8_deliver_23 : decode cX8_deliver 23 = .ok (.dup, 1) := by decide +kernel
theorem dX8_deliver_24 : decode cX8_deliver 24 = .ok (.getfield 157, 3) := by decide +kernel
theorem dX8_deliver_27 : decode cX8_deliver 27 = .ok (.iconst 1, 1) := by decide +kernel
theorem dX8_deliver_28 : decode cX8_deliver 28 = .ok (.iadd, 1) := by decide +kernel
theorem dX8_deliver_29 : decode cX8_deliver 29 = .ok (.putfield 157, 3) := by decide +kernel
theorem dX8_deliver_32 : decode cX8_deliver 32 = .ok (.aload_n 0, 1) := by decide +kernel
theorem dX8_deliver_33 : decode cX8_deliver 33 = .ok (.getfield 93, 3) := by decide +kernel
theorem dX8_deliver_36 : decode cX8_deliver 36 = .ok (.iload_n 1, 1) := by decide +kernel
theorem dX8_deliver_37 : decode cX8_deliver 37 = .ok (.baload, 1) := by decide +kernel
theorem dX8_deliver_38 : decode cX8_deliver 38 = .ok (.ifCond .eq 11, 3) := by decide +kernel
theorem dX8_deliver_41 : decode cX8_deliver 41 = .ok (.aload_n 0, 1) := by decide +kernel
theorem dX8_deliver_42 : decode cX8_deliver 42 = .ok (.iload_n 1, 1) := by decide +kernel
theorem dX8_deliver_43 : decode cX8_deliver 43 = .ok (.invokevirtual 200, 3) := by decide +kernel
theorem dX8_deliver_46 : decode cX8_deliver 46 = .ok (.goto 8, 3) := by decide +kernel
theorem dX8_deliver_49 : decode cX8_deliver 49 = .ok (.aload_n 0, 1) := by decide +kernel
theorem dX8_deliver_50 : decode cX8_deliver 50 = .ok (.iload_n 1, 1) := by decide +kernel
theorem dX8_deliver_51 : decode cX8_deliver 51 = .ok (.invokevirtual 203, 3) := by decide +kernel
theorem dX8_deliver_54 : decode cX8_deliver 54 = .ok (.iconst 1, 1) := by decide +kernel
theorem dX8_deliver_55 : decode cX8_deliver 55 = .ok (.ireturn, 1) := by decide +kernel
theorem dX8_settle_0 : decode cX8_settle 0 = .ok (.iload_n 1, 1) := by decide +kernel
theorem dX8_settle_1 : decode cX8_settle 1 = .ok (.ifCond .ge 5, 3) := by decide +kernel
theorem dX8_settle_4 : decode cX8_settle 4 = .ok (.iconst (-1), 1) := by decide +kernel
theorem dX8_settle_5 : decode cX8_settle 5 = .ok (.ireturn, 1) := by decide +kernel
theorem dX8_settle_6 : decode cX8_settle 6 = .ok (.iconst 0, 1) := by decide +kernel
theorem dX8_settle_7 : decode cX8_settle 7 = .ok (.istore_n 2, 1) := by decide +kernel
theorem dX8_settle_8 : decode cX8_settle 8 = .ok (.iconst 1, 1) := by decide +kernel
theorem dX8_settle_9 : decode cX8_settle 9 = .ok (.istore_n 3, 1) := by decide +kernel
theorem dX8_settle_10 : decode cX8_settle 10 = .ok (.iload_n 3, 1) := by decide +kernel
theorem dX8_settle_11 : decode cX8_settle 11 = .ok (.ifCond .eq 52, 3) := by decide +kernel
theorem dX8_settle_14 : decode cX8_settle 14 = .ok (.iload_n 2, 1) := by decide +kernel
theorem dX8_settle_15 : decode cX8_settle 15 = .ok (.iload_n 1, 1) := by decide +kernel
theorem dX8_settle_16 : decode cX8_settle 16 = .ok (.if_icmp .ge 47, 3) := by decide +kernel
theorem dX8_settle_19 : decode cX8_settle 19 = .ok (.iconst 0, 1) := by decide +kernel
theorem dX8_settle_20 : decode cX8_settle 20 = .ok (.istore 4, 2) := by decide +kernel
theorem dX8_settle_22 : decode cX8_settle 22 = .ok (.iload 4, 2) := by decide +kernel
theorem dX8_settle_24 : decode cX8_settle 24 = .ok (.aload_n 0, 1) := by decide +kernel
theorem dX8_settle_25 : decode cX8_settle 25 = .ok (.getfield 140, 3) := by decide +kernel
theorem dX8_settle_28 : decode cX8_settle 28 = .ok (.if_icmp .ge 18, 3) := by decide +kernel
theorem dX8_settle_31 : decode cX8_settle 31 = .ok (.aload_n 0, 1) := by decide +kernel
theorem dX8_settle_32 : decode cX8_settle 32 = .ok (.iload 4, 2) := by decide +kernel
theorem dX8_settle_34 : decode cX8_settle 34 = .ok (.invokevirtual 197, 3) := by decide +kernel
theorem dX8_settle_37 : decode cX8_settle 37 = .ok (.ifCond .ne 9, 3) := by decide +kernel
theorem dX8_settle_40 : decode cX8_settle 40 = .ok (.iinc 4 1, 3) := by decide +kernel
theorem dX8_settle_43 : decode cX8_settle 43 = .ok (.goto (-21), 3) := by decide +kernel
theorem dX8_settle_46 : decode cX8_settle 46 = .ok (.aload_n 0, 1) := by decide +kernel
theorem dX8_settle_47 : decode cX8_settle 47 = .ok (.iload 4, 2) := by decide +kernel
theorem dX8_settle_49 : decode cX8_settle 49 = .ok (.invokevirtual 206, 3) := by decide +kernel
theorem dX8_settle_52 : decode cX8_settle 52 = .ok (.istore_n 3, 1) := by decide +kernel
theorem dX8_settle_53 : decode cX8_settle 53 = .ok (.iload_n 3, 1) := by decide +kernel
theorem dX8_settle_54 : decode cX8_settle 54 = .ok (.ifCond .eq 6, 3) := by decide +kernel
theorem dX8_settle_57 : decode cX8_settle 57 = .ok (.iinc 2 1, 3) := by decide +kernel
theorem dX8_settle_60 : decode cX8_settle 60 = .ok (.goto (-50), 3) := by decide +kernel
theorem dX8_settle_63 : decode cX8_settle 63 = .ok (.iload_n 2, 1) := by decide +kernel
theorem dX8_settle_64 : decode cX8_settle 64 = .ok (.ireturn, 1) := by decide +kernel
theorem dX8_lose_0 : decode cX8_lose 0 = .ok (.iload_n 1, 1) := by decide +kernel
theorem dX8_lose_1 : decode cX8_lose 1 = .ok (.ifCond .lt 11, 3) := by decide +kernel
theorem dX8_lose_4 : decode cX8_lose 4 = .ok (.iload_n 1, 1) := by decide +kernel
theorem dX8_lose_5 : decode cX8_lose 5 = .ok (.aload_n 0, 1) := by decide +kernel
theorem dX8_lose_6 : decode cX8_lose 6 = .ok (.getfield 140, 3) := by decide +kernel
theorem dX8_lose_9 : decode cX8_lose 9 = .ok (.if_icmp .lt 5, 3) := by decide +kernel
theorem dX8_lose_12 : decode cX8_lose 12 = .ok (.iconst 0, 1) := by decide +kernel
theorem dX8_lose_13 : decode cX8_lose 13 = .ok (.ireturn, 1) := by decide +kernel
theorem dX8_lose_14 : decode cX8_lose 14 = .ok (.aload_n 0, 1) := by decide +kernel
theorem dX8_lose_15 : decode cX8_lose 15 = .ok (.iload_n 1, 1) := by decide +kernel
theorem dX8_lose_16 : decode cX8_lose 16 = .ok (.invokevirtual 185, 3) := by decide +kernel
theorem dX8_lose_19 : decode cX8_lose 19 = .ok (.iconst 1, 1) := by decide +kernel
theorem dX8_lose_20 : decode cX8_lose 20 = .ok (.ireturn, 1) := by decide +kernel
theorem dX8_twice_0 : decode cX8_twice 0 = .ok (.iload_n 1, 1) := by decide +kernel
theorem dX8_twice_1 : decode cX8_twice 1 = .ok (.ifCond .lt 21, 3) := by decide +kernel
theorem dX8_twice_4 : decode cX8_twice 4 = .ok (.iload_n 1, 1) := by decide +kernel
theorem dX8_twice_5 : decode cX8_twice 5 = .ok (.aload_n 0, 1) := by decide +kernel
theorem dX8_twice_6 : decode cX8_twice 6 = .ok (.getfield 140, 3) := by decide +kernel
theorem dX8_twice_9 : decode cX8_twice 9 = .ok (.if_icmp .ge 13, 3) := by decide +kernel
theorem dX8_twice_12 : decode cX8_twice 12 = .ok (.aload_n 0, 1) := by decide +kernel
theorem dX8_twice_13 : decode cX8_twice 13 = .ok (.getfield 140, 3) := by decide +kernel
theorem dX8_twice_16 : decode cX8_twice 16 = .ok (.sipush 300, 3) := by decide +kernel
theorem dX8_twice_19 : decode cX8_twice 19 = .ok (.if_icmp .ne 5, 3) := by decide +kernel
theorem dX8_twice_22 : decode cX8_twice 22 = .ok (.iconst 0, 1) := by decide +kernel
theorem dX8_twice_23 : decode cX8_twice 23 = .ok (.ireturn, 1) := by decide +kernel
theorem dX8_twice_24 : decode cX8_twice 24 = .ok (.aload_n 0, 1) := by decide +kernel
theorem dX8_twice_25 : decode cX8_twice 25 = .ok (.aload_n 0, 1) := by decide +kernel
theorem dX8_twice_26 : decode cX8_twice 26 = .ok (.getfield 93, 3) := by decide +kernel
theorem dX8_twice_29 : decode cX8_twice 29 = .ok (.iload_n 1, 1) := by decide +kernel
theorem dX8_twice_30 : decode cX8_twice 30 = .ok (.baload, 1) := by decide +kernel
theorem dX8_twice_31 : decode cX8_twice 31 = .ok (.aload_n 0, 1) := by decide +kernel
theorem dX8_twice_32 : decode cX8_twice 32 = .ok (.getfield 96, 3) := by decide +kernel
theorem dX8_twice_35 : decode cX8_twice 35 = .ok (.iload_n 1, 1) := by decide +kernel
theorem dX8_twice_36 : decode cX8_twice 36 = .ok (.iaload, 1) := by decide +kernel
theorem dX8_twice_37 : decode cX8_twice 37 = .ok (.aload_n 0, 1) := by decide +kernel
theorem dX8_twice_38 : decode cX8_twice 38 = .ok (.getfield 99, 3) := by decide +kernel
theorem dX8_twice_41 : decode cX8_twice 41 = .ok (.iload_n 1, 1) := by decide +kernel
theorem dX8_twice_42 : decode cX8_twice 42 = .ok (.iaload, 1) := by decide +kernel
theorem dX8_twice_43 : decode cX8_twice 43 = .ok (.aload_n 0, 1) := by decide +kernel
theorem dX8_twice_44 : decode cX8_twice 44 = .ok (.getfield 102, 3) := by decide +kernel
theorem dX8_twice_47 : decode cX8_twice 47 = .ok (.iload_n 1, 1) := by decide +kernel
theorem dX8_twice_48 : decode cX8_twice 48 = .ok (.iaload, 1) := by decide +kernel
theorem dX8_twice_49 : decode cX8_twice 49 = .ok (.aload_n 0, 1) := by decide +kernel
theorem dX8_twice_50 : decode cX8_twice 50 = .ok (.getfield 105, 3) := by decide +kernel
theorem dX8_twice_53 : decode cX8_twice 53 = .ok (.iload_n 1, 1) := by decide +kernel
theorem dX8_twice_54 : decode cX8_twice 54 = .ok (.iaload, 1) := by decide +kernel
theorem dX8_twice_55 : decode cX8_twice 55 = .ok (.aload_n 0, 1) := by decide +kernel
theorem dX8_twice_56 : decode cX8_twice 56 = .ok (.getfield 108, 3) := by decide +kernel
theorem dX8_twice_59 : decode cX8_twice 59 = .ok (.iload_n 1, 1) := by decide +kernel
theorem dX8_twice_60 : decode cX8_twice 60 = .ok (.iaload, 1) := by decide +kernel
theorem dX8_twice_61 : decode cX8_twice 61 = .ok (.aload_n 0, 1) := by decide +kernel
theorem dX8_twice_62 : decode cX8_twice 62 = .ok (.getfield 111, 3) := by decide +kernel
theorem dX8_twice_65 : decode cX8_twice 65 = .ok (.iload_n 1, 1) := by decide +kernel
theorem dX8_twice_66 : decode cX8_twice 66 = .ok (.iaload, 1) := by decide +kernel
theorem dX8_twice_67 : decode cX8_twice 67 = .ok (.aload_n 0, 1) := by decide +kernel
theorem dX8_twice_68 : decode cX8_twice 68 = .ok (.getfield 114, 3) := by decide +kernel
theorem dX8_twice_71 : decode cX8_twice 71 = .ok (.iload_n 1, 1) := by decide +kernel
theorem dX8_twice_72 : decode cX8_twice 72 = .ok (.iaload, 1) := by decide +kernel
theorem dX8_twice_73 : decode cX8_twice 73 = .ok (.aload_n 0, 1) := by decide +kernel
theorem dX8_twice_74 : decode cX8_twice 74 = .ok (.getfield 126, 3) := by decide +kernel
theorem dX8_twice_77 : decode cX8_twice 77 = .ok (.iload_n 1, 1) := by decide +kernel
theorem dX8_twice_78 : decode cX8_twice 78 = .ok (.laload, 1) := by decide +kernel
theorem dX8_twice_79 : decode cX8_twice 79 = .ok (.aload_n 0, 1) := by decide +kernel
theorem dX8_twice_80 : decode cX8_twice 80 = .ok (.getfield 117, 3) := by decide +kernel
theorem dX8_twice_83 : decode cX8_twice 83 = .ok (.iload_n 1, 1) := by decide +kernel
theorem dX8_twice_84 : decode cX8_twice 84 = .ok (.iaload, 1) := by decide +kernel
theorem dX8_twice_85 : decode cX8_twice 85 = .ok (.aload_n 0, 1) := by decide +kernel
theorem dX8_twice_86 : decode cX8_twice 86 = .ok (.getfield 120, 3) := by decide +kernel
theorem dX8_twice_89 : decode cX8_twice 89 = .ok (.iload_n 1, 1) := by decide +kernel
theorem dX8_twice_90 : decode cX8_twice 90 = .ok (.iaload, 1) := by decide +kernel
theorem dX8_twice_91 : decode cX8_twice 91 = .ok (.aload_n 0, 1) := by decide +kernel
theorem dX8_twice_92 : decode cX8_twice 92 = .ok (.getfield 123, 3) := by decide +kernel
theorem dX8_twice_95 : decode cX8_twice 95 = .ok (.iload_n 1, 1) := by decide +kernel
theorem dX8_twice_96 : decode cX8_twice 96 = .ok (.iaload, 1) := by decide +kernel
theorem dX8_twice_97 : decode cX8_twice 97 = .ok (.invokevirtual 146, 3) := by decide +kernel
theorem dX8_twice_100 : decode cX8_twice 100 = .ok (.iconst 1, 1) := by decide +kernel
theorem dX8_twice_101 : decode cX8_twice 101 = .ok (.ireturn, 1) := by decide +kernel
theorem dX8_silent_0 : decode cX8_silent 0 = .ok (.aload_n 0, 1) := by decide +kernel
theorem dX8_silent_1 : decode cX8_silent 1 = .ok (.iload_n 1, 1) := by decide +kernel
theorem dX8_silent_2 : decode cX8_silent 2 = .ok (.invokevirtual 136, 3) := by decide +kernel
theorem dX8_silent_5 : decode cX8_silent 5 = .ok (.ifCond .ne 5, 3) := by decide +kernel
theorem dX8_silent_8 : decode cX8_silent 8 = .ok (.iconst 0, 1) := by decide +kernel
theorem dX8_silent_9 : decode cX8_silent 9 = .ok (.ireturn, 1) := by decide +kernel
theorem dX8_silent_10 : decode cX8_silent 10 = .ok (.aload_n 0, 1) := by decide +kernel
theorem dX8_silent_11 : decode cX8_silent 11 = .ok (.getfield 29, 3) := by decide +kernel
theorem dX8_silent_14 : decode cX8_silent 14 = .ok (.iload_n 1, 1) := by decide +kernel
theorem dX8_silent_15 : decode cX8_silent 15 = .ok (.iload_n 2, 1) := by decide +kernel
theorem dX8_silent_16 : decode cX8_silent 16 = .ok (.bastore, 1) := by decide +kernel
theorem dX8_silent_17 : decode cX8_silent 17 = .ok (.iconst 1, 1) := by decide +kernel
theorem dX8_silent_18 : decode cX8_silent 18 = .ok (.ireturn, 1) := by decide +kernel
theorem dX8_side_0 : decode cX8_side 0 = .ok (.iload_n 2, 1) := by decide +kernel
theorem dX8_side_1 : decode cX8_side 1 = .ok (.ifCond .lt 8, 3) := by decide +kernel
theorem dX8_side_4 : decode cX8_side 4 = .ok (.iload_n 2, 1) := by decide +kernel
theorem dX8_side_5 : decode cX8_side 5 = .ok (.iconst 3, 1) := by decide +kernel
theorem dX8_side_6 : decode cX8_side 6 = .ok (.if_icmp .le 5, 3) := by decide +kernel
theorem dX8_side_9 : decode cX8_side 9 = .ok (.iconst 0, 1) := by decide +kernel
theorem dX8_side_10 : decode cX8_side 10 = .ok (.ireturn, 1) := by decide +kernel
theorem dX8_side_11 : decode cX8_side 11 = .ok (.aload_n 0, 1) := by decide +kernel
theorem dX8_side_12 : decode cX8_side 12 = .ok (.iload_n 1, 1) := by decide +kernel
theorem dX8_side_13 : decode cX8_side 13 = .ok (.invokevirtual 136, 3) := by decide +kernel
theorem dX8_side_16 : decode cX8_side 16 = .ok (.ifCond .eq 13, 3) := by decide +kernel
theorem dX8_side_19 : decode cX8_side 19 = .ok (.aload_n 0, 1) := by decide +kernel
theorem dX8_side_20 : decode cX8_side 20 = .ok (.getfield 26, 3) := by decide +kernel
theorem dX8_side_23 : decode cX8_side 23 = .ok (.iload_n 1, 1) := by decide +kernel
theorem dX8_side_24 : decode cX8_side 24 = .ok (.iload_n 2, 1) := by decide +kernel
theorem dX8_side_25 : decode cX8_side 25 = .ok (.iastore, 1) := by decide +kernel
theorem dX8_side_26 : decode cX8_side 26 = .ok (.goto 28, 3) := by decide +kernel
theorem dX8_side_29 : decode cX8_side 29 = .ok (.iload_n 1, 1) := by decide +kernel
theorem dX8_side_30 : decode cX8_side 30 = .ok (.bipush 10, 2) := by decide +kernel
theorem dX8_side_32 : decode cX8_side 32 = .ok (.isub, 1) := by decide +kernel
theorem dX8_side_33 : decode cX8_side 33 = .ok (.invokestatic 167, 3) := by decide +kernel
theorem dX8_side_36 : decode cX8_side 36 = .ok (.ifCond .eq 16, 3) := by decide +kernel
theorem dX8_side_39 : decode cX8_side 39 = .ok (.aload_n 0, 1) := by decide +kernel
theorem dX8_side_40 : decode cX8_side 40 = .ok (.getfield 54, 3) := by decide +kernel
theorem dX8_side_43 : decode cX8_side 43 = .ok (.iload_n 1, 1) := by decide +kernel
theorem dX8_side_44 : decode cX8_side 44 = .ok (.bipush 10, 2) := by decide +kernel
theorem dX8_side_46 : decode cX8_side 46 = .ok (.isub, 1) := by decide +kernel
theorem dX8_side_47 : decode cX8_side 47 = .ok (.iload_n 2, 1) := by decide +kernel
theorem dX8_side_48 : decode cX8_side 48 = .ok (.iastore, 1) := by decide +kernel
theorem dX8_side_49 : decode cX8_side 49 = .ok (.goto 5, 3) := by decide +kernel
theorem dX8_side_52 : decode cX8_side 52 = .ok (.iconst 0, 1) := by decide +kernel
theorem dX8_side_53 : decode cX8_side 53 = .ok (.ireturn, 1) := by decide +kernel
theorem dX8_side_54 : decode cX8_side 54 = .ok (.iconst 1, 1) := by decide +kernel
theorem dX8_side_55 : decode cX8_side 55 = .ok (.ireturn, 1) := by decide +kernel
theorem dX8_halt_0 : decode cX8_halt 0 = .ok (.iload_n 1, 1) := by decide +kernel
theorem dX8_halt_1 : decode cX8_halt 1 = .ok (.invokestatic 167, 3) := by decide +kernel
theorem dX8_halt_4 : decode cX8_halt 4 = .ok (.ifCond .eq 12, 3) := by decide +kernel
theorem dX8_halt_7 : decode cX8_halt 7 = .ok (.aload_n 0, 1) := by decide +kernel
theorem dX8_halt_8 : decode cX8_halt 8 = .ok (.getfield 39, 3) := by decide +kernel
theorem dX8_halt_11 : decode cX8_halt 11 = .ok (.iload_n 1, 1) := by decide +kernel
theorem dX8_halt_12 : decode cX8_halt 12 = .ok (.iaload, 1) := by decide +kernel
theorem dX8_halt_13 : decode cX8_halt 13 = .ok (.ifCond .ge 5, 3) := by decide +kernel
theorem dX8_halt_16 : decode cX8_halt 16 = .ok (.iconst (-1), 1) := by decide +kernel
theorem dX8_halt_17 : decode cX8_halt 17 = .ok (.ireturn, 1) := by decide +kernel
theorem dX8_halt_18 : decode cX8_halt 18 = .ok (.aload_n 0, 1) := by decide +kernel
theorem dX8_halt_19 : decode cX8_halt 19 = .ok (.dup, 1) := by decide +kernel
theorem dX8_halt_20 : decode cX8_halt 20 = .ok (.getfield 157, 3) := by decide +kernel
theorem dX8_halt_23 : decode cX8_halt 23 = .ok (.iconst 1, 1) := by decide +kernel
theorem dX8_halt_24 : decode cX8_halt 24 = .ok (.iadd, 1) := by decide +kernel
theorem dX8_halt_25 : decode cX8_halt 25 = .ok (.putfield 157, 3) := by decide +kernel
theorem dX8_halt_28 : decode cX8_halt 28 = .ok (.aload_n 0, 1) := by decide +kernel
theorem dX8_halt_29 : decode cX8_halt 29 = .ok (.getfield 39, 3) := by decide +kernel
theorem dX8_halt_32 : decode cX8_halt 32 = .ok (.iload_n 1, 1) := by decide +kernel
theorem dX8_halt_33 : decode cX8_halt 33 = .ok (.iaload, 1) := by decide +kernel
theorem dX8_halt_34 : decode cX8_halt 34 = .ok (.istore_n 2, 1) := by decide +kernel
theorem dX8_halt_35 : decode cX8_halt 35 = .ok (.aload_n 0, 1) := by decide +kernel
theorem dX8_halt_36 : decode cX8_halt 36 = .ok (.iload_n 1, 1) := by decide +kernel
theorem dX8_halt_37 : decode cX8_halt 37 = .ok (.invokevirtual 178, 3) := by decide +kernel
theorem dX8_halt_40 : decode cX8_halt 40 = .ok (.iload_n 2, 1) := by decide +kernel
theorem dX8_halt_41 : decode cX8_halt 41 = .ok (.ireturn, 1) := by decide +kernel
theorem dX8_copy_0 : decode cX8_copy 0 = .ok (.aload_n 0, 1) := by decide +kernel
theorem dX8_copy_1 : decode cX8_copy 1 = .ok (.iload_n 1, 1) := by decide +kernel
theorem dX8_copy_2 : decode cX8_copy 2 = .ok (.invokevirtual 136, 3) := by decide +kernel
theorem dX8_copy_5 : decode cX8_copy 5 = .ok (.ifCond .ne 5, 3) := by decide +kernel
theorem dX8_copy_8 : decode cX8_copy 8 = .ok (.iconst (-1), 1) := by decide +kernel
theorem dX8_copy_9 : decode cX8_copy 9 = .ok (.ireturn, 1) := by decide +kernel
theorem dX8_copy_10 : decode cX8_copy 10 = .ok (.iload_n 2, 1) := by decide +kernel
theorem dX8_copy_11 : decode cX8_copy 11 = .ok (.tableswitch 87 0 5 #[37, 44, 51, 58, 65, 80], 37) := by decide +kernel
theorem dX8_copy_48 : decode cX8_copy 48 = .ok (.aload_n 0, 1) := by decide +kernel
theorem dX8_copy_49 : decode cX8_copy 49 = .ok (.getfield 13, 3) := by decide +kernel
theorem dX8_copy_52 : decode cX8_copy 52 = .ok (.iload_n 1, 1) := by decide +kernel
theorem dX8_copy_53 : decode cX8_copy 53 = .ok (.iaload, 1) := by decide +kernel
theorem dX8_copy_54 : decode cX8_copy 54 = .ok (.ireturn, 1) := by decide +kernel
theorem dX8_copy_55 : decode cX8_copy 55 = .ok (.aload_n 0, 1) := by decide +kernel
theorem dX8_copy_56 : decode cX8_copy 56 = .ok (.getfield 17, 3) := by decide +kernel
theorem dX8_copy_59 : decode cX8_copy 59 = .ok (.iload_n 1, 1) := by decide +kernel
theorem dX8_copy_60 : decode cX8_copy 60 = .ok (.iaload, 1) := by decide +kernel
theorem dX8_copy_61 : decode cX8_copy 61 = .ok (.ireturn, 1) := by decide +kernel
theorem dX8_copy_62 : decode cX8_copy 62 = .ok (.aload_n 0, 1) := by decide +kernel
theorem dX8_copy_63 : decode cX8_copy 63 = .ok (.getfield 20, 3) := by decide +kernel
theorem dX8_copy_66 : decode cX8_copy 66 = .ok (.iload_n 1, 1) := by decide +kernel
theorem dX8_copy_67 : decode cX8_copy 67 = .ok (.iaload, 1) := by decide +kernel
theorem dX8_copy_68 : decode cX8_copy 68 = .ok (.ireturn, 1) := by decide +kernel
theorem dX8_copy_69 : decode cX8_copy 69 = .ok (.aload_n 0, 1) := by decide +kernel
theorem dX8_copy_70 : decode cX8_copy 70 = .ok (.getfield 23, 3) := by decide +kernel
theorem dX8_copy_73 : decode cX8_copy 73 = .ok (.iload_n 1, 1) := by decide +kernel
theorem dX8_copy_74 : decode cX8_copy 74 = .ok (.iaload, 1) := by decide +kernel
theorem dX8_copy_75 : decode cX8_copy 75 = .ok (.ireturn, 1) := by decide +kernel
theorem dX8_copy_76 : decode cX8_copy 76 = .ok (.aload_n 0, 1) := by decide +kernel
theorem dX8_copy_77 : decode cX8_copy 77 = .ok (.getfield 29, 3) := by decide +kernel
theorem dX8_copy_80 : decode cX8_copy 80 = .ok (.iload_n 1, 1) := by decide +kernel
theorem dX8_copy_81 : decode cX8_copy 81 = .ok (.baload, 1) := by decide +kernel
theorem dX8_copy_82 : decode cX8_copy 82 = .ok (.ifCond .eq 7, 3) := by decide +kernel
theorem dX8_copy_85 : decode cX8_copy 85 = .ok (.iconst 1, 1) := by decide +kernel
theorem dX8_copy_86 : decode cX8_copy 86 = .ok (.goto 4, 3) := by decide +kernel
theorem dX8_copy_89 : decode cX8_copy 89 = .ok (.iconst 0, 1) := by decide +kernel
theorem dX8_copy_90 : decode cX8_copy 90 = .ok (.ireturn, 1) := by decide +kernel
theorem dX8_copy_91 : decode cX8_copy 91 = .ok (.aload_n 0, 1) := by decide +kernel
theorem dX8_copy_92 : decode cX8_copy 92 = .ok (.getfield 26, 3) := by decide +kernel
theorem dX8_copy_95 : decode cX8_copy 95 = .ok (.iload_n 1, 1) := by decide +kernel
theorem dX8_copy_96 : decode cX8_copy 96 = .ok (.iaload, 1) := by decide +kernel
theorem dX8_copy_97 : decode cX8_copy 97 = .ok (.ireturn, 1) := by decide +kernel
theorem dX8_copy_98 : decode cX8_copy 98 = .ok (.iconst (-1), 1) := by decide +kernel
theorem dX8_copy_99 : decode cX8_copy 99 = .ok (.ireturn, 1) := by decide +kernel
theorem dX8_kept_0 : decode cX8_kept 0 = .ok (.aload_n 0, 1) := by decide +kernel
theorem dX8_kept_1 : decode cX8_kept 1 = .ok (.iload_n 1, 1) := by decide +kernel
theorem dX8_kept_2 : decode cX8_kept 2 = .ok (.invokevirtual 136, 3) := by decide +kernel
theorem dX8_kept_5 : decode cX8_kept 5 = .ok (.ifCond .eq 12, 3) := by decide +kernel
theorem dX8_kept_8 : decode cX8_kept 8 = .ok (.aload_n 0, 1) := by decide +kernel
theorem dX8_kept_9 : decode cX8_kept 9 = .ok (.getfield 7, 3) := by decide +kernel
theorem dX8_kept_12 : decode cX8_kept 12 = .ok (.iload_n 1, 1) := by decide +kernel
theorem dX8_kept_13 : decode cX8_kept 13 = .ok (.laload, 1) := by decide +kernel
theorem dX8_kept_14 : decode cX8_kept 14 = .ok (.goto 4, 3) := by decide +kernel
theorem dX8_kept_17 : decode cX8_kept 17 = .ok (.lconst 0, 1) := by decide +kernel
theorem dX8_kept_18 : decode cX8_kept 18 = .ok (.lreturn, 1) := by decide +kernel
theorem dX8_client_0 : decode cX8_client 0 = .ok (.iload_n 1, 1) := by decide +kernel
theorem dX8_client_1 : decode cX8_client 1 = .ok (.invokestatic 167, 3) := by decide +kernel
theorem dX8_client_4 : decode cX8_client 4 = .ok (.ifCond .ne 5, 3) := by decide +kernel
theorem dX8_client_7 : decode cX8_client 7 = .ok (.iconst (-1), 1) := by decide +kernel
theorem dX8_client_8 : decode cX8_client 8 = .ok (.ireturn, 1) := by decide +kernel
theorem dX8_client_9 : decode cX8_client 9 = .ok (.iload_n 2, 1) := by decide +kernel
theorem dX8_client_10 : decode cX8_client 10 = .ok (.tableswitch 80 0 5 #[38, 45, 52, 59, 66, 73], 38) := by decide +kernel
theorem dX8_client_48 : decode cX8_client 48 = .ok (.aload_n 0, 1) := by decide +kernel
theorem dX8_client_49 : decode cX8_client 49 = .ok (.getfield 39, 3) := by decide +kernel
theorem dX8_client_52 : decode cX8_client 52 = .ok (.iload_n 1, 1) := by decide +kernel
theorem dX8_client_53 : decode cX8_client 53 = .ok (.iaload, 1) := by decide +kernel
theorem dX8_client_54 : decode cX8_client 54 = .ok (.ireturn, 1) := by decide +kernel
theorem dX8_client_55 : decode cX8_client 55 = .ok (.aload_n 0, 1) := by decide +kernel
theorem dX8_client_56 : decode cX8_client 56 = .ok (.getfield 42, 3) := by decide +kernel
theorem dX8_client_59 : decode cX8_client 59 = .ok (.iload_n 1, 1) := by decide +kernel
theorem dX8_client_60 : decode cX8_client 60 = .ok (.iaload, 1) := by decide +kernel
theorem dX8_client_61 : decode cX8_client 61 = .ok (.ireturn, 1) := by decide +kernel
theorem dX8_client_62 : decode cX8_client 62 = .ok (.aload_n 0, 1) := by decide +kernel
theorem dX8_client_63 : decode cX8_client 63 = .ok (.getfield 48, 3) := by decide +kernel
theorem dX8_client_66 : decode cX8_client 66 = .ok (.iload_n 1, 1) := by decide +kernel
theorem dX8_client_67 : decode cX8_client 67 = .ok (.iaload, 1) := by decide +kernel
theorem dX8_client_68 : decode cX8_client 68 = .ok (.ireturn, 1) := by decide +kernel
theorem dX8_client_69 : decode cX8_client 69 = .ok (.aload_n 0, 1) := by decide +kernel
theorem dX8_client_70 : decode cX8_client 70 = .ok (.getfield 51, 3) := by decide +kernel
theorem dX8_client_73 : decode cX8_client 73 = .ok (.iload_n 1, 1) := by decide +kernel
theorem dX8_client_74 : decode cX8_client 74 = .ok (.iaload, 1) := by decide +kernel
theorem dX8_client_75 : decode cX8_client 75 = .ok (.ireturn, 1) := by decide +kernel
theorem dX8_client_76 : decode cX8_client 76 = .ok (.aload_n 0, 1) := by decide +kernel
theorem dX8_client_77 : decode cX8_client 77 = .ok (.getfield 54, 3) := by decide +kernel
theorem dX8_client_80 : decode cX8_client 80 = .ok (.iload_n 1, 1) := by decide +kernel
theorem dX8_client_81 : decode cX8_client 81 = .ok (.iaload, 1) := by decide +kernel
theorem dX8_client_82 : decode cX8_client 82 = .ok (.ireturn, 1) := by decide +kernel
theorem dX8_client_83 : decode cX8_client 83 = .ok (.aload_n 0, 1) := by decide +kernel
theorem dX8_client_84 : decode cX8_client 84 = .ok (.getfield 57, 3) := by decide +kernel
theorem dX8_client_87 : decode cX8_client 87 = .ok (.iload_n 1, 1) := by decide +kernel
theorem dX8_client_88 : decode cX8_client 88 = .ok (.iaload, 1) := by decide +kernel
theorem dX8_client_89 : decode cX8_client 89 = .ok (.ireturn, 1) := by decide +kernel
theorem dX8_client_90 : decode cX8_client 90 = .ok (.iconst (-1), 1) := by decide +kernel
theorem dX8_client_91 : decode cX8_client 91 = .ok (.ireturn, 1) := by decide +kernel
theorem dX8_air_0 : decode cX8_air 0 = .ok (.iload_n 1, 1) := by decide +kernel
theorem dX8_air_1 : decode cX8_air 1 = .ok (.ifCond .lt 11, 3) := by decide +kernel
theorem dX8_air_4 : decode cX8_air 4 = .ok (.iload_n 1, 1) := by decide +kernel
theorem dX8_air_5 : decode cX8_air 5 = .ok (.aload_n 0, 1) := by decide +kernel
theorem dX8_air_6 : decode cX8_air 6 = .ok (.getfield 140, 3) := by decide +kernel
theorem dX8_air_9 : decode cX8_air 9 = .ok (.if_icmp .lt 5, 3) := by decide +kernel
theorem dX8_air_12 : decode cX8_air 12 = .ok (.iconst (-1), 1) := by decide +kernel
theorem dX8_air_13 : decode cX8_air 13 = .ok (.ireturn, 1) := by decide +kernel
theorem dX8_air_14 : decode cX8_air 14 = .ok (.iload_n 2, 1) := by decide +kernel
theorem dX8_air_15 : decode cX8_air 15 = .ok (.tableswitch 138 0 8 #[49, 64, 71, 78, 85, 92, 99, 106, 131], 49) := by decide +kernel
theorem dX8_air_64 : decode cX8_air 64 = .ok (.aload_n 0, 1) := by decide +kernel
theorem dX8_air_65 : decode cX8_air 65 = .ok (.getfield 93, 3) := by decide +kernel
theorem dX8_air_68 : decode cX8_air 68 = .ok (.iload_n 1, 1) := by decide +kernel
theorem dX8_air_69 : decode cX8_air 69 = .ok (.baload, 1) := by decide +kernel
theorem dX8_air_70 : decode cX8_air 70 = .ok (.ifCond .eq 7, 3) := by decide +kernel
theorem dX8_air_73 : decode cX8_air 73 = .ok (.iconst 1, 1) := by decide +kernel
theorem dX8_air_74 : decode cX8_air 74 = .ok (.goto 4, 3) := by decide +kernel
theorem dX8_air_77 : decode cX8_air 77 = .ok (.iconst 0, 1) := by decide +kernel
theorem dX8_air_78 : decode cX8_air 78 = .ok (.ireturn, 1) := by decide +kernel
theorem dX8_air_79 : decode cX8_air 79 = .ok (.aload_n 0, 1) := by decide +kernel
theorem dX8_air_80 : decode cX8_air 80 = .ok (.getfield 96, 3) := by decide +kernel
theorem dX8_air_83 : decode cX8_air 83 = .ok (.iload_n 1, 1) := by decide +kernel
theorem dX8_air_84 : decode cX8_air 84 = .ok (.iaload, 1) := by decide +kernel
theorem dX8_air_85 : decode cX8_air 85 = .ok (.ireturn, 1) := by decide +kernel
theorem dX8_air_86 : decode cX8_air 86 = .ok (.aload_n 0, 1) := by decide +kernel
theorem dX8_air_87 : decode cX8_air 87 = .ok (.getfield 99, 3) := by decide +kernel
theorem dX8_air_90 : decode cX8_air 90 = .ok (.iload_n 1, 1) := by decide +kernel
theorem dX8_air_91 : decode cX8_air 91 = .ok (.iaload, 1) := by decide +kernel
theorem dX8_air_92 : decode cX8_air 92 = .ok (.ireturn, 1) := by decide +kernel
theorem dX8_air_93 : decode cX8_air 93 = .ok (.aload_n 0, 1) := by decide +kernel
theorem dX8_air_94 : decode cX8_air 94 = .ok (.getfield 102, 3) := by decide +kernel
theorem dX8_air_97 : decode cX8_air 97 = .ok (.iload_n 1, 1) := by decide +kernel
theorem dX8_air_98 : decode cX8_air 98 = .ok (.iaload, 1) := by decide +kernel
theorem dX8_air_99 : decode cX8_air 99 = .ok (.ireturn, 1) := by decide +kernel
theorem dX8_air_100 : decode cX8_air 100 = .ok (.aload_n 0, 1) := by decide +kernel
theorem dX8_air_101 : decode cX8_air 101 = .ok (.getfield 105, 3) := by decide +kernel
theorem dX8_air_104 : decode cX8_air 104 = .ok (.iload_n 1, 1) := by decide +kernel
theorem dX8_air_105 : decode cX8_air 105 = .ok (.iaload, 1) := by decide +kernel
theorem dX8_air_106 : decode cX8_air 106 = .ok (.ireturn, 1) := by decide +kernel
theorem dX8_air_107 : decode cX8_air 107 = .ok (.aload_n 0, 1) := by decide +kernel
theorem dX8_air_108 : decode cX8_air 108 = .ok (.getfield 111, 3) := by decide +kernel
theorem dX8_air_111 : decode cX8_air 111 = .ok (.iload_n 1, 1) := by decide +kernel
theorem dX8_air_112 : decode cX8_air 112 = .ok (.iaload, 1) := by decide +kernel
theorem dX8_air_113 : decode cX8_air 113 = .ok (.ireturn, 1) := by decide +kernel
theorem dX8_air_114 : decode cX8_air 114 = .ok (.aload_n 0, 1) := by decide +kernel
theorem dX8_air_115 : decode cX8_air 115 = .ok (.getfield 114, 3) := by decide +kernel
theorem dX8_air_118 : decode cX8_air 118 = .ok (.iload_n 1, 1) := by decide +kernel
theorem dX8_air_119 : decode cX8_air 119 = .ok (.iaload, 1) := by decide +kernel
theorem dX8_air_120 : decode cX8_air 120 = .ok (.ireturn, 1) := by decide +kernel
theorem dX8_air_121 : decode cX8_air 121 = .ok (.aload_n 0, 1) := by decide +kernel
theorem dX8_air_122 : decode cX8_air 122 = .ok (.getfield 93, 3) := by decide +kernel
theorem dX8_air_125 : decode cX8_air 125 = .ok (.iload_n 1, 1) := by decide +kernel
theorem dX8_air_126 : decode cX8_air 126 = .ok (.baload, 1) := by decide +kernel
theorem dX8_air_127 : decode cX8_air 127 = .ok (.ifCond .eq 12, 3) := by decide +kernel
theorem dX8_air_130 : decode cX8_air 130 = .ok (.aload_n 0, 1) := by decide +kernel
theorem dX8_air_131 : decode cX8_air 131 = .ok (.getfield 123, 3) := by decide +kernel
theorem dX8_air_134 : decode cX8_air 134 = .ok (.iload_n 1, 1) := by decide +kernel
theorem dX8_air_135 : decode cX8_air 135 = .ok (.iaload, 1) := by decide +kernel
theorem dX8_air_136 : decode cX8_air 136 = .ok (.goto 9, 3) := by decide +kernel
theorem dX8_air_139 : decode cX8_air 139 = .ok (.aload_n 0, 1) := by decide +kernel
theorem dX8_air_140 : decode cX8_air 140 = .ok (.getfield 117, 3) := by decide +kernel
theorem dX8_air_143 : decode cX8_air 143 = .ok (.iload_n 1, 1) := by decide +kernel
theorem dX8_air_144 : decode cX8_air 144 = .ok (.iaload, 1) := by decide +kernel
theorem dX8_air_145 : decode cX8_air 145 = .ok (.ireturn, 1) := by decide +kernel
theorem dX8_air_146 : decode cX8_air 146 = .ok (.aload_n 0, 1) := by decide +kernel
theorem dX8_air_147 : decode cX8_air 147 = .ok (.getfield 108, 3) := by decide +kernel
theorem dX8_air_150 : decode cX8_air 150 = .ok (.iload_n 1, 1) := by decide +kernel
theorem dX8_air_151 : decode cX8_air 151 = .ok (.iaload, 1) := by decide +kernel
theorem dX8_air_152 : decode cX8_air 152 = .ok (.ireturn, 1) := by decide +kernel
theorem dX8_air_153 : decode cX8_air 153 = .ok (.iconst (-1), 1) := by decide +kernel
theorem dX8_air_154 : decode cX8_air 154 = .ok (.ireturn, 1) := by decide +kernel
end
section
theorem dX8_isAct_0 : decode cX8_isAct 0 = .ok (.iload_n 1, 1) := by decide +kernel
theorem dX8_isAct_1 : decode cX8_isAct 1 = .ok (.iconst 1, 1) := by decide +kernel
theorem dX8_isAct_2 : decode cX8_isAct 2 = .ok (.if_icmp .lt 15, 3) := by decide +kernel
theorem dX8_isAct_5 : decode cX8_isAct 5 = .ok (.iload_n 1, 1) := by decide +kernel
theorem dX8_isAct_6 : decode cX8_isAct 6 = .ok (.aload_n 0, 1) := by decide +kernel
theorem dX8_isAct_7 : decode cX8_isAct 7 = .ok (.getfield 154, 3) := by decide +kernel
theorem dX8_isAct_10 : decode cX8_isAct 10 = .ok (.if_icmp .gt 7, 3) := by decide +kernel
theorem dX8_isAct_13 : decode cX8_isAct 13 = .ok (.iconst 1, 1) := by decide +kernel
theorem dX8_isAct_14 : decode cX8_isAct 14 = .ok (.goto 4, 3) := by decide +kernel
theorem dX8_isAct_17 : decode cX8_isAct 17 = .ok (.iconst 0, 1) := by decide +kernel
theorem dX8_isAct_18 : decode cX8_isAct 18 = .ok (.ireturn, 1) := by decide +kernel
theorem dX8_act_0 : decode cX8_act 0 = .ok (.aload_n 0, 1) := by decide +kernel
theorem dX8_act_1 : decode cX8_act 1 = .ok (.iload_n 1, 1) := by decide +kernel
theorem dX8_act_2 : decode cX8_act 2 = .ok (.invokevirtual 209, 3) := by decide +kernel
theorem dX8_act_5 : decode cX8_act 5 = .ok (.ifCond .ne 5, 3) := by decide +kernel
theorem dX8_act_8 : decode cX8_act 8 = .ok (.iconst (-1), 1) := by decide +kernel
theorem dX8_act_9 : decode cX8_act 9 = .ok (.ireturn, 1) := by decide +kernel
theorem dX8_act_10 : decode cX8_act 10 = .ok (.iload_n 2, 1) := by decide +kernel
theorem dX8_act_11 : decode cX8_act 11 = .ok (.tableswitch 90 0 6 #[41, 48, 55, 62, 69, 76, 83], 41) := by decide +kernel
theorem dX8_act_52 : decode cX8_act 52 = .ok (.aload_n 0, 1) := by decide +kernel
theorem dX8_act_53 : decode cX8_act 53 = .ok (.getfield 69, 3) := by decide +kernel
theorem dX8_act_56 : decode cX8_act 56 = .ok (.iload_n 1, 1) := by decide +kernel
theorem dX8_act_57 : decode cX8_act 57 = .ok (.iaload, 1) := by decide +kernel
theorem dX8_act_58 : decode cX8_act 58 = .ok (.ireturn, 1) := by decide +kernel
theorem dX8_act_59 : decode cX8_act 59 = .ok (.aload_n 0, 1) := by decide +kernel
theorem dX8_act_60 : decode cX8_act 60 = .ok (.getfield 72, 3) := by decide +kernel
theorem dX8_act_63 : decode cX8_act 63 = .ok (.iload_n 1, 1) := by decide +kernel
theorem dX8_act_64 : decode cX8_act 64 = .ok (.iaload, 1) := by decide +kernel
theorem dX8_act_65 : decode cX8_act 65 = .ok (.ireturn, 1) := by decide +kernel
theorem dX8_act_66 : decode cX8_act 66 = .ok (.aload_n 0, 1) := by decide +kernel
theorem dX8_act_67 : decode cX8_act 67 = .ok (.getfield 75, 3) := by decide +kernel
theorem dX8_act_70 : decode cX8_act 70 = .ok (.iload_n 1, 1) := by decide +kernel
theorem dX8_act_71 : decode cX8_act 71 = .ok (.iaload, 1) := by decide +kernel
theorem dX8_act_72 : decode cX8_act 72 = .ok (.ireturn, 1) := by decide +kernel
theorem dX8_act_73 : decode cX8_act 73 = .ok (.aload_n 0, 1) := by decide +kernel
theorem dX8_act_74 : decode cX8_act 74 = .ok (.getfield 78, 3) := by decide +kernel
theorem dX8_act_77 : decode cX8_act 77 = .ok (.iload_n 1, 1) := by decide +kernel
theorem dX8_act_78 : decode cX8_act 78 = .ok (.iaload, 1) := by decide +kernel
theorem dX8_act_79 : decode cX8_act 79 = .ok (.ireturn, 1) := by decide +kernel
theorem dX8_act_80 : decode cX8_act 80 = .ok (.aload_n 0, 1) := by decide +kernel
theorem dX8_act_81 : decode cX8_act 81 = .ok (.getfield 81, 3) := by decide +kernel
theorem dX8_act_84 : decode cX8_act 84 = .ok (.iload_n 1, 1) := by decide +kernel
theorem dX8_act_85 : decode cX8_act 85 = .ok (.iaload, 1) := by decide +kernel
theorem dX8_act_86 : decode cX8_act 86 = .ok (.ireturn, 1) := by decide +kernel
theorem dX8_act_87 : decode cX8_act 87 = .ok (.aload_n 0, 1) := by decide +kernel
theorem dX8_act_88 : decode cX8_act 88 = .ok (.getfield 84, 3) := by decide +kernel
theorem dX8_act_91 : decode cX8_act 91 = .ok (.iload_n 1, 1) := by decide +kernel
theorem dX8_act_92 : decode cX8_act 92 = .ok (.iaload, 1) := by decide +kernel
theorem dX8_act_93 : decode cX8_act 93 = .ok (.ireturn, 1) := by decide +kernel
theorem dX8_act_94 : decode cX8_act 94 = .ok (.aload_n 0, 1) := by decide +kernel
theorem dX8_act_95 : decode cX8_act 95 = .ok (.getfield 87, 3) := by decide +kernel
theorem dX8_act_98 : decode cX8_act 98 = .ok (.iload_n 1, 1) := by decide +kernel
theorem dX8_act_99 : decode cX8_act 99 = .ok (.iaload, 1) := by decide +kernel
theorem dX8_act_100 : decode cX8_act 100 = .ok (.ireturn, 1) := by decide +kernel
theorem dX8_act_101 : decode cX8_act 101 = .ok (.iconst (-1), 1) := by decide +kernel
theorem dX8_act_102 : decode cX8_act 102 = .ok (.ireturn, 1) := by decide +kernel
theorem dX8_value_0 : decode cX8_value 0 = .ok (.aload_n 0, 1) := by decide +kernel
theorem dX8_value_1 : decode cX8_value 1 = .ok (.iload_n 1, 1) := by decide +kernel
theorem dX8_value_2 : decode cX8_value 2 = .ok (.invokevirtual 209, 3) := by decide +kernel
theorem dX8_value_5 : decode cX8_value 5 = .ok (.ifCond .eq 12, 3) := by decide +kernel
theorem dX8_value_8 : decode cX8_value 8 = .ok (.aload_n 0, 1) := by decide +kernel
theorem dX8_value_9 : decode cX8_value 9 = .ok (.getfield 90, 3) := by decide +kernel
theorem dX8_value_12 : decode cX8_value 12 = .ok (.iload_n 1, 1) := by decide +kernel
theorem dX8_value_13 : decode cX8_value 13 = .ok (.laload, 1) := by decide +kernel
theorem dX8_value_14 : decode cX8_value 14 = .ok (.goto 4, 3) := by decide +kernel
theorem dX8_value_17 : decode cX8_value 17 = .ok (.lconst 0, 1) := by decide +kernel
theorem dX8_value_18 : decode cX8_value 18 = .ok (.lreturn, 1) := by decide +kernel
theorem dX8_table_0 : decode cX8_table 0 = .ok (.iload_n 1, 1) := by decide +kernel
theorem dX8_table_1 : decode cX8_table 1 = .ok (.ifCond .lt 21, 3) := by decide +kernel
theorem dX8_table_4 : decode cX8_table 4 = .ok (.iload_n 1, 1) := by decide +kernel
theorem dX8_table_5 : decode cX8_table 5 = .ok (.aload_n 0, 1) := by decide +kernel
theorem dX8_table_6 : decode cX8_table 6 = .ok (.getfield 133, 3) := by decide +kernel
theorem dX8_table_9 : decode cX8_table 9 = .ok (.if_icmp .ge 13, 3) := by decide +kernel
theorem dX8_table_12 : decode cX8_table 12 = .ok (.iload_n 2, 1) := by decide +kernel
theorem dX8_table_13 : decode cX8_table 13 = .ok (.ifCond .lt 9, 3) := by decide +kernel
theorem dX8_table_16 : decode cX8_table 16 = .ok (.iload_n 2, 1) := by decide +kernel
theorem dX8_table_17 : decode cX8_table 17 = .ok (.bipush 8, 2) := by decide +kernel
theorem dX8_table_19 : decode cX8_table 19 = .ok (.if_icmp .le 5, 3) := by decide +kernel
theorem dX8_table_22 : decode cX8_table 22 = .ok (.iconst (-1), 1) := by decide +kernel
theorem dX8_table_23 : decode cX8_table 23 = .ok (.ireturn, 1) := by decide +kernel
theorem dX8_table_24 : decode cX8_table 24 = .ok (.iload_n 2, 1) := by decide +kernel
theorem dX8_table_25 : decode cX8_table 25 = .ok (.bipush 7, 2) := by decide +kernel
theorem dX8_table_27 : decode cX8_table 27 = .ok (.if_icmp .ge 15, 3) := by decide +kernel
theorem dX8_table_30 : decode cX8_table 30 = .ok (.iload_n 2, 1) := by decide +kernel
theorem dX8_table_31 : decode cX8_table 31 = .ok (.aload_n 0, 1) := by decide +kernel
theorem dX8_table_32 : decode cX8_table 32 = .ok (.getfield 129, 3) := by decide +kernel
theorem dX8_table_35 : decode cX8_table 35 = .ok (.if_icmp .lt 7, 3) := by decide +kernel
theorem dX8_table_38 : decode cX8_table 38 = .ok (.iconst (-1), 1) := by decide +kernel
theorem dX8_table_39 : decode cX8_table 39 = .ok (.goto 14, 3) := by decide +kernel
theorem dX8_table_42 : decode cX8_table 42 = .ok (.aload_n 0, 1) := by decide +kernel
theorem dX8_table_43 : decode cX8_table 43 = .ok (.getfield 33, 3) := by decide +kernel
theorem dX8_table_46 : decode cX8_table 46 = .ok (.bipush 9, 2) := by decide +kernel
theorem dX8_table_48 : decode cX8_table 48 = .ok (.iload_n 1, 1) := by decide +kernel
theorem dX8_table_49 : decode cX8_table 49 = .ok (.imul, 1) := by decide +kernel
theorem dX8_table_50 : decode cX8_table 50 = .ok (.iload_n 2, 1) := by decide +kernel
theorem dX8_table_51 : decode cX8_table 51 = .ok (.iadd, 1) := by decide +kernel
theorem dX8_table_52 : decode cX8_table 52 = .ok (.iaload, 1) := by decide +kernel
theorem dX8_table_53 : decode cX8_table 53 = .ok (.ireturn, 1) := by decide +kernel
theorem dX8_about_0 : decode cX8_about 0 = .ok (.iload_n 1, 1) := by decide +kernel
theorem dX8_about_1 : decode cX8_about 1 = .ok (.tableswitch 69 0 5 #[39, 44, 49, 54, 59, 64], 39) := by decide +kernel
theorem dX8_about_40 : decode cX8_about 40 = .ok (.aload_n 0, 1) := by decide +kernel
theorem dX8_about_41 : decode cX8_about 41 = .ok (.getfield 129, 3) := by decide +kernel
theorem dX8_about_44 : decode cX8_about 44 = .ok (.ireturn, 1) := by decide +kernel
theorem dX8_about_45 : decode cX8_about 45 = .ok (.aload_n 0, 1) := by decide +kernel
theorem dX8_about_46 : decode cX8_about 46 = .ok (.getfield 133, 3) := by decide +kernel
theorem dX8_about_49 : decode cX8_about 49 = .ok (.ireturn, 1) := by decide +kernel
theorem dX8_about_50 : decode cX8_about 50 = .ok (.aload_n 0, 1) := by decide +kernel
theorem dX8_about_51 : decode cX8_about 51 = .ok (.getfield 154, 3) := by decide +kernel
theorem dX8_about_54 : decode cX8_about 54 = .ok (.ireturn, 1) := by decide +kernel
theorem dX8_about_55 : decode cX8_about 55 = .ok (.aload_n 0, 1) := by decide +kernel
theorem dX8_about_56 : decode cX8_about 56 = .ok (.getfield 140, 3) := by decide +kernel
theorem dX8_about_59 : decode cX8_about 59 = .ok (.ireturn, 1) := by decide +kernel
theorem dX8_about_60 : decode cX8_about 60 = .ok (.aload_n 0, 1) := by decide +kernel
theorem dX8_about_61 : decode cX8_about 61 = .ok (.getfield 157, 3) := by decide +kernel
theorem dX8_about_64 : decode cX8_about 64 = .ok (.ireturn, 1) := by decide +kernel
theorem dX8_about_65 : decode cX8_about 65 = .ok (.aload_n 0, 1) := by decide +kernel
theorem dX8_about_66 : decode cX8_about 66 = .ok (.getfield 143, 3) := by decide +kernel
theorem dX8_about_69 : decode cX8_about 69 = .ok (.ireturn, 1) := by decide +kernel
theorem dX8_about_70 : decode cX8_about 70 = .ok (.iconst (-1), 1) := by decide +kernel
theorem dX8_about_71 : decode cX8_about 71 = .ok (.ireturn, 1) := by decide +kernel
theorem dL_cell_0 : decode cL_cell 0 = .ok (.iload_n 1, 1) := by decide +kernel
theorem dL_cell_1 : decode cL_cell 1 = .ok (.aload_n 0, 1) := by decide +kernel
theorem dL_cell_2 : decode cL_cell 2 = .ok (.arraylength, 1) := by decide +kernel
theorem dL_cell_3 : decode cL_cell 3 = .ok (.if_icmp .ge 9, 3) := by decide +kernel
theorem dL_cell_6 : decode cL_cell 6 = .ok (.aload_n 0, 1) := by decide +kernel
theorem dL_cell_7 : decode cL_cell 7 = .ok (.iload_n 1, 1) := by decide +kernel
theorem dL_cell_8 : decode cL_cell 8 = .ok (.iaload, 1) := by decide +kernel
theorem dL_cell_9 : decode cL_cell 9 = .ok (.goto 4, 3) := by decide +kernel
theorem dL_cell_12 : decode cL_cell 12 = .ok (.iconst 0, 1) := by decide +kernel
theorem dL_cell_13 : decode cL_cell 13 = .ok (.ireturn, 1) := by decide +kernel
theorem dL_law_0 : decode cL_law 0 = .ok (.new 7, 3) := by decide +kernel
theorem dL_law_3 : decode cL_law 3 = .ok (.dup, 1) := by decide +kernel
theorem dL_law_4 : decode cL_law 4 = .ok (.aload_n 0, 1) := by decide +kernel
theorem dL_law_5 : decode cL_law 5 = .ok (.iconst 0, 1) := by decide +kernel
theorem dL_law_6 : decode cL_law 6 = .ok (.invokestatic 9, 3) := by decide +kernel
theorem dL_law_9 : decode cL_law 9 = .ok (.invokespecial 15, 3) := by decide +kernel
theorem dL_law_12 : decode cL_law 12 = .ok (.astore_n 1, 1) := by decide +kernel
theorem dL_law_13 : decode cL_law 13 = .ok (.new 18, 3) := by decide +kernel
theorem dL_law_16 : decode cL_law 16 = .ok (.dup, 1) := by decide +kernel
theorem dL_law_17 : decode cL_law 17 = .ok (.aload_n 0, 1) := by decide +kernel
theorem dL_law_18 : decode cL_law 18 = .ok (.iconst 0, 1) := by decide +kernel
theorem dL_law_19 : decode cL_law 19 = .ok (.invokestatic 9, 3) := by decide +kernel
theorem dL_law_22 : decode cL_law 22 = .ok (.invokespecial 20, 3) := by decide +kernel
theorem dL_law_25 : decode cL_law 25 = .ok (.astore_n 2, 1) := by decide +kernel
theorem dL_law_26 : decode cL_law 26 = .ok (.iconst 1, 1) := by decide +kernel
theorem dL_law_27 : decode cL_law 27 = .ok (.istore_n 3, 1) := by decide +kernel
theorem dL_law_28 : decode cL_law 28 = .ok (.iload_n 3, 1) := by decide +kernel
theorem dL_law_29 : decode cL_law 29 = .ok (.aload_n 0, 1) := by decide +kernel
theorem dL_law_30 : decode cL_law 30 = .ok (.arraylength, 1) := by decide +kernel
theorem dL_law_31 : decode cL_law 31 = .ok (.iconst 4, 1) := by decide +kernel
theorem dL_law_32 : decode cL_law 32 = .ok (.isub, 1) := by decide +kernel
theorem dL_law_33 : decode cL_law 33 = .ok (.if_icmp .gt 734, 3) := by decide +kernel
theorem dL_law_36 : decode cL_law 36 = .ok (.aload_n 0, 1) := by decide +kernel
theorem dL_law_37 : decode cL_law 37 = .ok (.iload_n 3, 1) := by decide +kernel
theorem dL_law_38 : decode cL_law 38 = .ok (.iaload, 1) := by decide +kernel
theorem dL_law_39 : decode cL_law 39 = .ok (.bipush 31, 2) := by decide +kernel
theorem dL_law_41 : decode cL_law 41 = .ok (.iand, 1) := by decide +kernel
theorem dL_law_42 : decode cL_law 42 = .ok (.tableswitch 719 0 20 #[98, 131, 164, 177, 200, 263, 286, 309, 332, 355, 378, 427, 460, 483, 516, 540, 573, 606, 639, 663, 696], 98) := by decide +kernel
theorem dL_law_140 : decode cL_law 140 = .ok (.aload_n 1, 1) := by decide +kernel
theorem dL_law_141 : decode cL_law 141 = .ok (.aload_n 0, 1) := by decide +kernel
theorem dL_law_142 : decode cL_law 142 = .ok (.iload_n 3, 1) := by decide +kernel
theorem dL_law_143 : decode cL_law 143 = .ok (.iconst 1, 1) := by decide +kernel
theorem dL_law_144 : decode cL_law 144 = .ok (.iadd, 1) := by decide +kernel
theorem dL_law_145 : decode cL_law 145 = .ok (.iaload, 1) := by decide +kernel
theorem dL_law_146 : decode cL_law 146 = .ok (.aload_n 0, 1) := by decide +kernel
theorem dL_law_147 : decode cL_law 147 = .ok (.iload_n 3, 1) := by decide +kernel
theorem dL_law_148 : decode cL_law 148 = .ok (.iconst 2, 1) := by decide +kernel
theorem dL_law_149 : decode cL_law 149 = .ok (.iadd, 1) := by decide +kernel
theorem dL_law_150 : decode cL_law 150 = .ok (.iaload, 1) := by decide +kernel
theorem dL_law_151 : decode cL_law 151 = .ok (.invokevirtual 21, 3) := by decide +kernel
theorem dL_law_154 : decode cL_law 154 = .ok (.aload_n 2, 1) := by decide +kernel
theorem dL_law_155 : decode cL_law 155 = .ok (.aload_n 0, 1) := by decide +kernel
theorem dL_law_156 : decode cL_law 156 = .ok (.iload_n 3, 1) := by decide +kernel
theorem dL_law_157 : decode cL_law 157 = .ok (.iconst 1, 1) := by decide +kernel
theorem dL_law_158 : decode cL_law 158 = .ok (.iadd, 1) := by decide +kernel
theorem dL_law_159 : decode cL_law 159 = .ok (.iaload, 1) := by decide +kernel
theorem dL_law_160 : decode cL_law 160 = .ok (.aload_n 0, 1) := by decide +kernel
theorem dL_law_161 : decode cL_law 161 = .ok (.iload_n 3, 1) := by decide +kernel
theorem dL_law_162 : decode cL_law 162 = .ok (.iconst 2, 1) := by decide +kernel
theorem dL_law_163 : decode cL_law 163 = .ok (.iadd, 1) := by decide +kernel
theorem dL_law_164 : decode cL_law 164 = .ok (.iaload, 1) := by decide +kernel
theorem dL_law_165 : decode cL_law 165 = .ok (.invokevirtual 25, 3) := by decide +kernel
theorem dL_law_168 : decode cL_law 168 = .ok (.if_icmp .eq 593, 3) := by decide +kernel
theorem dL_law_171 : decode cL_law 171 = .ok (.iconst 0, 1) := by decide +kernel
theorem dL_law_172 : decode cL_law 172 = .ok (.ireturn, 1) := by decide +kernel
theorem dL_law_173 : decode cL_law 173 = .ok (.aload_n 1, 1) := by decide +kernel
theorem dL_law_174 : decode cL_law 174 = .ok (.aload_n 0, 1) := by decide +kernel
theorem dL_law_175 : decode cL_law 175 = .ok (.iload_n 3, 1) := by decide +kernel
theorem dL_law_176 : decode cL_law 176 = .ok (.iconst 1, 1) := by decide +kernel
theorem dL_law_177 : decode cL_law 177 = .ok (.iadd, 1) := by decide +kernel
theorem dL_law_178 : decode cL_law 178 = .ok (.iaload, 1) := by decide +kernel
theorem dL_law_179 : decode cL_law 179 = .ok (.aload_n 0, 1) := by decide +kernel
theorem dL_law_180 : decode cL_law 180 = .ok (.iload_n 3, 1) := by decide +kernel
theorem dL_law_181 : decode cL_law 181 = .ok (.iconst 2, 1) := by decide +kernel
theorem dL_law_182 : decode cL_law 182 = .ok (.iadd, 1) := by decide +kernel
theorem dL_law_183 : decode cL_law 183 = .ok (.iaload, 1) := by decide +kernel
theorem dL_law_184 : decode cL_law 184 = .ok (.invokevirtual 26, 3) := by decide +kernel
theorem dL_law_187 : decode cL_law 187 = .ok (.aload_n 2, 1) := by decide +kernel
theorem dL_law_188 : decode cL_law 188 = .ok (.aload_n 0, 1) := by decide +kernel
theorem dL_law_189 : decode cL_law 189 = .ok (.iload_n 3, 1) := by decide +kernel
theorem dL_law_190 : decode cL_law 190 = .ok (.iconst 1, 1) := by decide +kernel
theorem dL_law_191 : decode cL_law 191 = .ok (.iadd, 1) := by decide +kernel
theorem dL_law_192 : decode cL_law 192 = .ok (.iaload, 1) := by decide +kernel
theorem dL_law_193 : decode cL_law 193 = .ok (.aload_n 0, 1) := by decide +kernel
theorem dL_law_194 : decode cL_law 194 = .ok (.iload_n 3, 1) := by decide +kernel
theorem dL_law_195 : decode cL_law 195 = .ok (.iconst 2, 1) := by decide +kernel
theorem dL_law_196 : decode cL_law 196 = .ok (.iadd, 1) := by decide +kernel
theorem dL_law_197 : decode cL_law 197 = .ok (.iaload, 1) := by decide +kernel
theorem dL_law_198 : decode cL_law 198 = .ok (.invokevirtual 30, 3) := by decide +kernel
theorem dL_law_201 : decode cL_law 201 = .ok (.if_icmp .eq 560, 3) := by decide +kernel
theorem dL_law_204 : decode cL_law 204 = .ok (.iconst 0, 1) := by decide +kernel
theorem dL_law_205 : decode cL_law 205 = .ok (.ireturn, 1) := by decide +kernel
theorem dL_law_206 : decode cL_law 206 = .ok (.aload_n 1, 1) := by decide +kernel
theorem dL_law_207 : decode cL_law 207 = .ok (.invokevirtual 31, 3) := by decide +kernel
theorem dL_law_210 : decode cL_law 210 = .ok (.aload_n 2, 1) := by decide +kernel
theorem dL_law_211 : decode cL_law 211 = .ok (.invokevirtual 35, 3) := by decide +kernel
theorem dL_law_214 : decode cL_law 214 = .ok (.if_icmp .eq 547, 3) := by decide +kernel
theorem dL_law_217 : decode cL_law 217 = .ok (.iconst 0, 1) := by decide +kernel
theorem dL_law_218 : decode cL_law 218 = .ok (.ireturn, 1) := by decide +kernel
theorem dL_law_219 : decode cL_law 219 = .ok (.aload_n 1, 1) := by decide +kernel
theorem dL_law_220 : decode cL_law 220 = .ok (.aload_n 0, 1) := by decide +kernel
theorem dL_law_221 : decode cL_law 221 = .ok (.iload_n 3, 1) := by decide +kernel
theorem dL_law_222 : decode cL_law 222 = .ok (.iconst 1, 1) := by decide +kernel
theorem dL_law_223 : decode cL_law 223 = .ok (.iadd, 1) := by decide +kernel
theorem dL_law_224 : decode cL_law 224 = .ok (.iaload, 1) := by decide +kernel
theorem dL_law_225 : decode cL_law 225 = .ok (.invokevirtual 36, 3) := by decide +kernel
theorem dL_law_228 : decode cL_law 228 = .ok (.aload_n 2, 1) := by decide +kernel
theorem dL_law_229 : decode cL_law 229 = .ok (.aload_n 0, 1) := by decide +kernel
theorem dL_law_230 : decode cL_law 230 = .ok (.iload_n 3, 1) := by decide +kernel
theorem dL_law_231 : decode cL_law 231 = .ok (.iconst 1, 1) := by decide +kernel
theorem dL_law_232 : decode cL_law 232 = .ok (.iadd, 1) := by decide +kernel
theorem dL_law_233 : decode cL_law 233 = .ok (.iaload, 1) := by decide +kernel
theorem dL_law_234 : decode cL_law 234 = .ok (.invokevirtual 40, 3) := by decide +kernel
theorem dL_law_237 : decode cL_law 237 = .ok (.if_icmp .eq 524, 3) := by decide +kernel
theorem dL_law_240 : decode cL_law 240 = .ok (.iconst 0, 1) := by decide +kernel
theorem dL_law_241 : decode cL_law 241 = .ok (.ireturn, 1) := by decide +kernel
theorem dL_law_242 : decode cL_law 242 = .ok (.aload_n 1, 1) := by decide +kernel
theorem dL_law_243 : decode cL_law 243 = .ok (.aload_n 0, 1) := by decide +kernel
theorem dL_law_244 : decode cL_law 244 = .ok (.iload_n 3, 1) := by decide +kernel
theorem dL_law_245 : decode cL_law 245 = .ok (.iconst 1, 1) := by decide +kernel
theorem dL_law_246 : decode cL_law 246 = .ok (.iadd, 1) := by decide +kernel
theorem dL_law_247 : decode cL_law 247 = .ok (.iaload, 1) := by decide +kernel
theorem dL_law_248 : decode cL_law 248 = .ok (.aload_n 0, 1) := by decide +kernel
theorem dL_law_249 : decode cL_law 249 = .ok (.iload_n 3, 1) := by decide +kernel
theorem dL_law_250 : decode cL_law 250 = .ok (.iconst 2, 1) := by decide +kernel
theorem dL_law_251 : decode cL_law 251 = .ok (.iadd, 1) := by decide +kernel
theorem dL_law_252 : decode cL_law 252 = .ok (.iaload, 1) := by decide +kernel
theorem dL_law_253 : decode cL_law 253 = .ok (.i2l, 1) := by decide +kernel
theorem dL_law_254 : decode cL_law 254 = .ok (.bipush 32, 2) := by decide +kernel
theorem dL_law_256 : decode cL_law 256 = .ok (.lshl, 1) := by decide +kernel
theorem dL_law_257 : decode cL_law 257 = .ok (.aload_n 0, 1) := by decide +kernel
theorem dL_law_258 : decode cL_law 258 = .ok (.iload_n 3, 1) := by decide +kernel
theorem dL_law_259 : decode cL_law 259 = .ok (.iconst 3, 1) := by decide +kernel
theorem dL_law_260 : decode cL_law 260 = .ok (.iadd, 1) := by decide +kernel
theorem dL_law_261 : decode cL_law 261 = .ok (.iaload, 1) := by decide +kernel
theorem dL_law_262 : decode cL_law 262 = .ok (.i2l, 1) := by decide +kernel
theorem dL_law_263 : decode cL_law 263 = .ok (.ldc2_w 41, 3) := by decide +kernel
theorem dL_law_266 : decode cL_law 266 = .ok (.land, 1) := by decide +kernel
theorem dL_law_267 : decode cL_law 267 = .ok (.lor, 1) := by decide +kernel
theorem dL_law_268 : decode cL_law 268 = .ok (.invokevirtual 43, 3) := by decide +kernel
theorem dL_law_271 : decode cL_law 271 = .ok (.aload_n 2, 1) := by decide +kernel
theorem dL_law_272 : decode cL_law 272 = .ok (.aload_n 0, 1) := by decide +kernel
theorem dL_law_273 : decode cL_law 273 = .ok (.iload_n 3, 1) := by decide +kernel
theorem dL_law_274 : decode cL_law 274 = .ok (.iconst 1, 1) := by decide +kernel
theorem dL_law_275 : decode cL_law 275 = .ok (.iadd, 1) := by decide +kernel
theorem dL_law_276 : decode cL_law 276 = .ok (.iaload, 1) := by decide +kernel
theorem dL_law_277 : decode cL_law 277 = .ok (.aload_n 0, 1) := by decide +kernel
theorem dL_law_278 : decode cL_law 278 = .ok (.iload_n 3, 1) := by decide +kernel
theorem dL_law_279 : decode cL_law 279 = .ok (.iconst 2, 1) := by decide +kernel
theorem dL_law_280 : decode cL_law 280 = .ok (.iadd, 1) := by decide +kernel
theorem dL_law_281 : decode cL_law 281 = .ok (.iaload, 1) := by decide +kernel
theorem dL_law_282 : decode cL_law 282 = .ok (.i2l, 1) := by decide +kernel
theorem dL_law_283 : decode cL_law 283 = .ok (.bipush 32, 2) := by decide +kernel
theorem dL_law_285 : decode cL_law 285 = .ok (.lshl, 1) := by decide +kernel
theorem dL_law_286 : decode cL_law 286 = .ok (.aload_n 0, 1) := by decide +kernel
theorem dL_law_287 : decode cL_law 287 = .ok (.iload_n 3, 1) := by decide +kernel
theorem dL_law_288 : decode cL_law 288 = .ok (.iconst 3, 1) := by decide +kernel
theorem dL_law_289 : decode cL_law 289 = .ok (.iadd, 1) := by decide +kernel
theorem dL_law_290 : decode cL_law 290 = .ok (.iaload, 1) := by decide +kernel
theorem dL_law_291 : decode cL_law 291 = .ok (.i2l, 1) := by decide +kernel
theorem dL_law_292 : decode cL_law 292 = .ok (.ldc2_w 41, 3) := by decide +kernel
theorem dL_law_295 : decode cL_law 295 = .ok (.land, 1) := by decide +kernel
theorem dL_law_296 : decode cL_law 296 = .ok (.lor, 1) := by decide +kernel
theorem dL_law_297 : decode cL_law 297 = .ok (.invokevirtual 47, 3) := by decide +kernel
theorem dL_law_300 : decode cL_law 300 = .ok (.if_icmp .eq 461, 3) := by decide +kernel
theorem dL_law_303 : decode cL_law 303 = .ok (.iconst 0, 1) := by decide +kernel
theorem dL_law_304 : decode cL_law 304 = .ok (.ireturn, 1) := by decide +kernel
theorem dL_law_305 : decode cL_law 305 = .ok (.aload_n 1, 1) := by decide +kernel
theorem dL_law_306 : decode cL_law 306 = .ok (.aload_n 0, 1) := by decide +kernel
theorem dL_law_307 : decode cL_law 307 = .ok (.iload_n 3, 1) := by decide +kernel
theorem dL_law_308 : decode cL_law 308 = .ok (.iconst 1, 1) := by decide +kernel
theorem dL_law_309 : decode cL_law 309 = .ok (.iadd, 1) := by decide +kernel
theorem dL_law_310 : decode cL_law 310 = .ok (.iaload, 1) := by decide +kernel
theorem dL_law_311 : decode cL_law 311 = .ok (.invokevirtual 48, 3) := by decide +kernel
theorem dL_law_314 : decode cL_law 314 = .ok (.aload_n 2, 1) := by decide +kernel
theorem dL_law_315 : decode cL_law 315 = .ok (.aload_n 0, 1) := by decide +kernel
theorem dL_law_316 : decode cL_law 316 = .ok (.iload_n 3, 1) := by decide +kernel
theorem dL_law_317 : decode cL_law 317 = .ok (.iconst 1, 1) := by decide +kernel
theorem dL_law_318 : decode cL_law 318 = .ok (.iadd, 1) := by decide +kernel
theorem dL_law_319 : decode cL_law 319 = .ok (.iaload, 1) := by decide +kernel
theorem dL_law_320 : decode cL_law 320 = .ok (.invokevirtual 51, 3) := by decide +kernel
theorem dL_law_323 : decode cL_law 323 = .ok (.if_icmp .eq 438, 3) := by decide +kernel
theorem dL_law_326 : decode cL_law 326 = .ok (.iconst 0, 1) := by decide +kernel
theorem dL_law_327 : decode cL_law 327 = .ok (.ireturn, 1) := by decide +kernel
theorem dL_law_328 : decode cL_law 328 = .ok (.aload_n 1, 1) := by decide +kernel
theorem dL_law_329 : decode cL_law 329 = .ok (.aload_n 0, 1) := by decide +kernel
theorem dL_law_330 : decode cL_law 330 = .ok (.iload_n 3, 1) := by decide +kernel
theorem dL_law_331 : decode cL_law 331 = .ok (.iconst 1, 1) := by decide +kernel
theorem dL_law_332 : decode cL_law 332 = .ok (.iadd, 1) := by decide +kernel
theorem dL_law_333 : decode cL_law 333 = .ok (.iaload, 1) := by decide +kernel
theorem dL_law_334 : decode cL_law 334 = .ok (.invokevirtual 52, 3) := by decide +kernel
theorem dL_law_337 : decode cL_law 337 = .ok (.aload_n 2, 1) := by decide +kernel
theorem dL_law_338 : decode cL_law 338 = .ok (.aload_n 0, 1) := by decide +kernel
theorem dL_law_339 : decode cL_law 339 = .ok (.iload_n 3, 1) := by decide +kernel
theorem dL_law_340 : decode cL_law 340 = .ok (.iconst 1, 1) := by decide +kernel
theorem dL_law_341 : decode cL_law 341 = .ok (.iadd, 1) := by decide +kernel
theorem dL_law_342 : decode cL_law 342 = .ok (.iaload, 1) := by decide +kernel
theorem dL_law_343 : decode cL_law 343 = .ok (.invokevirtual 56, 3) := by decide +kernel
theorem dL_law_346 : decode cL_law 346 = .ok (.if_icmp .eq 415, 3) := by decide +kernel
theorem dL_law_349 : decode cL_law 349 = .ok (.iconst 0, 1) := by decide +kernel
theorem dL_law_350 : decode cL_law 350 = .ok (.ireturn, 1) := by decide +kernel
theorem dL_law_351 : decode cL_law 351 = .ok (.aload_n 1, 1) := by decide +kernel
theorem dL_law_352 : decode cL_law 352 = .ok (.aload_n 0, 1) := by decide +kernel
theorem dL_law_353 : decode cL_law 353 = .ok (.iload_n 3, 1) := by decide +kernel
theorem dL_law_354 : decode cL_law 354 = .ok (.iconst 1, 1) := by decide +kernel
theorem dL_law_355 : decode cL_law 355 = .ok (.iadd, 1) := by decide +kernel
theorem dL_law_356 : decode cL_law 356 = .ok (.iaload, 1) := by decide +kernel
theorem dL_law_357 : decode cL_law 357 = .ok (.invokevirtual 57, 3) := by decide +kernel
theorem dL_law_360 : decode cL_law 360 = .ok (.aload_n 2, 1) := by decide +kernel
theorem dL_law_361 : decode cL_law 361 = .ok (.aload_n 0, 1) := by decide +kernel
theorem dL_law_362 : decode cL_law 362 = .ok (.iload_n 3, 1) := by decide +kernel
theorem dL_law_363 : decode cL_law 363 = .ok (.iconst 1, 1) := by decide +kernel
theorem dL_law_364 : decode cL_law 364 = .ok (.iadd, 1) := by decide +kernel
theorem dL_law_365 : decode cL_law 365 = .ok (.iaload, 1) := by decide +kernel
theorem dL_law_366 : decode cL_law 366 = .ok (.invokevirtual 60, 3) := by decide +kernel
theorem dL_law_369 : decode cL_law 369 = .ok (.if_icmp .eq 392, 3) := by decide +kernel
theorem dL_law_372 : decode cL_law 372 = .ok (.iconst 0, 1) := by decide +kernel
theorem dL_law_373 : decode cL_law 373 = .ok (.ireturn, 1) := by decide +kernel
theorem dL_law_374 : decode cL_law 374 = .ok (.aload_n 1, 1) := by decide +kernel
theorem dL_law_375 : decode cL_law 375 = .ok (.aload_n 0, 1) := by decide +kernel
theorem dL_law_376 : decode cL_law 376 = .ok (.iload_n 3, 1) := by decide +kernel
theorem dL_law_377 : decode cL_law 377 = .ok (.iconst 1, 1) := by decide +kernel
theorem dL_law_378 : decode cL_law 378 = .ok (.iadd, 1) := by decide +kernel
theorem dL_law_379 : decode cL_law 379 = .ok (.iaload, 1) := by decide +kernel
theorem dL_law_380 : decode cL_law 380 = .ok (.invokevirtual 61, 3) := by decide +kernel
theorem dL_law_383 : decode cL_law 383 = .ok (.aload_n 2, 1) := by decide +kernel
theorem dL_law_384 : decode cL_law 384 = .ok (.aload_n 0, 1) := by decide +kernel
theorem dL_law_385 : decode cL_law 385 = .ok (.iload_n 3, 1) := by decide +kernel
theorem dL_law_386 : decode cL_law 386 = .ok (.iconst 1, 1) := by decide +kernel
theorem dL_law_387 : decode cL_law 387 = .ok (.iadd, 1) := by decide +kernel
theorem dL_law_388 : decode cL_law 388 = .ok (.iaload, 1) := by decide +kernel
theorem dL_law_389 : decode cL_law 389 = .ok (.invokevirtual 64, 3) := by decide +kernel
theorem dL_law_392 : decode cL_law 392 = .ok (.if_icmp .eq 369, 3) := by decide +kernel
theorem dL_law_395 : decode cL_law 395 = .ok (.iconst 0, 1) := by decide +kernel
theorem dL_law_396 : decode cL_law 396 = .ok (.ireturn, 1) := by decide +kernel
theorem dL_law_397 : decode cL_law 397 = .ok (.aload_n 1, 1) := by decide +kernel
theorem dL_law_398 : decode cL_law 398 = .ok (.aload_n 0, 1) := by decide +kernel
theorem dL_law_399 : decode cL_law 399 = .ok (.iload_n 3, 1) := by decide +kernel
theorem dL_law_400 : decode cL_law 400 = .ok (.iconst 1, 1) := by decide +kernel
theorem dL_law_401 : decode cL_law 401 = .ok (.iadd, 1) := by decide +kernel
theorem dL_law_402 : decode cL_law 402 = .ok (.iaload, 1) := by decide +kernel
theorem dL_law_403 : decode cL_law 403 = .ok (.invokevirtual 65, 3) := by decide +kernel
theorem dL_law_406 : decode cL_law 406 = .ok (.aload_n 2, 1) := by decide +kernel
theorem dL_law_407 : decode cL_law 407 = .ok (.aload_n 0, 1) := by decide +kernel
theorem dL_law_408 : decode cL_law 408 = .ok (.iload_n 3, 1) := by decide +kernel
theorem dL_law_409 : decode cL_law 409 = .ok (.iconst 1, 1) := by decide +kernel
theorem dL_law_410 : decode cL_law 410 = .ok (.iadd, 1) := by decide +kernel
theorem dL_law_411 : decode cL_law 411 = .ok (.iaload, 1) := by decide +kernel
theorem dL_law_412 : decode cL_law 412 = .ok (.invokevirtual 68, 3) := by decide +kernel
theorem dL_law_415 : decode cL_law 415 = .ok (.if_icmp .eq 346, 3) := by decide +kernel
theorem dL_law_418 : decode cL_law 418 = .ok (.iconst 0, 1) := by decide +kernel
theorem dL_law_419 : decode cL_law 419 = .ok (.ireturn, 1) := by decide +kernel
theorem dL_law_420 : decode cL_law 420 = .ok (.aload_n 1, 1) := by decide +kernel
theorem dL_law_421 : decode cL_law 421 = .ok (.aload_n 0, 1) := by decide +kernel
theorem dL_law_422 : decode cL_law 422 = .ok (.iload_n 3, 1) := by decide +kernel
theorem dL_law_423 : decode cL_law 423 = .ok (.iconst 1, 1) := by decide +kernel
theorem dL_law_424 : decode cL_law 424 = .ok (.iadd, 1) := by decide +kernel
theorem dL_law_425 : decode cL_law 425 = .ok (.iaload, 1) := by decide +kernel
theorem dL_law_426 : decode cL_law 426 = .ok (.aload_n 0, 1) := by decide +kernel
theorem dL_law_427 : decode cL_law 427 = .ok (.iload_n 3, 1) := by decide +kernel
theorem dL_law_428 : decode cL_law 428 = .ok (.iconst 2, 1) := by decide +kernel
theorem dL_law_429 : decode cL_law 429 = .ok (.iadd, 1) := by decide +kernel
theorem dL_law_430 : decode cL_law 430 = .ok (.iaload, 1) := by decide +kernel
theorem dL_law_431 : decode cL_law 431 = .ok (.ifCond .eq 7, 3) := by decide +kernel
theorem dL_law_434 : decode cL_law 434 = .ok (.iconst 1, 1) := by decide +kernel
theorem dL_law_435 : decode cL_law 435 = .ok (.goto 4, 3) := by decide +kernel
theorem dL_law_438 : decode cL_law 438 = .ok (.iconst 0, 1) := by decide +kernel
theorem dL_law_439 : decode cL_law 439 = .ok (.invokevirtual 69, 3) := by decide +kernel
theorem dL_law_442 : decode cL_law 442 = .ok (.aload_n 2, 1) := by decide +kernel
theorem dL_law_443 : decode cL_law 443 = .ok (.aload_n 0, 1) := by decide +kernel
theorem dL_law_444 : decode cL_law 444 = .ok (.iload_n 3, 1) := by decide +kernel
theorem dL_law_445 : decode cL_law 445 = .ok (.iconst 1, 1) := by decide +kernel
theorem dL_law_446 : decode cL_law 446 = .ok (.iadd, 1) := by decide +kernel
theorem dL_law_447 : decode cL_law 447 = .ok (.iaload, 1) := by decide +kernel
theorem dL_law_448 : decode cL_law 448 = .ok (.aload_n 0, 1) := by decide +kernel
theorem dL_law_449 : decode cL_law 449 = .ok (.iload_n 3, 1) := by decide +kernel
theorem dL_law_450 : decode cL_law 450 = .ok (.iconst 2, 1) := by decide +kernel
theorem dL_law_451 : decode cL_law 451 = .ok (.iadd, 1) := by decide +kernel
theorem dL_law_452 : decode cL_law 452 = .ok (.iaload, 1) := by decide +kernel
theorem dL_law_453 : decode cL_law 453 = .ok (.ifCond .eq 7, 3) := by decide +kernel
theorem dL_law_456 : decode cL_law 456 = .ok (.iconst 1, 1) := by decide +kernel
theorem dL_law_457 : decode cL_law 457 = .ok (.goto 4, 3) := by decide +kernel
theorem dL_law_460 : decode cL_law 460 = .ok (.iconst 0, 1) := by decide +kernel
theorem dL_law_461 : decode cL_law 461 = .ok (.invokevirtual 73, 3) := by decide +kernel
theorem dL_law_464 : decode cL_law 464 = .ok (.if_icmp .eq 297, 3) := by decide +kernel
theorem dL_law_467 : decode cL_law 467 = .ok (.iconst 0, 1) := by decide +kernel
theorem dL_law_468 : decode cL_law 468 = .ok (.ireturn, 1) := by decide +kernel
theorem dL_law_469 : decode cL_law 469 = .ok (.aload_n 1, 1) := by decide +kernel
theorem dL_law_470 : decode cL_law 470 = .ok (.aload_n 0, 1) := by decide +kernel
theorem dL_law_471 : decode cL_law 471 = .ok (.iload_n 3, 1) := by decide +kernel
theorem dL_law_472 : decode cL_law 472 = .ok (.iconst 1, 1) := by decide +kernel
theorem dL_law_473 : decode cL_law 473 = .ok (.iadd, 1) := by decide +kernel
theorem dL_law_474 : decode cL_law 474 = .ok (.iaload, 1) := by decide +kernel
theorem dL_law_475 : decode cL_law 475 = .ok (.aload_n 0, 1) := by decide +kernel
theorem dL_law_476 : decode cL_law 476 = .ok (.iload_n 3, 1) := by decide +kernel
theorem dL_law_477 : decode cL_law 477 = .ok (.iconst 2, 1) := by decide +kernel
theorem dL_law_478 : decode cL_law 478 = .ok (.iadd, 1) := by decide +kernel
theorem dL_law_479 : decode cL_law 479 = .ok (.iaload, 1) := by decide +kernel
theorem dL_law_480 : decode cL_law 480 = .ok (.invokevirtual 74, 3) := by decide +kernel
theorem dL_law_483 : decode cL_law 483 = .ok (.aload_n 2, 1) := by decide +kernel
theorem dL_law_484 : decode cL_law 484 = .ok (.aload_n 0, 1) := by decide +kernel
theorem dL_law_485 : decode cL_law 485 = .ok (.iload_n 3, 1) := by decide +kernel
theorem dL_law_486 : decode cL_law 486 = .ok (.iconst 1, 1) := by decide +kernel
theorem dL_law_487 : decode cL_law 487 = .ok (.iadd, 1) := by decide +kernel
theorem dL_law_488 : decode cL_law 488 = .ok (.iaload, 1) := by decide +kernel
theorem dL_law_489 : decode cL_law 489 = .ok (.aload_n 0, 1) := by decide +kernel
theorem dL_law_490 : decode cL_law 490 = .ok (.iload_n 3, 1) := by decide +kernel
theorem dL_law_491 : decode cL_law 491 = .ok (.iconst 2, 1) := by decide +kernel
theorem dL_law_492 : decode cL_law 492 = .ok (.iadd, 1) := by decide +kernel
theorem dL_law_493 : decode cL_law 493 = .ok (.iaload, 1) := by decide +kernel
theorem dL_law_494 : decode cL_law 494 = .ok (.invokevirtual 77, 3) := by decide +kernel
theorem dL_law_497 : decode cL_law 497 = .ok (.if_icmp .eq 264, 3) := by decide +kernel
theorem dL_law_500 : decode cL_law 500 = .ok (.iconst 0, 1) := by decide +kernel
theorem dL_law_501 : decode cL_law 501 = .ok (.ireturn, 1) := by decide +kernel
theorem dL_law_502 : decode cL_law 502 = .ok (.aload_n 1, 1) := by decide +kernel
theorem dL_law_503 : decode cL_law 503 = .ok (.aload_n 0, 1) := by decide +kernel
theorem dL_law_504 : decode cL_law 504 = .ok (.iload_n 3, 1) := by decide +kernel
theorem dL_law_505 : decode cL_law 505 = .ok (.iconst 1, 1) := by decide +kernel
theorem dL_law_506 : decode cL_law 506 = .ok (.iadd, 1) := by decide +kernel
theorem dL_law_507 : decode cL_law 507 = .ok (.iaload, 1) := by decide +kernel
theorem dL_law_508 : decode cL_law 508 = .ok (.invokevirtual 78, 3) := by decide +kernel
theorem dL_law_511 : decode cL_law 511 = .ok (.aload_n 2, 1) := by decide +kernel
theorem dL_law_512 : decode cL_law 512 = .ok (.aload_n 0, 1) := by decide +kernel
theorem dL_law_513 : decode cL_law 513 = .ok (.iload_n 3, 1) := by decide +kernel
theorem dL_law_514 : decode cL_law 514 = .ok (.iconst 1, 1) := by decide +kernel
theorem dL_law_515 : decode cL_law 515 = .ok (.iadd, 1) := by decide +kernel
theorem dL_law_516 : decode cL_law 516 = .ok (.iaload, 1) := by decide +kernel
theorem dL_law_517 : decode cL_law 517 = .ok (.invokevirtual 81, 3) := by decide +kernel
theorem dL_law_520 : decode cL_law 520 = .ok (.if_icmp .eq 241, 3) := by decide +kernel
theorem dL_law_523 : decode cL_law 523 = .ok (.iconst 0, 1) := by decide +kernel
theorem dL_law_524 : decode cL_law 524 = .ok (.ireturn, 1) := by decide +kernel
theorem dL_law_525 : decode cL_law 525 = .ok (.aload_n 1, 1) := by decide +kernel
theorem dL_law_526 : decode cL_law 526 = .ok (.aload_n 0, 1) := by decide +kernel
theorem dL_law_527 : decode cL_law 527 = .ok (.iload_n 3, 1) := by decide +kernel
theorem dL_law_528 : decode cL_law 528 = .ok (.iconst 1, 1) := by decide +kernel
theorem dL_law_529 : decode cL_law 529 = .ok (.iadd, 1) := by decide +kernel
theorem dL_law_530 : decode cL_law 530 = .ok (.iaload, 1) := by decide +kernel
theorem dL_law_531 : decode cL_law 531 = .ok (.aload_n 0, 1) := by decide +kernel
theorem dL_law_532 : decode cL_law 532 = .ok (.iload_n 3, 1) := by decide +kernel
theorem dL_law_533 : decode cL_law 533 = .ok (.iconst 2, 1) := by decide +kernel
theorem dL_law_534 : decode cL_law 534 = .ok (.iadd, 1) := by decide +kernel
theorem dL_law_535 : decode cL_law 535 = .ok (.iaload, 1) := by decide +kernel
theorem dL_law_536 : decode cL_law 536 = .ok (.invokevirtual 82, 3) := by decide +kernel
theorem dL_law_539 : decode cL_law 539 = .ok (.aload_n 2, 1) := by decide +kernel
theorem dL_law_540 : decode cL_law 540 = .ok (.aload_n 0, 1) := by decide +kernel
theorem dL_law_541 : decode cL_law 541 = .ok (.iload_n 3, 1) := by decide +kernel
theorem dL_law_542 : decode cL_law 542 = .ok (.iconst 1, 1) := by decide +kernel
theorem dL_law_543 : decode cL_law 543 = .ok (.iadd, 1) := by decide +kernel
theorem dL_law_544 : decode cL_law 544 = .ok (.iaload, 1) := by decide +kernel
theorem dL_law_545 : decode cL_law 545 = .ok (.aload_n 0, 1) := by decide +kernel
theorem dL_law_546 : decode cL_law 546 = .ok (.iload_n 3, 1) := by decide +kernel
theorem dL_law_547 : decode cL_law 547 = .ok (.iconst 2, 1) := by decide +kernel
theorem dL_law_548 : decode cL_law 548 = .ok (.iadd, 1) := by decide +kernel
theorem dL_law_549 : decode cL_law 549 = .ok (.iaload, 1) := by decide +kernel
theorem dL_law_550 : decode cL_law 550 = .ok (.invokevirtual 85, 3) := by decide +kernel
theorem dL_law_553 : decode cL_law 553 = .ok (.if_icmp .eq 208, 3) := by decide +kernel
theorem dL_law_556 : decode cL_law 556 = .ok (.iconst 0, 1) := by decide +kernel
theorem dL_law_557 : decode cL_law 557 = .ok (.ireturn, 1) := by decide +kernel
theorem dL_law_558 : decode cL_law 558 = .ok (.aload_n 1, 1) := by decide +kernel
theorem dL_law_559 : decode cL_law 559 = .ok (.aload_n 0, 1) := by decide +kernel
theorem dL_law_560 : decode cL_law 560 = .ok (.iload_n 3, 1) := by decide +kernel
theorem dL_law_561 : decode cL_law 561 = .ok (.iconst 1, 1) := by decide +kernel
theorem dL_law_562 : decode cL_law 562 = .ok (.iadd, 1) := by decide +kernel
theorem dL_law_563 : decode cL_law 563 = .ok (.iaload, 1) := by decide +kernel
theorem dL_law_564 : decode cL_law 564 = .ok (.invokevirtual 86, 3) := by decide +kernel
theorem dL_law_567 : decode cL_law 567 = .ok (.aload_n 2, 1) := by decide +kernel
theorem dL_law_568 : decode cL_law 568 = .ok (.aload_n 0, 1) := by decide +kernel
theorem dL_law_569 : decode cL_law 569 = .ok (.iload_n 3, 1) := by decide +kernel
theorem dL_law_570 : decode cL_law 570 = .ok (.iconst 1, 1) := by decide +kernel
theorem dL_law_571 : decode cL_law 571 = .ok (.iadd, 1) := by decide +kernel
theorem dL_law_572 : decode cL_law 572 = .ok (.iaload, 1) := by decide +kernel
theorem dL_law_573 : decode cL_law 573 = .ok (.invokevirtual 90, 3) := by decide +kernel
theorem dL_law_576 : decode cL_law 576 = .ok (.lcmp, 1) := by decide +kernel
theorem dL_law_577 : decode cL_law 577 = .ok (.ifCond .eq 184, 3) := by decide +kernel
theorem dL_law_580 : decode cL_law 580 = .ok (.iconst 0, 1) := by decide +kernel
theorem dL_law_581 : decode cL_law 581 = .ok (.ireturn, 1) := by decide +kernel
theorem dL_law_582 : decode cL_law 582 = .ok (.aload_n 1, 1) := by decide +kernel
theorem dL_law_583 : decode cL_law 583 = .ok (.aload_n 0, 1) := by decide +kernel
theorem dL_law_584 : decode cL_law 584 = .ok (.iload_n 3, 1) := by decide +kernel
theorem dL_law_585 : decode cL_law 585 = .ok (.iconst 1, 1) := by decide +kernel
theorem dL_law_586 : decode cL_law 586 = .ok (.iadd, 1) := by decide +kernel
theorem dL_law_587 : decode cL_law 587 = .ok (.iaload, 1) := by decide +kernel
theorem dL_law_588 : decode cL_law 588 = .ok (.aload_n 0, 1) := by decide +kernel
theorem dL_law_589 : decode cL_law 589 = .ok (.iload_n 3, 1) := by decide +kernel
theorem dL_law_590 : decode cL_law 590 = .ok (.iconst 2, 1) := by decide +kernel
theorem dL_law_591 : decode cL_law 591 = .ok (.iadd, 1) := by decide +kernel
theorem dL_law_592 : decode cL_law 592 = .ok (.iaload, 1) := by decide +kernel
theorem dL_law_593 : decode cL_law 593 = .ok (.invokevirtual 91, 3) := by decide +kernel
theorem dL_law_596 : decode cL_law 596 = .ok (.aload_n 2, 1) := by decide +kernel
theorem dL_law_597 : decode cL_law 597 = .ok (.aload_n 0, 1) := by decide +kernel
theorem dL_law_598 : decode cL_law 598 = .ok (.iload_n 3, 1) := by decide +kernel
theorem dL_law_599 : decode cL_law 599 = .ok (.iconst 1, 1) := by decide +kernel
theorem dL_law_600 : decode cL_law 600 = .ok (.iadd, 1) := by decide +kernel
theorem dL_law_601 : decode cL_law 601 = .ok (.iaload, 1) := by decide +kernel
theorem dL_law_602 : decode cL_law 602 = .ok (.aload_n 0, 1) := by decide +kernel
theorem dL_law_603 : decode cL_law 603 = .ok (.iload_n 3, 1) := by decide +kernel
theorem dL_law_604 : decode cL_law 604 = .ok (.iconst 2, 1) := by decide +kernel
theorem dL_law_605 : decode cL_law 605 = .ok (.iadd, 1) := by decide +kernel
theorem dL_law_606 : decode cL_law 606 = .ok (.iaload, 1) := by decide +kernel
theorem dL_law_607 : decode cL_law 607 = .ok (.invokevirtual 94, 3) := by decide +kernel
theorem dL_law_610 : decode cL_law 610 = .ok (.if_icmp .eq 151, 3) := by decide +kernel
theorem dL_law_613 : decode cL_law 613 = .ok (.iconst 0, 1) := by decide +kernel
theorem dL_law_614 : decode cL_law 614 = .ok (.ireturn, 1) := by decide +kernel
theorem dL_law_615 : decode cL_law 615 = .ok (.aload_n 1, 1) := by decide +kernel
theorem dL_law_616 : decode cL_law 616 = .ok (.aload_n 0, 1) := by decide +kernel
theorem dL_law_617 : decode cL_law 617 = .ok (.iload_n 3, 1) := by decide +kernel
theorem dL_law_618 : decode cL_law 618 = .ok (.iconst 1, 1) := by decide +kernel
theorem dL_law_619 : decode cL_law 619 = .ok (.iadd, 1) := by decide +kernel
theorem dL_law_620 : decode cL_law 620 = .ok (.iaload, 1) := by decide +kernel
theorem dL_law_621 : decode cL_law 621 = .ok (.aload_n 0, 1) := by decide +kernel
theorem dL_law_622 : decode cL_law 622 = .ok (.iload_n 3, 1) := by decide +kernel
theorem dL_law_623 : decode cL_law 623 = .ok (.iconst 2, 1) := by decide +kernel
theorem dL_law_624 : decode cL_law 624 = .ok (.iadd, 1) := by decide +kernel
theorem dL_law_625 : decode cL_law 625 = .ok (.iaload, 1) := by decide +kernel
theorem dL_law_626 : decode cL_law 626 = .ok (.invokevirtual 95, 3) := by decide +kernel
theorem dL_law_629 : decode cL_law 629 = .ok (.aload_n 2, 1) := by decide +kernel
theorem dL_law_630 : decode cL_law 630 = .ok (.aload_n 0, 1) := by decide +kernel
theorem dL_law_631 : decode cL_law 631 = .ok (.iload_n 3, 1) := by decide +kernel
theorem dL_law_632 : decode cL_law 632 = .ok (.iconst 1, 1) := by decide +kernel
theorem dL_law_633 : decode cL_law 633 = .ok (.iadd, 1) := by decide +kernel
theorem dL_law_634 : decode cL_law 634 = .ok (.iaload, 1) := by decide +kernel
theorem dL_law_635 : decode cL_law 635 = .ok (.aload_n 0, 1) := by decide +kernel
theorem dL_law_636 : decode cL_law 636 = .ok (.iload_n 3, 1) := by decide +kernel
theorem dL_law_637 : decode cL_law 637 = .ok (.iconst 2, 1) := by decide +kernel
theorem dL_law_638 : decode cL_law 638 = .ok (.iadd, 1) := by decide +kernel
theorem dL_law_639 : decode cL_law 639 = .ok (.iaload, 1) := by decide +kernel
theorem dL_law_640 : decode cL_law 640 = .ok (.invokevirtual 98, 3) := by decide +kernel
theorem dL_law_643 : decode cL_law 643 = .ok (.if_icmp .eq 118, 3) := by decide +kernel
theorem dL_law_646 : decode cL_law 646 = .ok (.iconst 0, 1) := by decide +kernel
theorem dL_law_647 : decode cL_law 647 = .ok (.ireturn, 1) := by decide +kernel
theorem dL_law_648 : decode cL_law 648 = .ok (.aload_n 1, 1) := by decide +kernel
theorem dL_law_649 : decode cL_law 649 = .ok (.aload_n 0, 1) := by decide +kernel
theorem dL_law_650 : decode cL_law 650 = .ok (.iload_n 3, 1) := by decide +kernel
theorem dL_law_651 : decode cL_law 651 = .ok (.iconst 1, 1) := by decide +kernel
theorem dL_law_652 : decode cL_law 652 = .ok (.iadd, 1) := by decide +kernel
theorem dL_law_653 : decode cL_law 653 = .ok (.iaload, 1) := by decide +kernel
theorem dL_law_654 : decode cL_law 654 = .ok (.aload_n 0, 1) := by decide +kernel
theorem dL_law_655 : decode cL_law 655 = .ok (.iload_n 3, 1) := by decide +kernel
theorem dL_law_656 : decode cL_law 656 = .ok (.iconst 2, 1) := by decide +kernel
theorem dL_law_657 : decode cL_law 657 = .ok (.iadd, 1) := by decide +kernel
theorem dL_law_658 : decode cL_law 658 = .ok (.iaload, 1) := by decide +kernel
theorem dL_law_659 : decode cL_law 659 = .ok (.invokevirtual 99, 3) := by decide +kernel
theorem dL_law_662 : decode cL_law 662 = .ok (.aload_n 2, 1) := by decide +kernel
theorem dL_law_663 : decode cL_law 663 = .ok (.aload_n 0, 1) := by decide +kernel
theorem dL_law_664 : decode cL_law 664 = .ok (.iload_n 3, 1) := by decide +kernel
theorem dL_law_665 : decode cL_law 665 = .ok (.iconst 1, 1) := by decide +kernel
theorem dL_law_666 : decode cL_law 666 = .ok (.iadd, 1) := by decide +kernel
theorem dL_law_667 : decode cL_law 667 = .ok (.iaload, 1) := by decide +kernel
theorem dL_law_668 : decode cL_law 668 = .ok (.aload_n 0, 1) := by decide +kernel
theorem dL_law_669 : decode cL_law 669 = .ok (.iload_n 3, 1) := by decide +kernel
theorem dL_law_670 : decode cL_law 670 = .ok (.iconst 2, 1) := by decide +kernel
theorem dL_law_671 : decode cL_law 671 = .ok (.iadd, 1) := by decide +kernel
theorem dL_law_672 : decode cL_law 672 = .ok (.iaload, 1) := by decide +kernel
theorem dL_law_673 : decode cL_law 673 = .ok (.invokevirtual 102, 3) := by decide +kernel
theorem dL_law_676 : decode cL_law 676 = .ok (.if_icmp .eq 85, 3) := by decide +kernel
theorem dL_law_679 : decode cL_law 679 = .ok (.iconst 0, 1) := by decide +kernel
theorem dL_law_680 : decode cL_law 680 = .ok (.ireturn, 1) := by decide +kernel
theorem dL_law_681 : decode cL_law 681 = .ok (.aload_n 1, 1) := by decide +kernel
theorem dL_law_682 : decode cL_law 682 = .ok (.aload_n 0, 1) := by decide +kernel
theorem dL_law_683 : decode cL_law 683 = .ok (.iload_n 3, 1) := by decide +kernel
theorem dL_law_684 : decode cL_law 684 = .ok (.iconst 1, 1) := by decide +kernel
theorem dL_law_685 : decode cL_law 685 = .ok (.iadd, 1) := by decide +kernel
theorem dL_law_686 : decode cL_law 686 = .ok (.iaload, 1) := by decide +kernel
theorem dL_law_687 : decode cL_law 687 = .ok (.invokevirtual 103, 3) := by decide +kernel
theorem dL_law_690 : decode cL_law 690 = .ok (.aload_n 2, 1) := by decide +kernel
theorem dL_law_691 : decode cL_law 691 = .ok (.aload_n 0, 1) := by decide +kernel
theorem dL_law_692 : decode cL_law 692 = .ok (.iload_n 3, 1) := by decide +kernel
theorem dL_law_693 : decode cL_law 693 = .ok (.iconst 1, 1) := by decide +kernel
theorem dL_law_694 : decode cL_law 694 = .ok (.iadd, 1) := by decide +kernel
theorem dL_law_695 : decode cL_law 695 = .ok (.iaload, 1) := by decide +kernel
theorem dL_law_696 : decode cL_law 696 = .ok (.invokevirtual 106, 3) := by decide +kernel
theorem dL_law_699 : decode cL_law 699 = .ok (.lcmp, 1) := by decide +kernel
theorem dL_law_700 : decode cL_law 700 = .ok (.ifCond .eq 61, 3) := by decide +kernel
theorem dL_law_703 : decode cL_law 703 = .ok (.iconst 0, 1) := by decide +kernel
theorem dL_law_704 : decode cL_law 704 = .ok (.ireturn, 1) := by decide +kernel
theorem dL_law_705 : decode cL_law 705 = .ok (.aload_n 1, 1) := by decide +kernel
theorem dL_law_706 : decode cL_law 706 = .ok (.aload_n 0, 1) := by decide +kernel
theorem dL_law_707 : decode cL_law 707 = .ok (.iload_n 3, 1) := by decide +kernel
theorem dL_law_708 : decode cL_law 708 = .ok (.iconst 1, 1) := by decide +kernel
theorem dL_law_709 : decode cL_law 709 = .ok (.iadd, 1) := by decide +kernel
theorem dL_law_710 : decode cL_law 710 = .ok (.iaload, 1) := by decide +kernel
theorem dL_law_711 : decode cL_law 711 = .ok (.aload_n 0, 1) := by decide +kernel
theorem dL_law_712 : decode cL_law 712 = .ok (.iload_n 3, 1) := by decide +kernel
theorem dL_law_713 : decode cL_law 713 = .ok (.iconst 2, 1) := by decide +kernel
theorem dL_law_714 : decode cL_law 714 = .ok (.iadd, 1) := by decide +kernel
theorem dL_law_715 : decode cL_law 715 = .ok (.iaload, 1) := by decide +kernel
theorem dL_law_716 : decode cL_law 716 = .ok (.invokevirtual 107, 3) := by decide +kernel
theorem dL_law_719 : decode cL_law 719 = .ok (.aload_n 2, 1) := by decide +kernel
theorem dL_law_720 : decode cL_law 720 = .ok (.aload_n 0, 1) := by decide +kernel
theorem dL_law_721 : decode cL_law 721 = .ok (.iload_n 3, 1) := by decide +kernel
theorem dL_law_722 : decode cL_law 722 = .ok (.iconst 1, 1) := by decide +kernel
theorem dL_law_723 : decode cL_law 723 = .ok (.iadd, 1) := by decide +kernel
theorem dL_law_724 : decode cL_law 724 = .ok (.iaload, 1) := by decide +kernel
theorem dL_law_725 : decode cL_law 725 = .ok (.aload_n 0, 1) := by decide +kernel
theorem dL_law_726 : decode cL_law 726 = .ok (.iload_n 3, 1) := by decide +kernel
theorem dL_law_727 : decode cL_law 727 = .ok (.iconst 2, 1) := by decide +kernel
theorem dL_law_728 : decode cL_law 728 = .ok (.iadd, 1) := by decide +kernel
theorem dL_law_729 : decode cL_law 729 = .ok (.iaload, 1) := by decide +kernel
theorem dL_law_730 : decode cL_law 730 = .ok (.invokevirtual 110, 3) := by decide +kernel
theorem dL_law_733 : decode cL_law 733 = .ok (.if_icmp .eq 28, 3) := by decide +kernel
theorem dL_law_736 : decode cL_law 736 = .ok (.iconst 0, 1) := by decide +kernel
theorem dL_law_737 : decode cL_law 737 = .ok (.ireturn, 1) := by decide +kernel
theorem dL_law_738 : decode cL_law 738 = .ok (.aload_n 1, 1) := by decide +kernel
theorem dL_law_739 : decode cL_law 739 = .ok (.aload_n 0, 1) := by decide +kernel
theorem dL_law_740 : decode cL_law 740 = .ok (.iload_n 3, 1) := by decide +kernel
theorem dL_law_741 : decode cL_law 741 = .ok (.iconst 1, 1) := by decide +kernel
theorem dL_law_742 : decode cL_law 742 = .ok (.iadd, 1) := by decide +kernel
theorem dL_law_743 : decode cL_law 743 = .ok (.iaload, 1) := by decide +kernel
theorem dL_law_744 : decode cL_law 744 = .ok (.invokevirtual 111, 3) := by decide +kernel
theorem dL_law_747 : decode cL_law 747 = .ok (.aload_n 2, 1) := by decide +kernel
theorem dL_law_748 : decode cL_law 748 = .ok (.aload_n 0, 1) := by decide +kernel
theorem dL_law_749 : decode cL_law 749 = .ok (.iload_n 3, 1) := by decide +kernel
theorem dL_law_750 : decode cL_law 750 = .ok (.iconst 1, 1) := by decide +kernel
theorem dL_law_751 : decode cL_law 751 = .ok (.iadd, 1) := by decide +kernel
theorem dL_law_752 : decode cL_law 752 = .ok (.iaload, 1) := by decide +kernel
theorem dL_law_753 : decode cL_law 753 = .ok (.invokevirtual 114, 3) := by decide +kernel
theorem dL_law_756 : decode cL_law 756 = .ok (.if_icmp .eq 5, 3) := by decide +kernel
theorem dL_law_759 : decode cL_law 759 = .ok (.iconst 0, 1) := by decide +kernel
theorem dL_law_760 : decode cL_law 760 = .ok (.ireturn, 1) := by decide +kernel
theorem dL_law_761 : decode cL_law 761 = .ok (.iinc 3 4, 3) := by decide +kernel
theorem dL_law_764 : decode cL_law 764 = .ok (.goto (-736), 3) := by decide +kernel
theorem dL_law_767 : decode cL_law 767 = .ok (.iconst 1, 1) := by decide +kernel
theorem dL_law_768 : decode cL_law 768 = .ok (.ireturn, 1) := by decide +kernel
end
section
set_option maxRecDepth 20000 in
theorem lz_L : Cond.initialized RL ∈ zU := zU_in 0 (by decide +kernel) (by decide +kernel)
set_option maxRecDepth 20000 in
theorem lz_X7 : Cond.initialized RX7 ∈ zU := zU_in 1 (by decide +kernel) (by decide +kernel)
set_option maxRecDepth 20000 in
theorem lz_J : Cond.initialized "java/lang/Math" ∈ zU := zU_in 2 (by decide +kernel) (by decide +kernel)
set_option maxRecDepth 20000 in
theorem lz_X3 : Cond.initialized RX3 ∈ zU := zU_in 3 (by decide +kernel) (by decide +kernel)
set_option maxRecDepth 20000 in
theorem lz_X6 : Cond.initialized RX6 ∈ zU := zU_in 4 (by decide +kernel) (by decide +kernel)
set_option maxRecDepth 20000 in
theorem lz_X2 : Cond.initialized RX2 ∈ zU := zU_in 5 (by decide +kernel) (by decide +kernel)
set_option maxRecDepth 20000 in
theorem lz_X5 : Cond.initialized RX5 ∈ zU := zU_in 6 (by decide +kernel) (by decide +kernel)
set_option maxRecDepth 20000 in
theorem lz_X1 : Cond.initialized RX1 ∈ zU := zU_in 7 (by decide +kernel) (by decide +kernel)
set_option maxRecDepth 20000 in
theorem lz_X4 : Cond.initialized RX4 ∈ zU := zU_in 8 (by decide +kernel) (by decide +kernel)
set_option maxRecDepth 20000 in
theorem lz_X8 : Cond.initialized RX8 ∈ zU := zU_in 9 (by decide +kernel) (by decide +kernel)
set_option maxRecDepth 20000 in
theorem lz_X0 : Cond.initialized RX0 ∈ zU := zU_in 10 (by decide +kernel) (by decide +kernel)
set_option maxRecDepth 20000 in
theorem lk_L_7 : Cond.classLink RL 7 RX7 ∈ zU := zU_in 11 (by decide +kernel) (by decide +kernel)
set_option maxRecDepth 20000 in
theorem lt_X7 : Cond.instantiable RX7 9 ∈ zU := zU_in 12 (by decide +kernel) (by decide +kernel)
set_option maxRecDepth 20000 in
theorem lm_L_15 : Cond.methodLink RL 15 yX7_init ∈ zU := zU_in 13 (by decide +kernel) (by decide +kernel)
set_option maxRecDepth 20000 in
theorem li_yX7_init : Cond.instanceMethod yX7_init ∈ zU := zU_in 14 (by decide +kernel) (by decide +kernel)
set_option maxRecDepth 20000 in
theorem lc_yX7_init : Cond.code yX7_init prog_1_method_1_code 4 none ∈ zU := zU_in 15 (by decide +kernel) (by decide +kernel)
set_option maxRecDepth 20000 in
theorem lm_X7_1 : Cond.methodLink RX7 1 objectInit ∈ zU := zU_in 16 (by decide +kernel) (by decide +kernel)
set_option maxRecDepth 20000 in
theorem li_objectInit : Cond.instanceMethod objectInit ∈ zU := zU_in 17 (by decide +kernel) (by decide +kernel)
set_option maxRecDepth 20000 in
theorem lc_objectInit : Cond.code objectInit object_method_1_code 1 none ∈ zU := zU_in 18 (by decide +kernel) (by decide +kernel)
set_option maxRecDepth 20000 in
theorem lm_X7_9 : Cond.methodLink RX7 9 (⟨"java/lang/Math", "min", "(II)I"⟩ : MethodName) ∈ zU := zU_in 19 (by decide +kernel) (by decide +kernel)
set_option maxRecDepth 20000 in
theorem ls_J_min : Cond.static (⟨"java/lang/Math", "min", "(II)I"⟩ : MethodName) ∈ zU := zU_in 20 (by decide +kernel) (by decide +kernel)
set_option maxRecDepth 20000 in
theorem lc_J_min : Cond.code (⟨"java/lang/Math", "min", "(II)I"⟩ : MethodName) prog_12_method_69_code 2 (some .int) ∈ zU := zU_in 21 (by decide +kernel) (by decide +kernel)
set_option maxRecDepth 20000 in
theorem lm_X7_15 : Cond.methodLink RX7 15 (⟨"java/lang/Math", "max", "(II)I"⟩ : MethodName) ∈ zU := zU_in 22 (by decide +kernel) (by decide +kernel)
set_option maxRecDepth 20000 in
theorem ls_J_max : Cond.static (⟨"java/lang/Math", "max", "(II)I"⟩ : MethodName) ∈ zU := zU_in 23 (by decide +kernel) (by decide +kernel)
set_option maxRecDepth 20000 in
theorem lc_J_max : Cond.code (⟨"java/lang/Math", "max", "(II)I"⟩ : MethodName) prog_12_method_65_code 2 (some .int) ∈ zU := zU_in 24 (by decide +kernel) (by decide +kernel)
set_option maxRecDepth 20000 in
theorem lk_X7_18 : Cond.classLink RX7 18 RX3 ∈ zU := zU_in 25 (by decide +kernel) (by decide +kernel)
set_option maxRecDepth 20000 in
theorem lt_X3 : Cond.instantiable RX3 5 ∈ zU := zU_in 27 (by decide +kernel) (by decide +kernel)
set_option maxRecDepth 20000 in
theorem li_yX3_init : Cond.instanceMethod yX3_init ∈ zU := zU_in 29 (by decide +kernel) (by decide +kernel)
set_option maxRecDepth 20000 in
theorem lc_yX3_init : Cond.code yX3_init prog_5_method_1_code 1 none ∈ zU := zU_in 30 (by decide +kernel) (by decide +kernel)
set_option maxRecDepth 20000 in
theorem lm_X3_3 : Cond.methodLink RX3 3 objectInit ∈ zU := zU_in 31 (by decide +kernel) (by decide +kernel)
set_option maxRecDepth 20000 in
theorem lk_X3_9 : Cond.classLink RX3 9 RX6 ∈ zU := zU_in 32 (by decide +kernel) (by decide +kernel)
set_option maxRecDepth 20000 in
theorem lt_X6 : Cond.instantiable RX6 3 ∈ zU := zU_in 33 (by decide +kernel) (by decide +kernel)
set_option maxRecDepth 20000 in
theorem li_yX6_init : Cond.instanceMethod yX6_init ∈ zU := zU_in 35 (by decide +kernel) (by decide +kernel)
set_option maxRecDepth 20000 in
theorem lc_yX6_init : Cond.code yX6_init prog_8_method_1_code 1 none ∈ zU := zU_in 36 (by decide +kernel) (by decide +kernel)
set_option maxRecDepth 20000 in
theorem lm_X6_1 : Cond.methodLink RX6 1 objectInit ∈ zU := zU_in 37 (by decide +kernel) (by decide +kernel)
set_option maxRecDepth 20000 in
theorem lf_X6_7 : Cond.fieldLink RX6 7 "VotedFile$Version" "often" "I" ∈ zU := zU_in 38 (by decide +kernel) (by decide +kernel)
set_option maxRecDepth 20000 in
theorem lf_X0_33 : Cond.fieldLink RX0 33 "VotedFile$Version" "often" "I" ∈ zU := zU_in 39 (by decide +kernel) (by decide +kernel)
set_option maxRecDepth 20000 in
theorem lf_X7_176 : Cond.fieldLink RX7 176 "VotedFile$Version" "often" "I" ∈ zU := zU_in 40 (by decide +kernel) (by decide +kernel)
set_option maxRecDepth 20000 in
theorem lf_X0_36 : Cond.fieldLink RX0 36 "VotedFile$Version" "writer" "I" ∈ zU := zU_in 41 (by decide +kernel) (by decide +kernel)
set_option maxRecDepth 20000 in
theorem lf_X6_13 : Cond.fieldLink RX6 13 "VotedFile$Version" "writer" "I" ∈ zU := zU_in 42 (by decide +kernel) (by decide +kernel)
set_option maxRecDepth 20000 in
theorem lf_X7_181 : Cond.fieldLink RX7 181 "VotedFile$Version" "writer" "I" ∈ zU := zU_in 43 (by decide +kernel) (by decide +kernel)
set_option maxRecDepth 20000 in
theorem lf_X6_16 : Cond.fieldLink RX6 16 "VotedFile$Version" "content" "J" ∈ zU := zU_in 44 (by decide +kernel) (by decide +kernel)
set_option maxRecDepth 20000 in
theorem lf_X7_186 : Cond.fieldLink RX7 186 "VotedFile$Version" "content" "J" ∈ zU := zU_in 45 (by decide +kernel) (by decide +kernel)
set_option maxRecDepth 20000 in
theorem la_int : Cond.arrayClass .int ∈ zU := zU_in 53 (by decide +kernel) (by decide +kernel)
set_option maxRecDepth 20000 in
theorem lf_X3_12 : Cond.fieldLink RX3 12 "VotedFile$Copy" "version" "LVotedFile$Version;" ∈ zU := zU_in 54 (by decide +kernel) (by decide +kernel)
set_option maxRecDepth 20000 in
theorem lf_X7_172 : Cond.fieldLink RX7 172 "VotedFile$Copy" "version" "LVotedFile$Version;" ∈ zU := zU_in 55 (by decide +kernel) (by decide +kernel)
set_option maxRecDepth 20000 in
theorem lf_X3_43 : Cond.fieldLink RX3 43 "VotedFile$Copy" "base" "I" ∈ zU := zU_in 56 (by decide +kernel) (by decide +kernel)
set_option maxRecDepth 20000 in
theorem lf_X7_184 : Cond.fieldLink RX7 184 "VotedFile$Copy" "base" "I" ∈ zU := zU_in 57 (by decide +kernel) (by decide +kernel)
set_option maxRecDepth 20000 in
theorem lf_X3_33 : Cond.fieldLink RX3 33 "VotedFile$Copy" "last" "I" ∈ zU := zU_in 58 (by decide +kernel) (by decide +kernel)
set_option maxRecDepth 20000 in
theorem lf_X7_185 : Cond.fieldLink RX7 185 "VotedFile$Copy" "last" "I" ∈ zU := zU_in 59 (by decide +kernel) (by decide +kernel)
set_option maxRecDepth 20000 in
theorem lf_X7_165 : Cond.fieldLink RX7 165 "VotedFile$Copy" "isSilent" "Z" ∈ zU := zU_in 60 (by decide +kernel) (by decide +kernel)
set_option maxRecDepth 20000 in
theorem lf_X7_168 : Cond.fieldLink RX7 168 "VotedFile$Copy" "place" "I" ∈ zU := zU_in 61 (by decide +kernel) (by decide +kernel)
set_option maxRecDepth 20000 in
theorem lk_X7_29 : Cond.classLink RX7 29 RX2 ∈ zU := zU_in 73 (by decide +kernel) (by decide +kernel)
set_option maxRecDepth 20000 in
theorem lt_X2 : Cond.instantiable RX2 9 ∈ zU := zU_in 75 (by decide +kernel) (by decide +kernel)
set_option maxRecDepth 20000 in
theorem lm_X7_35 : Cond.methodLink RX7 35 yX2_init ∈ zU := zU_in 76 (by decide +kernel) (by decide +kernel)
set_option maxRecDepth 20000 in
theorem li_yX2_init : Cond.instanceMethod yX2_init ∈ zU := zU_in 77 (by decide +kernel) (by decide +kernel)
set_option maxRecDepth 20000 in
theorem lc_yX2_init : Cond.code yX2_init prog_4_method_1_code 2 none ∈ zU := zU_in 78 (by decide +kernel) (by decide +kernel)
set_option maxRecDepth 20000 in
theorem lm_X2_3 : Cond.methodLink RX2 3 objectInit ∈ zU := zU_in 79 (by decide +kernel) (by decide +kernel)
set_option maxRecDepth 20000 in
theorem lk_X2_9 : Cond.classLink RX2 9 RX6 ∈ zU := zU_in 80 (by decide +kernel) (by decide +kernel)
set_option maxRecDepth 20000 in
theorem lf_X2_18 : Cond.fieldLink RX2 18 "VotedFile$Client" "number" "I" ∈ zU := zU_in 82 (by decide +kernel) (by decide +kernel)
set_option maxRecDepth 20000 in
theorem lf_X7_245 : Cond.fieldLink RX7 245 "VotedFile$Client" "number" "I" ∈ zU := zU_in 83 (by decide +kernel) (by decide +kernel)
set_option maxRecDepth 20000 in
theorem lf_X2_12 : Cond.fieldLink RX2 12 "VotedFile$Client" "version" "LVotedFile$Version;" ∈ zU := zU_in 84 (by decide +kernel) (by decide +kernel)
set_option maxRecDepth 20000 in
theorem lf_X7_247 : Cond.fieldLink RX7 247 "VotedFile$Client" "version" "LVotedFile$Version;" ∈ zU := zU_in 85 (by decide +kernel) (by decide +kernel)
set_option maxRecDepth 20000 in
theorem lf_X2_70 : Cond.fieldLink RX2 70 "VotedFile$Client" "doing" "LVotedFile$Act;" ∈ zU := zU_in 86 (by decide +kernel) (by decide +kernel)
set_option maxRecDepth 20000 in
theorem lf_X7_105 : Cond.fieldLink RX7 105 "VotedFile$Client" "doing" "LVotedFile$Act;" ∈ zU := zU_in 87 (by decide +kernel) (by decide +kernel)
set_option maxRecDepth 20000 in
theorem lf_X2_58 : Cond.fieldLink RX2 58 "VotedFile$Client" "phase" "I" ∈ zU := zU_in 88 (by decide +kernel) (by decide +kernel)
set_option maxRecDepth 20000 in
theorem lf_X7_189 : Cond.fieldLink RX7 189 "VotedFile$Client" "phase" "I" ∈ zU := zU_in 89 (by decide +kernel) (by decide +kernel)
set_option maxRecDepth 20000 in
theorem lf_X2_36 : Cond.fieldLink RX2 36 "VotedFile$Client" "round" "I" ∈ zU := zU_in 90 (by decide +kernel) (by decide +kernel)
set_option maxRecDepth 20000 in
theorem lf_X7_246 : Cond.fieldLink RX7 246 "VotedFile$Client" "round" "I" ∈ zU := zU_in 91 (by decide +kernel) (by decide +kernel)
set_option maxRecDepth 20000 in
theorem lf_X2_22 : Cond.fieldLink RX2 22 "VotedFile$Client" "answered" "I" ∈ zU := zU_in 92 (by decide +kernel) (by decide +kernel)
set_option maxRecDepth 20000 in
theorem lf_X7_192 : Cond.fieldLink RX7 192 "VotedFile$Client" "answered" "I" ∈ zU := zU_in 93 (by decide +kernel) (by decide +kernel)
set_option maxRecDepth 20000 in
theorem lf_X7_77 : Cond.fieldLink RX7 77 "VotedFile$Client" "base" "I" ∈ zU := zU_in 94 (by decide +kernel) (by decide +kernel)
set_option maxRecDepth 20000 in
theorem lf_X2_44 : Cond.fieldLink RX2 44 "VotedFile$Client" "base" "I" ∈ zU := zU_in 95 (by decide +kernel) (by decide +kernel)
set_option maxRecDepth 20000 in
theorem lf_X7_80 : Cond.fieldLink RX7 80 "VotedFile$Client" "last" "I" ∈ zU := zU_in 96 (by decide +kernel) (by decide +kernel)
set_option maxRecDepth 20000 in
theorem lf_X2_54 : Cond.fieldLink RX2 54 "VotedFile$Client" "last" "I" ∈ zU := zU_in 97 (by decide +kernel) (by decide +kernel)
set_option maxRecDepth 20000 in
theorem lf_X7_171 : Cond.fieldLink RX7 171 "VotedFile$Client" "place" "I" ∈ zU := zU_in 98 (by decide +kernel) (by decide +kernel)
set_option maxRecDepth 20000 in
theorem lk_X7_38 : Cond.classLink RX7 38 RX5 ∈ zU := zU_in 118 (by decide +kernel) (by decide +kernel)
set_option maxRecDepth 20000 in
theorem lt_X5 : Cond.instantiable RX5 3 ∈ zU := zU_in 120 (by decide +kernel) (by decide +kernel)
set_option maxRecDepth 20000 in
theorem lm_X7_44 : Cond.methodLink RX7 44 (⟨"[I", "clone", "()Ljava/lang/Object;"⟩ : MethodName) ∈ zU := zU_in 121 (by decide +kernel) (by decide +kernel)
set_option maxRecDepth 20000 in
theorem lb_clone : Cond.sameMethod "[I" "java/lang/Object" "clone" "()Ljava/lang/Object;" ∈ zU := zU_in 122 (by decide +kernel) (by decide +kernel)
set_option maxRecDepth 20000 in
theorem ln_J_clone : Cond.native (⟨"java/lang/Object", "clone", "()Ljava/lang/Object;"⟩ : MethodName) ∈ zU := zU_in 123 (by decide +kernel) (by decide +kernel)
set_option maxRecDepth 20000 in
theorem li_J_clone : Cond.instanceMethod (⟨"java/lang/Object", "clone", "()Ljava/lang/Object;"⟩ : MethodName) ∈ zU := zU_in 124 (by decide +kernel) (by decide +kernel)
set_option maxRecDepth 20000 in
theorem le_clone : Cond.selects "[I" (⟨"[I", "clone", "()Ljava/lang/Object;"⟩ : MethodName) (⟨"java/lang/Object", "clone", "()Ljava/lang/Object;"⟩ : MethodName) ∈ zU := zU_in 125 (by decide +kernel) (by decide +kernel)
set_option maxRecDepth 20000 in
theorem lk_X7_45 : Cond.classLink RX7 45 "[I" ∈ zU := zU_in 127 (by decide +kernel) (by decide +kernel)
set_option maxRecDepth 20000 in
theorem lm_X7_49 : Cond.methodLink RX7 49 yX5_init ∈ zU := zU_in 128 (by decide +kernel) (by decide +kernel)
set_option maxRecDepth 20000 in
theorem li_yX5_init : Cond.instanceMethod yX5_init ∈ zU := zU_in 129 (by decide +kernel) (by decide +kernel)
set_option maxRecDepth 20000 in
theorem lc_yX5_init : Cond.code yX5_init prog_7_method_1_code 4 none ∈ zU := zU_in 130 (by decide +kernel) (by decide +kernel)
set_option maxRecDepth 20000 in
theorem lm_X5_1 : Cond.methodLink RX5 1 objectInit ∈ zU := zU_in 131 (by decide +kernel) (by decide +kernel)
set_option maxRecDepth 20000 in
theorem lf_X5_7 : Cond.fieldLink RX5 7 "VotedFile$Table" "shares" "[I" ∈ zU := zU_in 132 (by decide +kernel) (by decide +kernel)
set_option maxRecDepth 20000 in
theorem lf_X7_233 : Cond.fieldLink RX7 233 "VotedFile$Table" "shares" "[I" ∈ zU := zU_in 133 (by decide +kernel) (by decide +kernel)
set_option maxRecDepth 20000 in
theorem lf_X5_13 : Cond.fieldLink RX5 13 "VotedFile$Table" "\x72" "I" ∈ zU := zU_in 134 (by decide +kernel) (by decide +kernel)
set_option maxRecDepth 20000 in
theorem lf_X7_236 : Cond.fieldLink RX7 236 "VotedFile$Table" "\x72" "I" ∈ zU := zU_in 135 (by decide +kernel) (by decide +kernel)
set_option maxRecDepth 20000 in
theorem lf_X5_17 : Cond.fieldLink RX5 17 "VotedFile$Table" "w" "I" ∈ zU := zU_in 136 (by decide +kernel) (by decide +kernel)
set_option maxRecDepth 20000 in
theorem lf_X7_239 : Cond.fieldLink RX7 239 "VotedFile$Table" "w" "I" ∈ zU := zU_in 137 (by decide +kernel) (by decide +kernel)
set_option maxRecDepth 20000 in
theorem lk_X7_56 : Cond.classLink RX7 56 RX0 ∈ zU := zU_in 145 (by decide +kernel) (by decide +kernel)
set_option maxRecDepth 20000 in
theorem lk_X7_62 : Cond.classLink RX7 62 RX1 ∈ zU := zU_in 147 (by decide +kernel) (by decide +kernel)
set_option maxRecDepth 20000 in
theorem lt_X1 : Cond.instantiable RX1 4 ∈ zU := zU_in 148 (by decide +kernel) (by decide +kernel)
set_option maxRecDepth 20000 in
theorem lm_X7_64 : Cond.methodLink RX7 64 yX1_init ∈ zU := zU_in 149 (by decide +kernel) (by decide +kernel)
set_option maxRecDepth 20000 in
theorem li_yX1_init : Cond.instanceMethod yX1_init ∈ zU := zU_in 150 (by decide +kernel) (by decide +kernel)
set_option maxRecDepth 20000 in
theorem lc_yX1_init : Cond.code yX1_init prog_3_method_1_code 2 none ∈ zU := zU_in 151 (by decide +kernel) (by decide +kernel)
set_option maxRecDepth 20000 in
theorem lm_X1_3 : Cond.methodLink RX1 3 objectInit ∈ zU := zU_in 152 (by decide +kernel) (by decide +kernel)
set_option maxRecDepth 20000 in
theorem lk_X1_9 : Cond.classLink RX1 9 RX4 ∈ zU := zU_in 153 (by decide +kernel) (by decide +kernel)
set_option maxRecDepth 20000 in
theorem lt_X4 : Cond.instantiable RX4 9 ∈ zU := zU_in 155 (by decide +kernel) (by decide +kernel)
set_option maxRecDepth 20000 in
theorem li_yX4_init : Cond.instanceMethod yX4_init ∈ zU := zU_in 157 (by decide +kernel) (by decide +kernel)
set_option maxRecDepth 20000 in
theorem lc_yX4_init : Cond.code yX4_init prog_6_method_1_code 1 none ∈ zU := zU_in 158 (by decide +kernel) (by decide +kernel)
set_option maxRecDepth 20000 in
theorem lm_X4_1 : Cond.methodLink RX4 1 objectInit ∈ zU := zU_in 159 (by decide +kernel) (by decide +kernel)
set_option maxRecDepth 20000 in
theorem lk_X4_7 : Cond.classLink RX4 7 RX6 ∈ zU := zU_in 160 (by decide +kernel) (by decide +kernel)
set_option maxRecDepth 20000 in
theorem lf_X4_10 : Cond.fieldLink RX4 10 "VotedFile$Message" "version" "LVotedFile$Version;" ∈ zU := zU_in 162 (by decide +kernel) (by decide +kernel)
set_option maxRecDepth 20000 in
theorem lf_X3_24 : Cond.fieldLink RX3 24 "VotedFile$Message" "version" "LVotedFile$Version;" ∈ zU := zU_in 163 (by decide +kernel) (by decide +kernel)
set_option maxRecDepth 20000 in
theorem lf_X2_61 : Cond.fieldLink RX2 61 "VotedFile$Message" "version" "LVotedFile$Version;" ∈ zU := zU_in 164 (by decide +kernel) (by decide +kernel)
set_option maxRecDepth 20000 in
theorem lf_X7_205 : Cond.fieldLink RX7 205 "VotedFile$Message" "version" "LVotedFile$Version;" ∈ zU := zU_in 165 (by decide +kernel) (by decide +kernel)
set_option maxRecDepth 20000 in
theorem lf_X4_16 : Cond.fieldLink RX4 16 "VotedFile$Message" "isAnswer" "Z" ∈ zU := zU_in 166 (by decide +kernel) (by decide +kernel)
set_option maxRecDepth 20000 in
theorem lf_X7_134 : Cond.fieldLink RX7 134 "VotedFile$Message" "isAnswer" "Z" ∈ zU := zU_in 167 (by decide +kernel) (by decide +kernel)
set_option maxRecDepth 20000 in
theorem lf_X4_20 : Cond.fieldLink RX4 20 "VotedFile$Message" "copyNumber" "I" ∈ zU := zU_in 168 (by decide +kernel) (by decide +kernel)
set_option maxRecDepth 20000 in
theorem lf_X2_37 : Cond.fieldLink RX2 37 "VotedFile$Message" "copyNumber" "I" ∈ zU := zU_in 169 (by decide +kernel) (by decide +kernel)
set_option maxRecDepth 20000 in
theorem lf_X7_195 : Cond.fieldLink RX7 195 "VotedFile$Message" "copyNumber" "I" ∈ zU := zU_in 170 (by decide +kernel) (by decide +kernel)
set_option maxRecDepth 20000 in
theorem lf_X4_24 : Cond.fieldLink RX4 24 "VotedFile$Message" "clientNumber" "I" ∈ zU := zU_in 171 (by decide +kernel) (by decide +kernel)
set_option maxRecDepth 20000 in
theorem lf_X7_198 : Cond.fieldLink RX7 198 "VotedFile$Message" "clientNumber" "I" ∈ zU := zU_in 172 (by decide +kernel) (by decide +kernel)
set_option maxRecDepth 20000 in
theorem lf_X4_27 : Cond.fieldLink RX4 27 "VotedFile$Message" "actNumber" "I" ∈ zU := zU_in 173 (by decide +kernel) (by decide +kernel)
set_option maxRecDepth 20000 in
theorem lf_X2_25 : Cond.fieldLink RX2 25 "VotedFile$Message" "actNumber" "I" ∈ zU := zU_in 174 (by decide +kernel) (by decide +kernel)
set_option maxRecDepth 20000 in
theorem lf_X7_201 : Cond.fieldLink RX7 201 "VotedFile$Message" "actNumber" "I" ∈ zU := zU_in 175 (by decide +kernel) (by decide +kernel)
set_option maxRecDepth 20000 in
theorem lf_X3_18 : Cond.fieldLink RX3 18 "VotedFile$Message" "phase" "I" ∈ zU := zU_in 176 (by decide +kernel) (by decide +kernel)
set_option maxRecDepth 20000 in
theorem lf_X4_30 : Cond.fieldLink RX4 30 "VotedFile$Message" "phase" "I" ∈ zU := zU_in 177 (by decide +kernel) (by decide +kernel)
set_option maxRecDepth 20000 in
theorem lf_X7_204 : Cond.fieldLink RX7 204 "VotedFile$Message" "phase" "I" ∈ zU := zU_in 178 (by decide +kernel) (by decide +kernel)
set_option maxRecDepth 20000 in
theorem lf_X4_33 : Cond.fieldLink RX4 33 "VotedFile$Message" "round" "I" ∈ zU := zU_in 179 (by decide +kernel) (by decide +kernel)
set_option maxRecDepth 20000 in
theorem lf_X2_33 : Cond.fieldLink RX2 33 "VotedFile$Message" "round" "I" ∈ zU := zU_in 180 (by decide +kernel) (by decide +kernel)
set_option maxRecDepth 20000 in
theorem lf_X7_207 : Cond.fieldLink RX7 207 "VotedFile$Message" "round" "I" ∈ zU := zU_in 181 (by decide +kernel) (by decide +kernel)
set_option maxRecDepth 20000 in
theorem lf_X4_36 : Cond.fieldLink RX4 36 "VotedFile$Message" "base" "I" ∈ zU := zU_in 182 (by decide +kernel) (by decide +kernel)
set_option maxRecDepth 20000 in
theorem lf_X2_47 : Cond.fieldLink RX2 47 "VotedFile$Message" "base" "I" ∈ zU := zU_in 183 (by decide +kernel) (by decide +kernel)
set_option maxRecDepth 20000 in
theorem lf_X7_262 : Cond.fieldLink RX7 262 "VotedFile$Message" "base" "I" ∈ zU := zU_in 184 (by decide +kernel) (by decide +kernel)
set_option maxRecDepth 20000 in
theorem lf_X4_39 : Cond.fieldLink RX4 39 "VotedFile$Message" "last" "I" ∈ zU := zU_in 185 (by decide +kernel) (by decide +kernel)
set_option maxRecDepth 20000 in
theorem lf_X3_36 : Cond.fieldLink RX3 36 "VotedFile$Message" "last" "I" ∈ zU := zU_in 186 (by decide +kernel) (by decide +kernel)
set_option maxRecDepth 20000 in
theorem lf_X2_57 : Cond.fieldLink RX2 57 "VotedFile$Message" "last" "I" ∈ zU := zU_in 187 (by decide +kernel) (by decide +kernel)
set_option maxRecDepth 20000 in
theorem lf_X7_206 : Cond.fieldLink RX7 206 "VotedFile$Message" "last" "I" ∈ zU := zU_in 188 (by decide +kernel) (by decide +kernel)
set_option maxRecDepth 20000 in
theorem lf_X1_11 : Cond.fieldLink RX1 11 "VotedFile$Air" "rows" "[LVotedFile$Message;" ∈ zU := zU_in 208 (by decide +kernel) (by decide +kernel)
set_option maxRecDepth 20000 in
theorem lf_X1_18 : Cond.fieldLink RX1 18 "VotedFile$Air" "taken" "LVotedFile$Message;" ∈ zU := zU_in 209 (by decide +kernel) (by decide +kernel)
set_option maxRecDepth 20000 in
theorem lf_X1_22 : Cond.fieldLink RX1 22 "VotedFile$Air" "count" "I" ∈ zU := zU_in 210 (by decide +kernel) (by decide +kernel)
set_option maxRecDepth 20000 in
theorem lf_X7_148 : Cond.fieldLink RX7 148 "VotedFile$Air" "count" "I" ∈ zU := zU_in 211 (by decide +kernel) (by decide +kernel)
set_option maxRecDepth 20000 in
theorem lf_X1_26 : Cond.fieldLink RX1 26 "VotedFile$Air" "lost" "I" ∈ zU := zU_in 212 (by decide +kernel) (by decide +kernel)
set_option maxRecDepth 20000 in
theorem lf_X7_242 : Cond.fieldLink RX7 242 "VotedFile$Air" "lost" "I" ∈ zU := zU_in 213 (by decide +kernel) (by decide +kernel)
set_option maxRecDepth 20000 in
theorem lf_X7_20 : Cond.fieldLink RX7 20 "VotedFile" "copies" "[LVotedFile$Copy;" ∈ zU := zU_in 223 (by decide +kernel) (by decide +kernel)
set_option maxRecDepth 20000 in
theorem lf_X7_31 : Cond.fieldLink RX7 31 "VotedFile" "clients" "[LVotedFile$Client;" ∈ zU := zU_in 224 (by decide +kernel) (by decide +kernel)
set_option maxRecDepth 20000 in
theorem lf_X7_40 : Cond.fieldLink RX7 40 "VotedFile" "tables" "[LVotedFile$Table;" ∈ zU := zU_in 225 (by decide +kernel) (by decide +kernel)
set_option maxRecDepth 20000 in
theorem lf_X7_58 : Cond.fieldLink RX7 58 "VotedFile" "acts" "[LVotedFile$Act;" ∈ zU := zU_in 226 (by decide +kernel) (by decide +kernel)
set_option maxRecDepth 20000 in
theorem lf_X7_65 : Cond.fieldLink RX7 65 "VotedFile" "air" "LVotedFile$Air;" ∈ zU := zU_in 227 (by decide +kernel) (by decide +kernel)
set_option maxRecDepth 20000 in
theorem lf_X7_24 : Cond.fieldLink RX7 24 "VotedFile" "votesOfNext" "[I" ∈ zU := zU_in 228 (by decide +kernel) (by decide +kernel)
set_option maxRecDepth 20000 in
theorem lf_X7_52 : Cond.fieldLink RX7 52 "VotedFile" "tableCount" "I" ∈ zU := zU_in 229 (by decide +kernel) (by decide +kernel)
set_option maxRecDepth 20000 in
theorem lf_X7_91 : Cond.fieldLink RX7 91 "VotedFile" "actCount" "I" ∈ zU := zU_in 230 (by decide +kernel) (by decide +kernel)
set_option maxRecDepth 20000 in
theorem lf_X7_113 : Cond.fieldLink RX7 113 "VotedFile" "clock" "I" ∈ zU := zU_in 231 (by decide +kernel) (by decide +kernel)
set_option maxRecDepth 20000 in
theorem lm_L_21 : Cond.methodLink RL 21 yX7_votes ∈ zU := zU_in 251 (by decide +kernel) (by decide +kernel)
set_option maxRecDepth 20000 in
theorem li_yX7_votes : Cond.instanceMethod yX7_votes ∈ zU := zU_in 252 (by decide +kernel) (by decide +kernel)
set_option maxRecDepth 20000 in
theorem le_yX7_votes : Cond.selects RX7 yX7_votes yX7_votes ∈ zU := zU_in 253 (by decide +kernel) (by decide +kernel)
set_option maxRecDepth 20000 in
theorem lc_yX7_votes : Cond.code yX7_votes prog_1_method_2_code 3 (some .boolean) ∈ zU := zU_in 254 (by decide +kernel) (by decide +kernel)
set_option maxRecDepth 20000 in
theorem lm_L_26 : Cond.methodLink RL 26 yX7_change ∈ zU := zU_in 255 (by decide +kernel) (by decide +kernel)
set_option maxRecDepth 20000 in
theorem li_yX7_change : Cond.instanceMethod yX7_change ∈ zU := zU_in 256 (by decide +kernel) (by decide +kernel)
set_option maxRecDepth 20000 in
theorem le_yX7_change : Cond.selects RX7 yX7_change yX7_change ∈ zU := zU_in 257 (by decide +kernel) (by decide +kernel)
set_option maxRecDepth 20000 in
theorem lc_yX7_change : Cond.code yX7_change prog_1_method_3_code 5 (some .int) ∈ zU := zU_in 258 (by decide +kernel) (by decide +kernel)
set_option maxRecDepth 20000 in
theorem lm_X7_69 : Cond.methodLink RX7 69 yX7_clientAt ∈ zU := zU_in 259 (by decide +kernel) (by decide +kernel)
set_option maxRecDepth 20000 in
theorem li_yX7_clientAt : Cond.instanceMethod yX7_clientAt ∈ zU := zU_in 261 (by decide +kernel) (by decide +kernel)
set_option maxRecDepth 20000 in
theorem lc_yX7_clientAt : Cond.code yX7_clientAt prog_1_method_24_code 2 (some (.object "VotedFile$Client")) ∈ zU := zU_in 262 (by decide +kernel) (by decide +kernel)
set_option maxRecDepth 20000 in
theorem lm_X7_73 : Cond.methodLink RX7 73 yX7_canBegin ∈ zU := zU_in 263 (by decide +kernel) (by decide +kernel)
set_option maxRecDepth 20000 in
theorem li_yX7_canBegin : Cond.instanceMethod yX7_canBegin ∈ zU := zU_in 265 (by decide +kernel) (by decide +kernel)
set_option maxRecDepth 20000 in
theorem lc_yX7_canBegin : Cond.code yX7_canBegin prog_1_method_27_code 2 (some .boolean) ∈ zU := zU_in 266 (by decide +kernel) (by decide +kernel)
set_option maxRecDepth 20000 in
theorem lm_X7_83 : Cond.methodLink RX7 83 yX5_canBe ∈ zU := zU_in 267 (by decide +kernel) (by decide +kernel)
set_option maxRecDepth 20000 in
theorem ls_yX5_canBe : Cond.static yX5_canBe ∈ zU := zU_in 268 (by decide +kernel) (by decide +kernel)
set_option maxRecDepth 20000 in
theorem lc_yX5_canBe : Cond.code yX5_canBe prog_7_method_2_code 4 (some .boolean) ∈ zU := zU_in 269 (by decide +kernel) (by decide +kernel)
set_option maxRecDepth 20000 in
theorem lm_X5_20 : Cond.methodLink RX5 20 yX5_sum ∈ zU := zU_in 270 (by decide +kernel) (by decide +kernel)
set_option maxRecDepth 20000 in
theorem ls_yX5_sum : Cond.static yX5_sum ∈ zU := zU_in 271 (by decide +kernel) (by decide +kernel)
set_option maxRecDepth 20000 in
theorem lc_yX5_sum : Cond.code yX5_sum prog_7_method_3_code 4 (some .int) ∈ zU := zU_in 272 (by decide +kernel) (by decide +kernel)
set_option maxRecDepth 20000 in
theorem lm_X7_87 : Cond.methodLink RX7 87 yX7_beginChange ∈ zU := zU_in 273 (by decide +kernel) (by decide +kernel)
set_option maxRecDepth 20000 in
theorem li_yX7_beginChange : Cond.instanceMethod yX7_beginChange ∈ zU := zU_in 275 (by decide +kernel) (by decide +kernel)
set_option maxRecDepth 20000 in
theorem lc_yX7_beginChange : Cond.code yX7_beginChange prog_1_method_28_code 4 (some .int) ∈ zU := zU_in 276 (by decide +kernel) (by decide +kernel)
set_option maxRecDepth 20000 in
theorem lt_X0 : Cond.instantiable RX0 9 ∈ zU := zU_in 277 (by decide +kernel) (by decide +kernel)
set_option maxRecDepth 20000 in
theorem lm_X7_94 : Cond.methodLink RX7 94 yX0_init ∈ zU := zU_in 278 (by decide +kernel) (by decide +kernel)
set_option maxRecDepth 20000 in
theorem li_yX0_init : Cond.instanceMethod yX0_init ∈ zU := zU_in 279 (by decide +kernel) (by decide +kernel)
set_option maxRecDepth 20000 in
theorem lc_yX0_init : Cond.code yX0_init prog_2_method_1_code 4 none ∈ zU := zU_in 280 (by decide +kernel) (by decide +kernel)
set_option maxRecDepth 20000 in
theorem lm_X0_3 : Cond.methodLink RX0 3 objectInit ∈ zU := zU_in 281 (by decide +kernel) (by decide +kernel)
set_option maxRecDepth 20000 in
theorem lf_X0_24 : Cond.fieldLink RX0 24 "VotedFile$Act" "number" "I" ∈ zU := zU_in 282 (by decide +kernel) (by decide +kernel)
set_option maxRecDepth 20000 in
theorem lf_X2_30 : Cond.fieldLink RX2 30 "VotedFile$Act" "number" "I" ∈ zU := zU_in 283 (by decide +kernel) (by decide +kernel)
set_option maxRecDepth 20000 in
theorem lf_X7_119 : Cond.fieldLink RX7 119 "VotedFile$Act" "number" "I" ∈ zU := zU_in 284 (by decide +kernel) (by decide +kernel)
set_option maxRecDepth 20000 in
theorem lf_X0_27 : Cond.fieldLink RX0 27 "VotedFile$Act" "kind" "I" ∈ zU := zU_in 285 (by decide +kernel) (by decide +kernel)
set_option maxRecDepth 20000 in
theorem lf_X7_214 : Cond.fieldLink RX7 214 "VotedFile$Act" "kind" "I" ∈ zU := zU_in 286 (by decide +kernel) (by decide +kernel)
set_option maxRecDepth 20000 in
theorem lf_X0_30 : Cond.fieldLink RX0 30 "VotedFile$Act" "clientNumber" "I" ∈ zU := zU_in 287 (by decide +kernel) (by decide +kernel)
set_option maxRecDepth 20000 in
theorem lf_X7_217 : Cond.fieldLink RX7 217 "VotedFile$Act" "clientNumber" "I" ∈ zU := zU_in 288 (by decide +kernel) (by decide +kernel)
set_option maxRecDepth 20000 in
theorem lf_X7_218 : Cond.fieldLink RX7 218 "VotedFile$Act" "began" "I" ∈ zU := zU_in 289 (by decide +kernel) (by decide +kernel)
set_option maxRecDepth 20000 in
theorem lf_X0_9 : Cond.fieldLink RX0 9 "VotedFile$Act" "ended" "I" ∈ zU := zU_in 290 (by decide +kernel) (by decide +kernel)
set_option maxRecDepth 20000 in
theorem lf_X7_221 : Cond.fieldLink RX7 221 "VotedFile$Act" "ended" "I" ∈ zU := zU_in 291 (by decide +kernel) (by decide +kernel)
set_option maxRecDepth 20000 in
theorem lf_X0_15 : Cond.fieldLink RX0 15 "VotedFile$Act" "often" "I" ∈ zU := zU_in 292 (by decide +kernel) (by decide +kernel)
set_option maxRecDepth 20000 in
theorem lf_X7_224 : Cond.fieldLink RX7 224 "VotedFile$Act" "often" "I" ∈ zU := zU_in 293 (by decide +kernel) (by decide +kernel)
set_option maxRecDepth 20000 in
theorem lf_X0_18 : Cond.fieldLink RX0 18 "VotedFile$Act" "writer" "I" ∈ zU := zU_in 294 (by decide +kernel) (by decide +kernel)
set_option maxRecDepth 20000 in
theorem lf_X7_225 : Cond.fieldLink RX7 225 "VotedFile$Act" "writer" "I" ∈ zU := zU_in 295 (by decide +kernel) (by decide +kernel)
set_option maxRecDepth 20000 in
theorem lf_X0_21 : Cond.fieldLink RX0 21 "VotedFile$Act" "target" "I" ∈ zU := zU_in 296 (by decide +kernel) (by decide +kernel)
set_option maxRecDepth 20000 in
theorem lf_X7_226 : Cond.fieldLink RX7 226 "VotedFile$Act" "target" "I" ∈ zU := zU_in 297 (by decide +kernel) (by decide +kernel)
set_option maxRecDepth 20000 in
theorem lf_X7_101 : Cond.fieldLink RX7 101 "VotedFile$Act" "result" "J" ∈ zU := zU_in 298 (by decide +kernel) (by decide +kernel)
set_option maxRecDepth 20000 in
theorem lm_X7_97 : Cond.methodLink RX7 97 yX7_beginAct ∈ zU := zU_in 318 (by decide +kernel) (by decide +kernel)
set_option maxRecDepth 20000 in
theorem li_yX7_beginAct : Cond.instanceMethod yX7_beginAct ∈ zU := zU_in 320 (by decide +kernel) (by decide +kernel)
set_option maxRecDepth 20000 in
theorem lc_yX7_beginAct : Cond.code yX7_beginAct prog_1_method_29_code 4 (some .int) ∈ zU := zU_in 321 (by decide +kernel) (by decide +kernel)
set_option maxRecDepth 20000 in
theorem lm_X7_248 : Cond.methodLink RX7 248 yX6_put ∈ zU := zU_in 322 (by decide +kernel) (by decide +kernel)
set_option maxRecDepth 20000 in
theorem li_yX6_put : Cond.instanceMethod yX6_put ∈ zU := zU_in 323 (by decide +kernel) (by decide +kernel)
end
section
set_option maxRecDepth 20000 in
theorem le_yX6_put : Cond.selects RX6 yX6_put yX6_put ∈ zU := zU_in 324 (by decide +kernel) (by decide +kernel)
set_option maxRecDepth 20000 in
theorem lc_yX6_put : Cond.code yX6_put prog_8_method_3_code 5 none ∈ zU := zU_in 325 (by decide +kernel) (by decide +kernel)
set_option maxRecDepth 20000 in
theorem lm_X7_252 : Cond.methodLink RX7 252 yX7_beginPhase ∈ zU := zU_in 326 (by decide +kernel) (by decide +kernel)
set_option maxRecDepth 20000 in
theorem li_yX7_beginPhase : Cond.instanceMethod yX7_beginPhase ∈ zU := zU_in 328 (by decide +kernel) (by decide +kernel)
set_option maxRecDepth 20000 in
theorem lc_yX7_beginPhase : Cond.code yX7_beginPhase prog_1_method_30_code 4 none ∈ zU := zU_in 329 (by decide +kernel) (by decide +kernel)
set_option maxRecDepth 20000 in
theorem lm_X7_109 : Cond.methodLink RX7 109 yX7_sendRequests ∈ zU := zU_in 330 (by decide +kernel) (by decide +kernel)
set_option maxRecDepth 20000 in
theorem li_yX7_sendRequests : Cond.instanceMethod yX7_sendRequests ∈ zU := zU_in 332 (by decide +kernel) (by decide +kernel)
set_option maxRecDepth 20000 in
theorem lc_yX7_sendRequests : Cond.code yX7_sendRequests prog_1_method_31_code 5 (some .int) ∈ zU := zU_in 333 (by decide +kernel) (by decide +kernel)
set_option maxRecDepth 20000 in
theorem lm_X7_256 : Cond.methodLink RX7 256 yX2_hasAnswerOf ∈ zU := zU_in 334 (by decide +kernel) (by decide +kernel)
set_option maxRecDepth 20000 in
theorem li_yX2_hasAnswerOf : Cond.instanceMethod yX2_hasAnswerOf ∈ zU := zU_in 335 (by decide +kernel) (by decide +kernel)
set_option maxRecDepth 20000 in
theorem le_yX2_hasAnswerOf : Cond.selects RX2 yX2_hasAnswerOf yX2_hasAnswerOf ∈ zU := zU_in 336 (by decide +kernel) (by decide +kernel)
set_option maxRecDepth 20000 in
theorem lc_yX2_hasAnswerOf : Cond.code yX2_hasAnswerOf prog_4_method_2_code 2 (some .boolean) ∈ zU := zU_in 337 (by decide +kernel) (by decide +kernel)
set_option maxRecDepth 20000 in
theorem lm_X7_259 : Cond.methodLink RX7 259 yX7_sendRequest ∈ zU := zU_in 338 (by decide +kernel) (by decide +kernel)
set_option maxRecDepth 20000 in
theorem li_yX7_sendRequest : Cond.instanceMethod yX7_sendRequest ∈ zU := zU_in 340 (by decide +kernel) (by decide +kernel)
set_option maxRecDepth 20000 in
theorem lc_yX7_sendRequest : Cond.code yX7_sendRequest prog_1_method_32_code 6 none ∈ zU := zU_in 341 (by decide +kernel) (by decide +kernel)
set_option maxRecDepth 20000 in
theorem lm_X7_154 : Cond.methodLink RX7 154 yX1_next ∈ zU := zU_in 342 (by decide +kernel) (by decide +kernel)
set_option maxRecDepth 20000 in
theorem li_yX1_next : Cond.instanceMethod yX1_next ∈ zU := zU_in 343 (by decide +kernel) (by decide +kernel)
set_option maxRecDepth 20000 in
theorem le_yX1_next : Cond.selects RX1 yX1_next yX1_next ∈ zU := zU_in 344 (by decide +kernel) (by decide +kernel)
set_option maxRecDepth 20000 in
theorem lc_yX1_next : Cond.code yX1_next prog_3_method_3_code 2 (some (.object "VotedFile$Message")) ∈ zU := zU_in 345 (by decide +kernel) (by decide +kernel)
set_option maxRecDepth 20000 in
theorem lm_X7_263 : Cond.methodLink RX7 263 yX6_set ∈ zU := zU_in 346 (by decide +kernel) (by decide +kernel)
set_option maxRecDepth 20000 in
theorem li_yX6_set : Cond.instanceMethod yX6_set ∈ zU := zU_in 347 (by decide +kernel) (by decide +kernel)
set_option maxRecDepth 20000 in
theorem le_yX6_set : Cond.selects RX6 yX6_set yX6_set ∈ zU := zU_in 348 (by decide +kernel) (by decide +kernel)
set_option maxRecDepth 20000 in
theorem lc_yX6_set : Cond.code yX6_set prog_8_method_4_code 2 none ∈ zU := zU_in 349 (by decide +kernel) (by decide +kernel)
set_option maxRecDepth 20000 in
theorem lm_L_31 : Cond.methodLink RL 31 yX7_resume ∈ zU := zU_in 350 (by decide +kernel) (by decide +kernel)
set_option maxRecDepth 20000 in
theorem li_yX7_resume : Cond.instanceMethod yX7_resume ∈ zU := zU_in 351 (by decide +kernel) (by decide +kernel)
set_option maxRecDepth 20000 in
theorem le_yX7_resume : Cond.selects RX7 yX7_resume yX7_resume ∈ zU := zU_in 352 (by decide +kernel) (by decide +kernel)
set_option maxRecDepth 20000 in
theorem lc_yX7_resume : Cond.code yX7_resume prog_1_method_4_code 2 (some .int) ∈ zU := zU_in 353 (by decide +kernel) (by decide +kernel)
set_option maxRecDepth 20000 in
theorem lm_L_36 : Cond.methodLink RL 36 yX7_read ∈ zU := zU_in 354 (by decide +kernel) (by decide +kernel)
set_option maxRecDepth 20000 in
theorem li_yX7_read : Cond.instanceMethod yX7_read ∈ zU := zU_in 355 (by decide +kernel) (by decide +kernel)
set_option maxRecDepth 20000 in
theorem le_yX7_read : Cond.selects RX7 yX7_read yX7_read ∈ zU := zU_in 356 (by decide +kernel) (by decide +kernel)
set_option maxRecDepth 20000 in
theorem lc_yX7_read : Cond.code yX7_read prog_1_method_5_code 3 (some .int) ∈ zU := zU_in 357 (by decide +kernel) (by decide +kernel)
set_option maxRecDepth 20000 in
theorem lm_L_43 : Cond.methodLink RL 43 yX7_write ∈ zU := zU_in 358 (by decide +kernel) (by decide +kernel)
set_option maxRecDepth 20000 in
theorem li_yX7_write : Cond.instanceMethod yX7_write ∈ zU := zU_in 359 (by decide +kernel) (by decide +kernel)
set_option maxRecDepth 20000 in
theorem le_yX7_write : Cond.selects RX7 yX7_write yX7_write ∈ zU := zU_in 360 (by decide +kernel) (by decide +kernel)
set_option maxRecDepth 20000 in
theorem lc_yX7_write : Cond.code yX7_write prog_1_method_6_code 6 (some .int) ∈ zU := zU_in 361 (by decide +kernel) (by decide +kernel)
set_option maxRecDepth 20000 in
theorem lm_L_48 : Cond.methodLink RL 48 yX7_again ∈ zU := zU_in 362 (by decide +kernel) (by decide +kernel)
set_option maxRecDepth 20000 in
theorem li_yX7_again : Cond.instanceMethod yX7_again ∈ zU := zU_in 363 (by decide +kernel) (by decide +kernel)
set_option maxRecDepth 20000 in
theorem le_yX7_again : Cond.selects RX7 yX7_again yX7_again ∈ zU := zU_in 364 (by decide +kernel) (by decide +kernel)
set_option maxRecDepth 20000 in
theorem lc_yX7_again : Cond.code yX7_again prog_1_method_7_code 3 (some .int) ∈ zU := zU_in 365 (by decide +kernel) (by decide +kernel)
set_option maxRecDepth 20000 in
theorem lm_L_78 : Cond.methodLink RL 78 yX7_halt ∈ zU := zU_in 366 (by decide +kernel) (by decide +kernel)
set_option maxRecDepth 20000 in
theorem li_yX7_halt : Cond.instanceMethod yX7_halt ∈ zU := zU_in 367 (by decide +kernel) (by decide +kernel)
set_option maxRecDepth 20000 in
theorem le_yX7_halt : Cond.selects RX7 yX7_halt yX7_halt ∈ zU := zU_in 368 (by decide +kernel) (by decide +kernel)
set_option maxRecDepth 20000 in
theorem lc_yX7_halt : Cond.code yX7_halt prog_1_method_8_code 4 (some .int) ∈ zU := zU_in 369 (by decide +kernel) (by decide +kernel)
set_option maxRecDepth 20000 in
theorem lm_X7_116 : Cond.methodLink RX7 116 yX2_rest ∈ zU := zU_in 370 (by decide +kernel) (by decide +kernel)
set_option maxRecDepth 20000 in
theorem li_yX2_rest : Cond.instanceMethod yX2_rest ∈ zU := zU_in 371 (by decide +kernel) (by decide +kernel)
set_option maxRecDepth 20000 in
theorem le_yX2_rest : Cond.selects RX2 yX2_rest yX2_rest ∈ zU := zU_in 372 (by decide +kernel) (by decide +kernel)
set_option maxRecDepth 20000 in
theorem lc_yX2_rest : Cond.code yX2_rest prog_4_method_5_code 1 none ∈ zU := zU_in 373 (by decide +kernel) (by decide +kernel)
set_option maxRecDepth 20000 in
theorem lm_L_52 : Cond.methodLink RL 52 yX7_deliver ∈ zU := zU_in 374 (by decide +kernel) (by decide +kernel)
set_option maxRecDepth 20000 in
theorem li_yX7_deliver : Cond.instanceMethod yX7_deliver ∈ zU := zU_in 375 (by decide +kernel) (by decide +kernel)
set_option maxRecDepth 20000 in
theorem le_yX7_deliver : Cond.selects RX7 yX7_deliver yX7_deliver ∈ zU := zU_in 376 (by decide +kernel) (by decide +kernel)
set_option maxRecDepth 20000 in
theorem lc_yX7_deliver : Cond.code yX7_deliver prog_1_method_9_code 3 (some .boolean) ∈ zU := zU_in 377 (by decide +kernel) (by decide +kernel)
set_option maxRecDepth 20000 in
theorem lm_X7_122 : Cond.methodLink RX7 122 yX1_at ∈ zU := zU_in 378 (by decide +kernel) (by decide +kernel)
set_option maxRecDepth 20000 in
theorem li_yX1_at : Cond.instanceMethod yX1_at ∈ zU := zU_in 379 (by decide +kernel) (by decide +kernel)
set_option maxRecDepth 20000 in
theorem le_yX1_at : Cond.selects RX1 yX1_at yX1_at ∈ zU := zU_in 380 (by decide +kernel) (by decide +kernel)
set_option maxRecDepth 20000 in
theorem lc_yX1_at : Cond.code yX1_at prog_3_method_2_code 2 (some (.object "VotedFile$Message")) ∈ zU := zU_in 381 (by decide +kernel) (by decide +kernel)
set_option maxRecDepth 20000 in
theorem lm_X7_126 : Cond.methodLink RX7 126 yX7_canPass ∈ zU := zU_in 382 (by decide +kernel) (by decide +kernel)
set_option maxRecDepth 20000 in
theorem li_yX7_canPass : Cond.instanceMethod yX7_canPass ∈ zU := zU_in 384 (by decide +kernel) (by decide +kernel)
set_option maxRecDepth 20000 in
theorem lc_yX7_canPass : Cond.code yX7_canPass prog_1_method_33_code 4 (some .boolean) ∈ zU := zU_in 385 (by decide +kernel) (by decide +kernel)
set_option maxRecDepth 20000 in
theorem lm_X7_161 : Cond.methodLink RX7 161 yX7_copyAt ∈ zU := zU_in 386 (by decide +kernel) (by decide +kernel)
set_option maxRecDepth 20000 in
theorem li_yX7_copyAt : Cond.instanceMethod yX7_copyAt ∈ zU := zU_in 388 (by decide +kernel) (by decide +kernel)
set_option maxRecDepth 20000 in
theorem lc_yX7_copyAt : Cond.code yX7_copyAt prog_1_method_23_code 2 (some (.object "VotedFile$Copy")) ∈ zU := zU_in 389 (by decide +kernel) (by decide +kernel)
set_option maxRecDepth 20000 in
theorem lm_X7_130 : Cond.methodLink RX7 130 yX1_take ∈ zU := zU_in 390 (by decide +kernel) (by decide +kernel)
set_option maxRecDepth 20000 in
theorem li_yX1_take : Cond.instanceMethod yX1_take ∈ zU := zU_in 391 (by decide +kernel) (by decide +kernel)
set_option maxRecDepth 20000 in
theorem le_yX1_take : Cond.selects RX1 yX1_take yX1_take ∈ zU := zU_in 392 (by decide +kernel) (by decide +kernel)
set_option maxRecDepth 20000 in
theorem lc_yX1_take : Cond.code yX1_take prog_3_method_4_code 4 (some .boolean) ∈ zU := zU_in 393 (by decide +kernel) (by decide +kernel)
set_option maxRecDepth 20000 in
theorem lm_X1_29 : Cond.methodLink RX1 29 yX1_at ∈ zU := zU_in 394 (by decide +kernel) (by decide +kernel)
set_option maxRecDepth 20000 in
theorem lm_X7_140 : Cond.methodLink RX7 140 yX7_hear ∈ zU := zU_in 395 (by decide +kernel) (by decide +kernel)
set_option maxRecDepth 20000 in
theorem li_yX7_hear : Cond.instanceMethod yX7_hear ∈ zU := zU_in 397 (by decide +kernel) (by decide +kernel)
set_option maxRecDepth 20000 in
theorem lc_yX7_hear : Cond.code yX7_hear prog_1_method_35_code 6 none ∈ zU := zU_in 398 (by decide +kernel) (by decide +kernel)
set_option maxRecDepth 20000 in
theorem lm_X7_270 : Cond.methodLink RX7 270 yX2_counts ∈ zU := zU_in 399 (by decide +kernel) (by decide +kernel)
set_option maxRecDepth 20000 in
theorem li_yX2_counts : Cond.instanceMethod yX2_counts ∈ zU := zU_in 400 (by decide +kernel) (by decide +kernel)
set_option maxRecDepth 20000 in
theorem le_yX2_counts : Cond.selects RX2 yX2_counts yX2_counts ∈ zU := zU_in 401 (by decide +kernel) (by decide +kernel)
set_option maxRecDepth 20000 in
theorem lc_yX2_counts : Cond.code yX2_counts prog_4_method_3_code 3 (some .boolean) ∈ zU := zU_in 402 (by decide +kernel) (by decide +kernel)
set_option maxRecDepth 20000 in
theorem lm_X2_40 : Cond.methodLink RX2 40 yX2_hasAnswerOf ∈ zU := zU_in 403 (by decide +kernel) (by decide +kernel)
set_option maxRecDepth 20000 in
theorem lm_X7_274 : Cond.methodLink RX7 274 yX2_learn ∈ zU := zU_in 404 (by decide +kernel) (by decide +kernel)
set_option maxRecDepth 20000 in
theorem li_yX2_learn : Cond.instanceMethod yX2_learn ∈ zU := zU_in 405 (by decide +kernel) (by decide +kernel)
set_option maxRecDepth 20000 in
theorem le_yX2_learn : Cond.selects RX2 yX2_learn yX2_learn ∈ zU := zU_in 406 (by decide +kernel) (by decide +kernel)
set_option maxRecDepth 20000 in
theorem lc_yX2_learn : Cond.code yX2_learn prog_4_method_4_code 3 none ∈ zU := zU_in 407 (by decide +kernel) (by decide +kernel)
set_option maxRecDepth 20000 in
theorem lm_X2_48 : Cond.methodLink RX2 48 (⟨"java/lang/Math", "max", "(II)I"⟩ : MethodName) ∈ zU := zU_in 408 (by decide +kernel) (by decide +kernel)
set_option maxRecDepth 20000 in
theorem lm_X2_62 : Cond.methodLink RX2 62 yX6_isAbove ∈ zU := zU_in 409 (by decide +kernel) (by decide +kernel)
set_option maxRecDepth 20000 in
theorem li_yX6_isAbove : Cond.instanceMethod yX6_isAbove ∈ zU := zU_in 410 (by decide +kernel) (by decide +kernel)
set_option maxRecDepth 20000 in
theorem le_yX6_isAbove : Cond.selects RX6 yX6_isAbove yX6_isAbove ∈ zU := zU_in 411 (by decide +kernel) (by decide +kernel)
set_option maxRecDepth 20000 in
theorem lc_yX6_isAbove : Cond.code yX6_isAbove prog_8_method_2_code 2 (some .boolean) ∈ zU := zU_in 412 (by decide +kernel) (by decide +kernel)
set_option maxRecDepth 20000 in
theorem lm_X2_66 : Cond.methodLink RX2 66 yX6_set ∈ zU := zU_in 413 (by decide +kernel) (by decide +kernel)
set_option maxRecDepth 20000 in
theorem lm_X7_277 : Cond.methodLink RX7 277 yX7_hasQuorum ∈ zU := zU_in 414 (by decide +kernel) (by decide +kernel)
set_option maxRecDepth 20000 in
theorem li_yX7_hasQuorum : Cond.instanceMethod yX7_hasQuorum ∈ zU := zU_in 416 (by decide +kernel) (by decide +kernel)
set_option maxRecDepth 20000 in
theorem lc_yX7_hasQuorum : Cond.code yX7_hasQuorum prog_1_method_36_code 8 (some .boolean) ∈ zU := zU_in 417 (by decide +kernel) (by decide +kernel)
set_option maxRecDepth 20000 in
theorem lm_X7_229 : Cond.methodLink RX7 229 yX7_tableAt ∈ zU := zU_in 418 (by decide +kernel) (by decide +kernel)
set_option maxRecDepth 20000 in
theorem li_yX7_tableAt : Cond.instanceMethod yX7_tableAt ∈ zU := zU_in 420 (by decide +kernel) (by decide +kernel)
set_option maxRecDepth 20000 in
theorem lc_yX7_tableAt : Cond.code yX7_tableAt prog_1_method_25_code 2 (some (.object "VotedFile$Table")) ∈ zU := zU_in 421 (by decide +kernel) (by decide +kernel)
set_option maxRecDepth 20000 in
theorem lm_X7_284 : Cond.methodLink RX7 284 yX5_sum ∈ zU := zU_in 422 (by decide +kernel) (by decide +kernel)
set_option maxRecDepth 20000 in
theorem lm_X7_281 : Cond.methodLink RX7 281 yX7_endPhase ∈ zU := zU_in 423 (by decide +kernel) (by decide +kernel)
set_option maxRecDepth 20000 in
theorem li_yX7_endPhase : Cond.instanceMethod yX7_endPhase ∈ zU := zU_in 425 (by decide +kernel) (by decide +kernel)
set_option maxRecDepth 20000 in
theorem lc_yX7_endPhase : Cond.code yX7_endPhase prog_1_method_37_code 3 (some .int) ∈ zU := zU_in 426 (by decide +kernel) (by decide +kernel)
set_option maxRecDepth 20000 in
theorem lm_X7_288 : Cond.methodLink RX7 288 yX0_showTag ∈ zU := zU_in 427 (by decide +kernel) (by decide +kernel)
set_option maxRecDepth 20000 in
theorem li_yX0_showTag : Cond.instanceMethod yX0_showTag ∈ zU := zU_in 428 (by decide +kernel) (by decide +kernel)
set_option maxRecDepth 20000 in
theorem le_yX0_showTag : Cond.selects RX0 yX0_showTag yX0_showTag ∈ zU := zU_in 429 (by decide +kernel) (by decide +kernel)
set_option maxRecDepth 20000 in
theorem lc_yX0_showTag : Cond.code yX0_showTag prog_2_method_2_code 2 none ∈ zU := zU_in 430 (by decide +kernel) (by decide +kernel)
set_option maxRecDepth 20000 in
theorem lm_X7_144 : Cond.methodLink RX7 144 yX7_serve ∈ zU := zU_in 431 (by decide +kernel) (by decide +kernel)
set_option maxRecDepth 20000 in
theorem li_yX7_serve : Cond.instanceMethod yX7_serve ∈ zU := zU_in 433 (by decide +kernel) (by decide +kernel)
set_option maxRecDepth 20000 in
theorem lc_yX7_serve : Cond.code yX7_serve prog_1_method_34_code 4 none ∈ zU := zU_in 434 (by decide +kernel) (by decide +kernel)
set_option maxRecDepth 20000 in
theorem lm_X7_267 : Cond.methodLink RX7 267 yX3_obey ∈ zU := zU_in 435 (by decide +kernel) (by decide +kernel)
set_option maxRecDepth 20000 in
theorem li_yX3_obey : Cond.instanceMethod yX3_obey ∈ zU := zU_in 436 (by decide +kernel) (by decide +kernel)
set_option maxRecDepth 20000 in
theorem le_yX3_obey : Cond.selects RX3 yX3_obey yX3_obey ∈ zU := zU_in 437 (by decide +kernel) (by decide +kernel)
set_option maxRecDepth 20000 in
theorem lc_yX3_obey : Cond.code yX3_obey prog_5_method_2_code 2 none ∈ zU := zU_in 438 (by decide +kernel) (by decide +kernel)
set_option maxRecDepth 20000 in
theorem lm_X3_25 : Cond.methodLink RX3 25 yX6_isAbove ∈ zU := zU_in 439 (by decide +kernel) (by decide +kernel)
set_option maxRecDepth 20000 in
theorem lm_X3_29 : Cond.methodLink RX3 29 yX6_set ∈ zU := zU_in 440 (by decide +kernel) (by decide +kernel)
set_option maxRecDepth 20000 in
theorem lm_X3_37 : Cond.methodLink RX3 37 (⟨"java/lang/Math", "max", "(II)I"⟩ : MethodName) ∈ zU := zU_in 441 (by decide +kernel) (by decide +kernel)
set_option maxRecDepth 20000 in
theorem lm_X7_158 : Cond.methodLink RX7 158 yX4_repeat ∈ zU := zU_in 442 (by decide +kernel) (by decide +kernel)
set_option maxRecDepth 20000 in
theorem li_yX4_repeat : Cond.instanceMethod yX4_repeat ∈ zU := zU_in 443 (by decide +kernel) (by decide +kernel)
set_option maxRecDepth 20000 in
theorem le_yX4_repeat : Cond.selects RX4 yX4_repeat yX4_repeat ∈ zU := zU_in 444 (by decide +kernel) (by decide +kernel)
set_option maxRecDepth 20000 in
theorem lc_yX4_repeat : Cond.code yX4_repeat prog_6_method_2_code 2 none ∈ zU := zU_in 445 (by decide +kernel) (by decide +kernel)
set_option maxRecDepth 20000 in
theorem lm_X4_42 : Cond.methodLink RX4 42 yX6_set ∈ zU := zU_in 446 (by decide +kernel) (by decide +kernel)
set_option maxRecDepth 20000 in
theorem lm_L_57 : Cond.methodLink RL 57 yX7_settle ∈ zU := zU_in 447 (by decide +kernel) (by decide +kernel)
set_option maxRecDepth 20000 in
theorem li_yX7_settle : Cond.instanceMethod yX7_settle ∈ zU := zU_in 448 (by decide +kernel) (by decide +kernel)
set_option maxRecDepth 20000 in
theorem le_yX7_settle : Cond.selects RX7 yX7_settle yX7_settle ∈ zU := zU_in 449 (by decide +kernel) (by decide +kernel)
set_option maxRecDepth 20000 in
theorem lc_yX7_settle : Cond.code yX7_settle prog_1_method_10_code 5 (some .int) ∈ zU := zU_in 450 (by decide +kernel) (by decide +kernel)
set_option maxRecDepth 20000 in
theorem lq_const : Cond.constant RX7 147 1000000 ∈ zU := zU_in 451 (by decide +kernel) (by decide +kernel)
set_option maxRecDepth 20000 in
theorem lm_X7_151 : Cond.methodLink RX7 151 yX7_deliver ∈ zU := zU_in 452 (by decide +kernel) (by decide +kernel)
set_option maxRecDepth 20000 in
theorem lm_L_61 : Cond.methodLink RL 61 yX7_lose ∈ zU := zU_in 453 (by decide +kernel) (by decide +kernel)
set_option maxRecDepth 20000 in
theorem li_yX7_lose : Cond.instanceMethod yX7_lose ∈ zU := zU_in 454 (by decide +kernel) (by decide +kernel)
set_option maxRecDepth 20000 in
theorem le_yX7_lose : Cond.selects RX7 yX7_lose yX7_lose ∈ zU := zU_in 455 (by decide +kernel) (by decide +kernel)
set_option maxRecDepth 20000 in
theorem lc_yX7_lose : Cond.code yX7_lose prog_1_method_11_code 2 (some .boolean) ∈ zU := zU_in 456 (by decide +kernel) (by decide +kernel)
set_option maxRecDepth 20000 in
theorem lm_L_65 : Cond.methodLink RL 65 yX7_twice ∈ zU := zU_in 457 (by decide +kernel) (by decide +kernel)
set_option maxRecDepth 20000 in
theorem li_yX7_twice : Cond.instanceMethod yX7_twice ∈ zU := zU_in 458 (by decide +kernel) (by decide +kernel)
set_option maxRecDepth 20000 in
theorem le_yX7_twice : Cond.selects RX7 yX7_twice yX7_twice ∈ zU := zU_in 459 (by decide +kernel) (by decide +kernel)
set_option maxRecDepth 20000 in
theorem lc_yX7_twice : Cond.code yX7_twice prog_1_method_12_code 4 (some .boolean) ∈ zU := zU_in 460 (by decide +kernel) (by decide +kernel)
set_option maxRecDepth 20000 in
theorem lm_L_69 : Cond.methodLink RL 69 yX7_silent ∈ zU := zU_in 461 (by decide +kernel) (by decide +kernel)
set_option maxRecDepth 20000 in
theorem li_yX7_silent : Cond.instanceMethod yX7_silent ∈ zU := zU_in 462 (by decide +kernel) (by decide +kernel)
set_option maxRecDepth 20000 in
theorem le_yX7_silent : Cond.selects RX7 yX7_silent yX7_silent ∈ zU := zU_in 463 (by decide +kernel) (by decide +kernel)
set_option maxRecDepth 20000 in
theorem lc_yX7_silent : Cond.code yX7_silent prog_1_method_13_code 4 (some .boolean) ∈ zU := zU_in 464 (by decide +kernel) (by decide +kernel)
set_option maxRecDepth 20000 in
theorem lm_L_74 : Cond.methodLink RL 74 yX7_side ∈ zU := zU_in 465 (by decide +kernel) (by decide +kernel)
set_option maxRecDepth 20000 in
theorem li_yX7_side : Cond.instanceMethod yX7_side ∈ zU := zU_in 466 (by decide +kernel) (by decide +kernel)
set_option maxRecDepth 20000 in
theorem le_yX7_side : Cond.selects RX7 yX7_side yX7_side ∈ zU := zU_in 467 (by decide +kernel) (by decide +kernel)
set_option maxRecDepth 20000 in
theorem lc_yX7_side : Cond.code yX7_side prog_1_method_14_code 5 (some .boolean) ∈ zU := zU_in 468 (by decide +kernel) (by decide +kernel)
set_option maxRecDepth 20000 in
theorem lm_L_82 : Cond.methodLink RL 82 yX7_copy ∈ zU := zU_in 469 (by decide +kernel) (by decide +kernel)
set_option maxRecDepth 20000 in
theorem li_yX7_copy : Cond.instanceMethod yX7_copy ∈ zU := zU_in 470 (by decide +kernel) (by decide +kernel)
set_option maxRecDepth 20000 in
theorem le_yX7_copy : Cond.selects RX7 yX7_copy yX7_copy ∈ zU := zU_in 471 (by decide +kernel) (by decide +kernel)
set_option maxRecDepth 20000 in
theorem lc_yX7_copy : Cond.code yX7_copy prog_1_method_15_code 4 (some .int) ∈ zU := zU_in 472 (by decide +kernel) (by decide +kernel)
set_option maxRecDepth 20000 in
theorem lm_L_86 : Cond.methodLink RL 86 yX7_kept ∈ zU := zU_in 473 (by decide +kernel) (by decide +kernel)
set_option maxRecDepth 20000 in
theorem li_yX7_kept : Cond.instanceMethod yX7_kept ∈ zU := zU_in 474 (by decide +kernel) (by decide +kernel)
set_option maxRecDepth 20000 in
theorem le_yX7_kept : Cond.selects RX7 yX7_kept yX7_kept ∈ zU := zU_in 475 (by decide +kernel) (by decide +kernel)
set_option maxRecDepth 20000 in
theorem lc_yX7_kept : Cond.code yX7_kept prog_1_method_16_code 3 (some .long) ∈ zU := zU_in 476 (by decide +kernel) (by decide +kernel)
set_option maxRecDepth 20000 in
theorem lm_L_91 : Cond.methodLink RL 91 yX7_client ∈ zU := zU_in 477 (by decide +kernel) (by decide +kernel)
set_option maxRecDepth 20000 in
theorem li_yX7_client : Cond.instanceMethod yX7_client ∈ zU := zU_in 478 (by decide +kernel) (by decide +kernel)
set_option maxRecDepth 20000 in
theorem le_yX7_client : Cond.selects RX7 yX7_client yX7_client ∈ zU := zU_in 479 (by decide +kernel) (by decide +kernel)
set_option maxRecDepth 20000 in
theorem lc_yX7_client : Cond.code yX7_client prog_1_method_17_code 5 (some .int) ∈ zU := zU_in 480 (by decide +kernel) (by decide +kernel)
set_option maxRecDepth 20000 in
theorem lm_L_95 : Cond.methodLink RL 95 yX7_air ∈ zU := zU_in 481 (by decide +kernel) (by decide +kernel)
set_option maxRecDepth 20000 in
theorem li_yX7_air : Cond.instanceMethod yX7_air ∈ zU := zU_in 482 (by decide +kernel) (by decide +kernel)
set_option maxRecDepth 20000 in
theorem le_yX7_air : Cond.selects RX7 yX7_air yX7_air ∈ zU := zU_in 483 (by decide +kernel) (by decide +kernel)
set_option maxRecDepth 20000 in
theorem lc_yX7_air : Cond.code yX7_air prog_1_method_18_code 4 (some .int) ∈ zU := zU_in 484 (by decide +kernel) (by decide +kernel)
set_option maxRecDepth 20000 in
theorem lm_L_99 : Cond.methodLink RL 99 yX7_act ∈ zU := zU_in 485 (by decide +kernel) (by decide +kernel)
set_option maxRecDepth 20000 in
theorem li_yX7_act : Cond.instanceMethod yX7_act ∈ zU := zU_in 486 (by decide +kernel) (by decide +kernel)
set_option maxRecDepth 20000 in
theorem le_yX7_act : Cond.selects RX7 yX7_act yX7_act ∈ zU := zU_in 487 (by decide +kernel) (by decide +kernel)
set_option maxRecDepth 20000 in
theorem lc_yX7_act : Cond.code yX7_act prog_1_method_19_code 4 (some .int) ∈ zU := zU_in 488 (by decide +kernel) (by decide +kernel)
set_option maxRecDepth 20000 in
theorem lm_X7_210 : Cond.methodLink RX7 210 yX7_actAt ∈ zU := zU_in 489 (by decide +kernel) (by decide +kernel)
set_option maxRecDepth 20000 in
theorem li_yX7_actAt : Cond.instanceMethod yX7_actAt ∈ zU := zU_in 491 (by decide +kernel) (by decide +kernel)
set_option maxRecDepth 20000 in
theorem lc_yX7_actAt : Cond.code yX7_actAt prog_1_method_26_code 2 (some (.object "VotedFile$Act")) ∈ zU := zU_in 492 (by decide +kernel) (by decide +kernel)
set_option maxRecDepth 20000 in
theorem lm_L_103 : Cond.methodLink RL 103 yX7_value ∈ zU := zU_in 493 (by decide +kernel) (by decide +kernel)
set_option maxRecDepth 20000 in
theorem li_yX7_value : Cond.instanceMethod yX7_value ∈ zU := zU_in 494 (by decide +kernel) (by decide +kernel)
set_option maxRecDepth 20000 in
theorem le_yX7_value : Cond.selects RX7 yX7_value yX7_value ∈ zU := zU_in 495 (by decide +kernel) (by decide +kernel)
set_option maxRecDepth 20000 in
theorem lc_yX7_value : Cond.code yX7_value prog_1_method_20_code 3 (some .long) ∈ zU := zU_in 496 (by decide +kernel) (by decide +kernel)
set_option maxRecDepth 20000 in
theorem lm_L_107 : Cond.methodLink RL 107 yX7_table ∈ zU := zU_in 497 (by decide +kernel) (by decide +kernel)
set_option maxRecDepth 20000 in
theorem li_yX7_table : Cond.instanceMethod yX7_table ∈ zU := zU_in 498 (by decide +kernel) (by decide +kernel)
set_option maxRecDepth 20000 in
theorem le_yX7_table : Cond.selects RX7 yX7_table yX7_table ∈ zU := zU_in 499 (by decide +kernel) (by decide +kernel)
set_option maxRecDepth 20000 in
theorem lc_yX7_table : Cond.code yX7_table prog_1_method_21_code 4 (some .int) ∈ zU := zU_in 500 (by decide +kernel) (by decide +kernel)
set_option maxRecDepth 20000 in
theorem lm_L_111 : Cond.methodLink RL 111 yX7_about ∈ zU := zU_in 501 (by decide +kernel) (by decide +kernel)
set_option maxRecDepth 20000 in
theorem li_yX7_about : Cond.instanceMethod yX7_about ∈ zU := zU_in 502 (by decide +kernel) (by decide +kernel)
set_option maxRecDepth 20000 in
theorem le_yX7_about : Cond.selects RX7 yX7_about yX7_about ∈ zU := zU_in 503 (by decide +kernel) (by decide +kernel)
set_option maxRecDepth 20000 in
theorem lc_yX7_about : Cond.code yX7_about prog_1_method_22_code 2 (some .int) ∈ zU := zU_in 504 (by decide +kernel) (by decide +kernel)
set_option maxRecDepth 20000 in
theorem lm_L_9 : Cond.methodLink RL 9 yL_cell ∈ zU := zU_in 505 (by decide +kernel) (by decide +kernel)
set_option maxRecDepth 20000 in
theorem ls_yL_cell : Cond.static yL_cell ∈ zU := zU_in 506 (by decide +kernel) (by decide +kernel)
set_option maxRecDepth 20000 in
theorem lc_yL_cell : Cond.code yL_cell method_2_code 2 (some .int) ∈ zU := zU_in 507 (by decide +kernel) (by decide +kernel)
set_option maxRecDepth 20000 in
theorem lk_L_18 : Cond.classLink RL 18 RX8 ∈ zU := zU_in 508 (by decide +kernel) (by decide +kernel)
set_option maxRecDepth 20000 in
theorem lt_X8 : Cond.instantiable RX8 45 ∈ zU := zU_in 509 (by decide +kernel) (by decide +kernel)
set_option maxRecDepth 20000 in
theorem lm_L_20 : Cond.methodLink RL 20 yX8_init ∈ zU := zU_in 510 (by decide +kernel) (by decide +kernel)
set_option maxRecDepth 20000 in
theorem li_yX8_init : Cond.instanceMethod yX8_init ∈ zU := zU_in 511 (by decide +kernel) (by decide +kernel)
set_option maxRecDepth 20000 in
theorem lc_yX8_init : Cond.code yX8_init prog_10_method_1_code 3 none ∈ zU := zU_in 512 (by decide +kernel) (by decide +kernel)
set_option maxRecDepth 20000 in
theorem lm_X8_1 : Cond.methodLink RX8 1 objectInit ∈ zU := zU_in 513 (by decide +kernel) (by decide +kernel)
set_option maxRecDepth 20000 in
theorem lf_X8_129 : Cond.fieldLink RX8 129 "VotedFileModel" "copies" "I" ∈ zU := zU_in 514 (by decide +kernel) (by decide +kernel)
set_option maxRecDepth 20000 in
theorem lf_X8_7 : Cond.fieldLink RX8 7 "VotedFileModel" "value" "[J" ∈ zU := zU_in 515 (by decide +kernel) (by decide +kernel)
set_option maxRecDepth 20000 in
theorem lf_X8_13 : Cond.fieldLink RX8 13 "VotedFileModel" "often" "[I" ∈ zU := zU_in 516 (by decide +kernel) (by decide +kernel)
set_option maxRecDepth 20000 in
theorem lf_X8_17 : Cond.fieldLink RX8 17 "VotedFileModel" "by" "[I" ∈ zU := zU_in 517 (by decide +kernel) (by decide +kernel)
set_option maxRecDepth 20000 in
theorem lf_X8_20 : Cond.fieldLink RX8 20 "VotedFileModel" "base" "[I" ∈ zU := zU_in 518 (by decide +kernel) (by decide +kernel)
set_option maxRecDepth 20000 in
theorem lf_X8_23 : Cond.fieldLink RX8 23 "VotedFileModel" "last" "[I" ∈ zU := zU_in 519 (by decide +kernel) (by decide +kernel)
set_option maxRecDepth 20000 in
theorem lf_X8_26 : Cond.fieldLink RX8 26 "VotedFileModel" "side" "[I" ∈ zU := zU_in 520 (by decide +kernel) (by decide +kernel)
set_option maxRecDepth 20000 in
theorem lf_X8_29 : Cond.fieldLink RX8 29 "VotedFileModel" "silent" "[Z" ∈ zU := zU_in 521 (by decide +kernel) (by decide +kernel)
set_option maxRecDepth 20000 in
theorem lf_X8_33 : Cond.fieldLink RX8 33 "VotedFileModel" "table" "[I" ∈ zU := zU_in 522 (by decide +kernel) (by decide +kernel)
set_option maxRecDepth 20000 in
theorem lf_X8_36 : Cond.fieldLink RX8 36 "VotedFileModel" "next" "[I" ∈ zU := zU_in 523 (by decide +kernel) (by decide +kernel)
set_option maxRecDepth 20000 in
theorem lf_X8_133 : Cond.fieldLink RX8 133 "VotedFileModel" "tables" "I" ∈ zU := zU_in 524 (by decide +kernel) (by decide +kernel)
set_option maxRecDepth 20000 in
theorem lf_X8_39 : Cond.fieldLink RX8 39 "VotedFileModel" "doing" "[I" ∈ zU := zU_in 525 (by decide +kernel) (by decide +kernel)
set_option maxRecDepth 20000 in
theorem lf_X8_42 : Cond.fieldLink RX8 42 "VotedFileModel" "phase" "[I" ∈ zU := zU_in 526 (by decide +kernel) (by decide +kernel)
set_option maxRecDepth 20000 in
theorem lf_X8_45 : Cond.fieldLink RX8 45 "VotedFileModel" "round" "[I" ∈ zU := zU_in 527 (by decide +kernel) (by decide +kernel)
set_option maxRecDepth 20000 in
theorem lf_X8_48 : Cond.fieldLink RX8 48 "VotedFileModel" "clientBase" "[I" ∈ zU := zU_in 528 (by decide +kernel) (by decide +kernel)
set_option maxRecDepth 20000 in
theorem lf_X8_51 : Cond.fieldLink RX8 51 "VotedFileModel" "clientLast" "[I" ∈ zU := zU_in 529 (by decide +kernel) (by decide +kernel)
set_option maxRecDepth 20000 in
theorem lf_X8_54 : Cond.fieldLink RX8 54 "VotedFileModel" "clientSide" "[I" ∈ zU := zU_in 530 (by decide +kernel) (by decide +kernel)
set_option maxRecDepth 20000 in
theorem lf_X8_57 : Cond.fieldLink RX8 57 "VotedFileModel" "answered" "[I" ∈ zU := zU_in 531 (by decide +kernel) (by decide +kernel)
set_option maxRecDepth 20000 in
theorem lf_X8_60 : Cond.fieldLink RX8 60 "VotedFileModel" "bestOften" "[I" ∈ zU := zU_in 532 (by decide +kernel) (by decide +kernel)
set_option maxRecDepth 20000 in
theorem lf_X8_63 : Cond.fieldLink RX8 63 "VotedFileModel" "bestBy" "[I" ∈ zU := zU_in 533 (by decide +kernel) (by decide +kernel)
end
section
set_option maxRecDepth 20000 in
theorem lf_X8_66 : Cond.fieldLink RX8 66 "VotedFileModel" "best" "[J" ∈ zU := zU_in 534 (by decide +kernel) (by decide +kernel)
set_option maxRecDepth 20000 in
theorem lf_X8_69 : Cond.fieldLink RX8 69 "VotedFileModel" "kind" "[I" ∈ zU := zU_in 535 (by decide +kernel) (by decide +kernel)
set_option maxRecDepth 20000 in
theorem lf_X8_72 : Cond.fieldLink RX8 72 "VotedFileModel" "whose" "[I" ∈ zU := zU_in 536 (by decide +kernel) (by decide +kernel)
set_option maxRecDepth 20000 in
theorem lf_X8_75 : Cond.fieldLink RX8 75 "VotedFileModel" "began" "[I" ∈ zU := zU_in 537 (by decide +kernel) (by decide +kernel)
set_option maxRecDepth 20000 in
theorem lf_X8_78 : Cond.fieldLink RX8 78 "VotedFileModel" "done" "[I" ∈ zU := zU_in 538 (by decide +kernel) (by decide +kernel)
set_option maxRecDepth 20000 in
theorem lf_X8_81 : Cond.fieldLink RX8 81 "VotedFileModel" "tagOften" "[I" ∈ zU := zU_in 539 (by decide +kernel) (by decide +kernel)
set_option maxRecDepth 20000 in
theorem lf_X8_84 : Cond.fieldLink RX8 84 "VotedFileModel" "tagBy" "[I" ∈ zU := zU_in 540 (by decide +kernel) (by decide +kernel)
set_option maxRecDepth 20000 in
theorem lf_X8_87 : Cond.fieldLink RX8 87 "VotedFileModel" "tableOf" "[I" ∈ zU := zU_in 541 (by decide +kernel) (by decide +kernel)
set_option maxRecDepth 20000 in
theorem lf_X8_90 : Cond.fieldLink RX8 90 "VotedFileModel" "told" "[J" ∈ zU := zU_in 542 (by decide +kernel) (by decide +kernel)
set_option maxRecDepth 20000 in
theorem lf_X8_154 : Cond.fieldLink RX8 154 "VotedFileModel" "acts" "I" ∈ zU := zU_in 543 (by decide +kernel) (by decide +kernel)
set_option maxRecDepth 20000 in
theorem lf_X8_157 : Cond.fieldLink RX8 157 "VotedFileModel" "clock" "I" ∈ zU := zU_in 544 (by decide +kernel) (by decide +kernel)
set_option maxRecDepth 20000 in
theorem lf_X8_143 : Cond.fieldLink RX8 143 "VotedFileModel" "lost" "I" ∈ zU := zU_in 545 (by decide +kernel) (by decide +kernel)
set_option maxRecDepth 20000 in
theorem lf_X8_93 : Cond.fieldLink RX8 93 "VotedFileModel" "isAnswer" "[Z" ∈ zU := zU_in 546 (by decide +kernel) (by decide +kernel)
set_option maxRecDepth 20000 in
theorem lf_X8_96 : Cond.fieldLink RX8 96 "VotedFileModel" "airCopy" "[I" ∈ zU := zU_in 547 (by decide +kernel) (by decide +kernel)
set_option maxRecDepth 20000 in
theorem lf_X8_99 : Cond.fieldLink RX8 99 "VotedFileModel" "airClient" "[I" ∈ zU := zU_in 548 (by decide +kernel) (by decide +kernel)
set_option maxRecDepth 20000 in
theorem lf_X8_102 : Cond.fieldLink RX8 102 "VotedFileModel" "airAct" "[I" ∈ zU := zU_in 549 (by decide +kernel) (by decide +kernel)
set_option maxRecDepth 20000 in
theorem lf_X8_105 : Cond.fieldLink RX8 105 "VotedFileModel" "airPhase" "[I" ∈ zU := zU_in 550 (by decide +kernel) (by decide +kernel)
set_option maxRecDepth 20000 in
theorem lf_X8_108 : Cond.fieldLink RX8 108 "VotedFileModel" "airRound" "[I" ∈ zU := zU_in 551 (by decide +kernel) (by decide +kernel)
set_option maxRecDepth 20000 in
theorem lf_X8_111 : Cond.fieldLink RX8 111 "VotedFileModel" "airOften" "[I" ∈ zU := zU_in 552 (by decide +kernel) (by decide +kernel)
set_option maxRecDepth 20000 in
theorem lf_X8_114 : Cond.fieldLink RX8 114 "VotedFileModel" "airBy" "[I" ∈ zU := zU_in 553 (by decide +kernel) (by decide +kernel)
set_option maxRecDepth 20000 in
theorem lf_X8_117 : Cond.fieldLink RX8 117 "VotedFileModel" "airTable" "[I" ∈ zU := zU_in 554 (by decide +kernel) (by decide +kernel)
set_option maxRecDepth 20000 in
theorem lf_X8_120 : Cond.fieldLink RX8 120 "VotedFileModel" "airBase" "[I" ∈ zU := zU_in 555 (by decide +kernel) (by decide +kernel)
set_option maxRecDepth 20000 in
theorem lf_X8_123 : Cond.fieldLink RX8 123 "VotedFileModel" "airLast" "[I" ∈ zU := zU_in 556 (by decide +kernel) (by decide +kernel)
set_option maxRecDepth 20000 in
theorem lf_X8_126 : Cond.fieldLink RX8 126 "VotedFileModel" "airValue" "[J" ∈ zU := zU_in 557 (by decide +kernel) (by decide +kernel)
set_option maxRecDepth 20000 in
theorem lf_X8_140 : Cond.fieldLink RX8 140 "VotedFileModel" "air" "I" ∈ zU := zU_in 558 (by decide +kernel) (by decide +kernel)
set_option maxRecDepth 20000 in
theorem la_long : Cond.arrayClass .long ∈ zU := zU_in 650 (by decide +kernel) (by decide +kernel)
set_option maxRecDepth 20000 in
theorem la_boolean : Cond.arrayClass .boolean ∈ zU := zU_in 651 (by decide +kernel) (by decide +kernel)
set_option maxRecDepth 20000 in
theorem lm_L_25 : Cond.methodLink RL 25 yX8_votes ∈ zU := zU_in 652 (by decide +kernel) (by decide +kernel)
set_option maxRecDepth 20000 in
theorem li_yX8_votes : Cond.instanceMethod yX8_votes ∈ zU := zU_in 653 (by decide +kernel) (by decide +kernel)
set_option maxRecDepth 20000 in
theorem le_yX8_votes : Cond.selects RX8 yX8_votes yX8_votes ∈ zU := zU_in 654 (by decide +kernel) (by decide +kernel)
set_option maxRecDepth 20000 in
theorem lc_yX8_votes : Cond.code yX8_votes prog_10_method_4_code 3 (some .boolean) ∈ zU := zU_in 655 (by decide +kernel) (by decide +kernel)
set_option maxRecDepth 20000 in
theorem lm_X8_136 : Cond.methodLink RX8 136 yX8_isCopy ∈ zU := zU_in 656 (by decide +kernel) (by decide +kernel)
set_option maxRecDepth 20000 in
theorem li_yX8_isCopy : Cond.instanceMethod yX8_isCopy ∈ zU := zU_in 658 (by decide +kernel) (by decide +kernel)
set_option maxRecDepth 20000 in
theorem lc_yX8_isCopy : Cond.code yX8_isCopy prog_10_method_2_code 2 (some .boolean) ∈ zU := zU_in 659 (by decide +kernel) (by decide +kernel)
set_option maxRecDepth 20000 in
theorem lm_L_30 : Cond.methodLink RL 30 yX8_change ∈ zU := zU_in 660 (by decide +kernel) (by decide +kernel)
set_option maxRecDepth 20000 in
theorem li_yX8_change : Cond.instanceMethod yX8_change ∈ zU := zU_in 661 (by decide +kernel) (by decide +kernel)
set_option maxRecDepth 20000 in
theorem le_yX8_change : Cond.selects RX8 yX8_change yX8_change ∈ zU := zU_in 662 (by decide +kernel) (by decide +kernel)
set_option maxRecDepth 20000 in
theorem lc_yX8_change : Cond.code yX8_change prog_10_method_10_code 6 (some .int) ∈ zU := zU_in 663 (by decide +kernel) (by decide +kernel)
set_option maxRecDepth 20000 in
theorem lm_X8_163 : Cond.methodLink RX8 163 yX8_beginAct ∈ zU := zU_in 664 (by decide +kernel) (by decide +kernel)
set_option maxRecDepth 20000 in
theorem li_yX8_beginAct : Cond.instanceMethod yX8_beginAct ∈ zU := zU_in 666 (by decide +kernel) (by decide +kernel)
set_option maxRecDepth 20000 in
theorem lc_yX8_beginAct : Cond.code yX8_beginAct prog_10_method_9_code 6 (some .int) ∈ zU := zU_in 667 (by decide +kernel) (by decide +kernel)
set_option maxRecDepth 20000 in
theorem lm_X8_160 : Cond.methodLink RX8 160 yX8_beginPhase ∈ zU := zU_in 668 (by decide +kernel) (by decide +kernel)
set_option maxRecDepth 20000 in
theorem li_yX8_beginPhase : Cond.instanceMethod yX8_beginPhase ∈ zU := zU_in 670 (by decide +kernel) (by decide +kernel)
set_option maxRecDepth 20000 in
theorem lc_yX8_beginPhase : Cond.code yX8_beginPhase prog_10_method_8_code 4 none ∈ zU := zU_in 671 (by decide +kernel) (by decide +kernel)
set_option maxRecDepth 20000 in
theorem lm_X8_150 : Cond.methodLink RX8 150 yX8_ask ∈ zU := zU_in 672 (by decide +kernel) (by decide +kernel)
set_option maxRecDepth 20000 in
theorem li_yX8_ask : Cond.instanceMethod yX8_ask ∈ zU := zU_in 674 (by decide +kernel) (by decide +kernel)
set_option maxRecDepth 20000 in
theorem lc_yX8_ask : Cond.code yX8_ask prog_10_method_7_code 10 none ∈ zU := zU_in 675 (by decide +kernel) (by decide +kernel)
set_option maxRecDepth 20000 in
theorem lm_X8_146 : Cond.methodLink RX8 146 yX8_put ∈ zU := zU_in 676 (by decide +kernel) (by decide +kernel)
set_option maxRecDepth 20000 in
theorem li_yX8_put : Cond.instanceMethod yX8_put ∈ zU := zU_in 678 (by decide +kernel) (by decide +kernel)
set_option maxRecDepth 20000 in
theorem lc_yX8_put : Cond.code yX8_put prog_10_method_5_code 14 none ∈ zU := zU_in 679 (by decide +kernel) (by decide +kernel)
set_option maxRecDepth 20000 in
theorem lm_L_35 : Cond.methodLink RL 35 yX8_resume ∈ zU := zU_in 680 (by decide +kernel) (by decide +kernel)
set_option maxRecDepth 20000 in
theorem li_yX8_resume : Cond.instanceMethod yX8_resume ∈ zU := zU_in 681 (by decide +kernel) (by decide +kernel)
set_option maxRecDepth 20000 in
theorem le_yX8_resume : Cond.selects RX8 yX8_resume yX8_resume ∈ zU := zU_in 682 (by decide +kernel) (by decide +kernel)
set_option maxRecDepth 20000 in
theorem lc_yX8_resume : Cond.code yX8_resume prog_10_method_11_code 1 (some .int) ∈ zU := zU_in 683 (by decide +kernel) (by decide +kernel)
set_option maxRecDepth 20000 in
theorem lm_L_40 : Cond.methodLink RL 40 yX8_read ∈ zU := zU_in 684 (by decide +kernel) (by decide +kernel)
set_option maxRecDepth 20000 in
theorem li_yX8_read : Cond.instanceMethod yX8_read ∈ zU := zU_in 685 (by decide +kernel) (by decide +kernel)
set_option maxRecDepth 20000 in
theorem le_yX8_read : Cond.selects RX8 yX8_read yX8_read ∈ zU := zU_in 686 (by decide +kernel) (by decide +kernel)
set_option maxRecDepth 20000 in
theorem lc_yX8_read : Cond.code yX8_read prog_10_method_12_code 2 (some .int) ∈ zU := zU_in 687 (by decide +kernel) (by decide +kernel)
set_option maxRecDepth 20000 in
theorem lm_X8_167 : Cond.methodLink RX8 167 yX8_isClient ∈ zU := zU_in 688 (by decide +kernel) (by decide +kernel)
set_option maxRecDepth 20000 in
theorem ls_yX8_isClient : Cond.static yX8_isClient ∈ zU := zU_in 689 (by decide +kernel) (by decide +kernel)
set_option maxRecDepth 20000 in
theorem lc_yX8_isClient : Cond.code yX8_isClient prog_10_method_3_code 1 (some .boolean) ∈ zU := zU_in 690 (by decide +kernel) (by decide +kernel)
set_option maxRecDepth 20000 in
theorem lm_L_47 : Cond.methodLink RL 47 yX8_write ∈ zU := zU_in 691 (by decide +kernel) (by decide +kernel)
set_option maxRecDepth 20000 in
theorem li_yX8_write : Cond.instanceMethod yX8_write ∈ zU := zU_in 692 (by decide +kernel) (by decide +kernel)
set_option maxRecDepth 20000 in
theorem le_yX8_write : Cond.selects RX8 yX8_write yX8_write ∈ zU := zU_in 693 (by decide +kernel) (by decide +kernel)
set_option maxRecDepth 20000 in
theorem lc_yX8_write : Cond.code yX8_write prog_10_method_13_code 4 (some .int) ∈ zU := zU_in 694 (by decide +kernel) (by decide +kernel)
set_option maxRecDepth 20000 in
theorem lm_L_51 : Cond.methodLink RL 51 yX8_again ∈ zU := zU_in 695 (by decide +kernel) (by decide +kernel)
set_option maxRecDepth 20000 in
theorem li_yX8_again : Cond.instanceMethod yX8_again ∈ zU := zU_in 696 (by decide +kernel) (by decide +kernel)
set_option maxRecDepth 20000 in
theorem le_yX8_again : Cond.selects RX8 yX8_again yX8_again ∈ zU := zU_in 697 (by decide +kernel) (by decide +kernel)
set_option maxRecDepth 20000 in
theorem lc_yX8_again : Cond.code yX8_again prog_10_method_14_code 4 (some .int) ∈ zU := zU_in 698 (by decide +kernel) (by decide +kernel)
set_option maxRecDepth 20000 in
theorem lm_L_56 : Cond.methodLink RL 56 yX8_deliver ∈ zU := zU_in 699 (by decide +kernel) (by decide +kernel)
set_option maxRecDepth 20000 in
theorem li_yX8_deliver : Cond.instanceMethod yX8_deliver ∈ zU := zU_in 700 (by decide +kernel) (by decide +kernel)
set_option maxRecDepth 20000 in
theorem le_yX8_deliver : Cond.selects RX8 yX8_deliver yX8_deliver ∈ zU := zU_in 701 (by decide +kernel) (by decide +kernel)
set_option maxRecDepth 20000 in
theorem lc_yX8_deliver : Cond.code yX8_deliver prog_10_method_25_code 2 (some .boolean) ∈ zU := zU_in 702 (by decide +kernel) (by decide +kernel)
set_option maxRecDepth 20000 in
theorem lm_X8_197 : Cond.methodLink RX8 197 yX8_canBe ∈ zU := zU_in 703 (by decide +kernel) (by decide +kernel)
set_option maxRecDepth 20000 in
theorem li_yX8_canBe : Cond.instanceMethod yX8_canBe ∈ zU := zU_in 705 (by decide +kernel) (by decide +kernel)
set_option maxRecDepth 20000 in
theorem lc_yX8_canBe : Cond.code yX8_canBe prog_10_method_24_code 2 (some .boolean) ∈ zU := zU_in 706 (by decide +kernel) (by decide +kernel)
set_option maxRecDepth 20000 in
theorem lm_X8_200 : Cond.methodLink RX8 200 yX8_answer ∈ zU := zU_in 707 (by decide +kernel) (by decide +kernel)
set_option maxRecDepth 20000 in
theorem li_yX8_answer : Cond.instanceMethod yX8_answer ∈ zU := zU_in 709 (by decide +kernel) (by decide +kernel)
set_option maxRecDepth 20000 in
theorem lc_yX8_answer : Cond.code yX8_answer prog_10_method_22_code 12 none ∈ zU := zU_in 710 (by decide +kernel) (by decide +kernel)
set_option maxRecDepth 20000 in
theorem lm_X8_185 : Cond.methodLink RX8 185 yX8_take ∈ zU := zU_in 711 (by decide +kernel) (by decide +kernel)
set_option maxRecDepth 20000 in
theorem li_yX8_take : Cond.instanceMethod yX8_take ∈ zU := zU_in 713 (by decide +kernel) (by decide +kernel)
set_option maxRecDepth 20000 in
theorem lc_yX8_take : Cond.code yX8_take prog_10_method_6_code 3 none ∈ zU := zU_in 714 (by decide +kernel) (by decide +kernel)
set_option maxRecDepth 20000 in
theorem lm_X8_188 : Cond.methodLink RX8 188 yX8_isGreater ∈ zU := zU_in 715 (by decide +kernel) (by decide +kernel)
set_option maxRecDepth 20000 in
theorem ls_yX8_isGreater : Cond.static yX8_isGreater ∈ zU := zU_in 716 (by decide +kernel) (by decide +kernel)
set_option maxRecDepth 20000 in
theorem lc_yX8_isGreater : Cond.code yX8_isGreater prog_10_method_15_code 4 (some .boolean) ∈ zU := zU_in 717 (by decide +kernel) (by decide +kernel)
set_option maxRecDepth 20000 in
theorem lm_X8_191 : Cond.methodLink RX8 191 yX8_isOver ∈ zU := zU_in 718 (by decide +kernel) (by decide +kernel)
set_option maxRecDepth 20000 in
theorem li_yX8_isOver : Cond.instanceMethod yX8_isOver ∈ zU := zU_in 720 (by decide +kernel) (by decide +kernel)
set_option maxRecDepth 20000 in
theorem lc_yX8_isOver : Cond.code yX8_isOver prog_10_method_18_code 3 (some .boolean) ∈ zU := zU_in 721 (by decide +kernel) (by decide +kernel)
set_option maxRecDepth 20000 in
theorem lm_X8_174 : Cond.methodLink RX8 174 yX8_areQuorums ∈ zU := zU_in 722 (by decide +kernel) (by decide +kernel)
set_option maxRecDepth 20000 in
theorem li_yX8_areQuorums : Cond.instanceMethod yX8_areQuorums ∈ zU := zU_in 724 (by decide +kernel) (by decide +kernel)
set_option maxRecDepth 20000 in
theorem lc_yX8_areQuorums : Cond.code yX8_areQuorums prog_10_method_17_code 7 (some .boolean) ∈ zU := zU_in 725 (by decide +kernel) (by decide +kernel)
set_option maxRecDepth 20000 in
theorem lm_X8_170 : Cond.methodLink RX8 170 yX8_isQuorum ∈ zU := zU_in 726 (by decide +kernel) (by decide +kernel)
set_option maxRecDepth 20000 in
theorem li_yX8_isQuorum : Cond.instanceMethod yX8_isQuorum ∈ zU := zU_in 728 (by decide +kernel) (by decide +kernel)
set_option maxRecDepth 20000 in
theorem lc_yX8_isQuorum : Cond.code yX8_isQuorum prog_10_method_16_code 6 (some .boolean) ∈ zU := zU_in 729 (by decide +kernel) (by decide +kernel)
set_option maxRecDepth 20000 in
theorem lm_X8_194 : Cond.methodLink RX8 194 yX8_goOn ∈ zU := zU_in 730 (by decide +kernel) (by decide +kernel)
set_option maxRecDepth 20000 in
theorem li_yX8_goOn : Cond.instanceMethod yX8_goOn ∈ zU := zU_in 732 (by decide +kernel) (by decide +kernel)
set_option maxRecDepth 20000 in
theorem lc_yX8_goOn : Cond.code yX8_goOn prog_10_method_21_code 3 none ∈ zU := zU_in 733 (by decide +kernel) (by decide +kernel)
set_option maxRecDepth 20000 in
theorem lm_X8_182 : Cond.methodLink RX8 182 yX8_finish ∈ zU := zU_in 734 (by decide +kernel) (by decide +kernel)
set_option maxRecDepth 20000 in
theorem li_yX8_finish : Cond.instanceMethod yX8_finish ∈ zU := zU_in 736 (by decide +kernel) (by decide +kernel)
set_option maxRecDepth 20000 in
theorem lc_yX8_finish : Cond.code yX8_finish prog_10_method_19_code 3 none ∈ zU := zU_in 737 (by decide +kernel) (by decide +kernel)
set_option maxRecDepth 20000 in
theorem lm_X8_178 : Cond.methodLink RX8 178 yX8_end ∈ zU := zU_in 738 (by decide +kernel) (by decide +kernel)
set_option maxRecDepth 20000 in
theorem li_yX8_end : Cond.instanceMethod yX8_end ∈ zU := zU_in 740 (by decide +kernel) (by decide +kernel)
set_option maxRecDepth 20000 in
theorem lc_yX8_end : Cond.code yX8_end prog_10_method_20_code 2 none ∈ zU := zU_in 741 (by decide +kernel) (by decide +kernel)
set_option maxRecDepth 20000 in
theorem lm_X8_203 : Cond.methodLink RX8 203 yX8_request ∈ zU := zU_in 742 (by decide +kernel) (by decide +kernel)
set_option maxRecDepth 20000 in
theorem li_yX8_request : Cond.instanceMethod yX8_request ∈ zU := zU_in 744 (by decide +kernel) (by decide +kernel)
set_option maxRecDepth 20000 in
theorem lc_yX8_request : Cond.code yX8_request prog_10_method_23_code 8 none ∈ zU := zU_in 745 (by decide +kernel) (by decide +kernel)
set_option maxRecDepth 20000 in
theorem lm_L_60 : Cond.methodLink RL 60 yX8_settle ∈ zU := zU_in 746 (by decide +kernel) (by decide +kernel)
set_option maxRecDepth 20000 in
theorem li_yX8_settle : Cond.instanceMethod yX8_settle ∈ zU := zU_in 747 (by decide +kernel) (by decide +kernel)
set_option maxRecDepth 20000 in
theorem le_yX8_settle : Cond.selects RX8 yX8_settle yX8_settle ∈ zU := zU_in 748 (by decide +kernel) (by decide +kernel)
set_option maxRecDepth 20000 in
theorem lc_yX8_settle : Cond.code yX8_settle prog_10_method_26_code 5 (some .int) ∈ zU := zU_in 749 (by decide +kernel) (by decide +kernel)
set_option maxRecDepth 20000 in
theorem lm_X8_206 : Cond.methodLink RX8 206 yX8_deliver ∈ zU := zU_in 750 (by decide +kernel) (by decide +kernel)
set_option maxRecDepth 20000 in
theorem lm_L_64 : Cond.methodLink RL 64 yX8_lose ∈ zU := zU_in 751 (by decide +kernel) (by decide +kernel)
set_option maxRecDepth 20000 in
theorem li_yX8_lose : Cond.instanceMethod yX8_lose ∈ zU := zU_in 752 (by decide +kernel) (by decide +kernel)
set_option maxRecDepth 20000 in
theorem le_yX8_lose : Cond.selects RX8 yX8_lose yX8_lose ∈ zU := zU_in 753 (by decide +kernel) (by decide +kernel)
set_option maxRecDepth 20000 in
theorem lc_yX8_lose : Cond.code yX8_lose prog_10_method_27_code 2 (some .boolean) ∈ zU := zU_in 754 (by decide +kernel) (by decide +kernel)
set_option maxRecDepth 20000 in
theorem lm_L_68 : Cond.methodLink RL 68 yX8_twice ∈ zU := zU_in 755 (by decide +kernel) (by decide +kernel)
set_option maxRecDepth 20000 in
theorem li_yX8_twice : Cond.instanceMethod yX8_twice ∈ zU := zU_in 756 (by decide +kernel) (by decide +kernel)
set_option maxRecDepth 20000 in
theorem le_yX8_twice : Cond.selects RX8 yX8_twice yX8_twice ∈ zU := zU_in 757 (by decide +kernel) (by decide +kernel)
set_option maxRecDepth 20000 in
theorem lc_yX8_twice : Cond.code yX8_twice prog_10_method_28_code 2 (some .boolean) ∈ zU := zU_in 758 (by decide +kernel) (by decide +kernel)
set_option maxRecDepth 20000 in
theorem lm_L_73 : Cond.methodLink RL 73 yX8_silent ∈ zU := zU_in 759 (by decide +kernel) (by decide +kernel)
set_option maxRecDepth 20000 in
theorem li_yX8_silent : Cond.instanceMethod yX8_silent ∈ zU := zU_in 760 (by decide +kernel) (by decide +kernel)
set_option maxRecDepth 20000 in
theorem le_yX8_silent : Cond.selects RX8 yX8_silent yX8_silent ∈ zU := zU_in 761 (by decide +kernel) (by decide +kernel)
set_option maxRecDepth 20000 in
theorem lc_yX8_silent : Cond.code yX8_silent prog_10_method_29_code 3 (some .boolean) ∈ zU := zU_in 762 (by decide +kernel) (by decide +kernel)
set_option maxRecDepth 20000 in
theorem lm_L_77 : Cond.methodLink RL 77 yX8_side ∈ zU := zU_in 763 (by decide +kernel) (by decide +kernel)
set_option maxRecDepth 20000 in
theorem li_yX8_side : Cond.instanceMethod yX8_side ∈ zU := zU_in 764 (by decide +kernel) (by decide +kernel)
set_option maxRecDepth 20000 in
theorem le_yX8_side : Cond.selects RX8 yX8_side yX8_side ∈ zU := zU_in 765 (by decide +kernel) (by decide +kernel)
set_option maxRecDepth 20000 in
theorem lc_yX8_side : Cond.code yX8_side prog_10_method_30_code 3 (some .boolean) ∈ zU := zU_in 766 (by decide +kernel) (by decide +kernel)
set_option maxRecDepth 20000 in
theorem lm_L_81 : Cond.methodLink RL 81 yX8_halt ∈ zU := zU_in 767 (by decide +kernel) (by decide +kernel)
set_option maxRecDepth 20000 in
theorem li_yX8_halt : Cond.instanceMethod yX8_halt ∈ zU := zU_in 768 (by decide +kernel) (by decide +kernel)
set_option maxRecDepth 20000 in
theorem le_yX8_halt : Cond.selects RX8 yX8_halt yX8_halt ∈ zU := zU_in 769 (by decide +kernel) (by decide +kernel)
set_option maxRecDepth 20000 in
theorem lc_yX8_halt : Cond.code yX8_halt prog_10_method_31_code 3 (some .int) ∈ zU := zU_in 770 (by decide +kernel) (by decide +kernel)
set_option maxRecDepth 20000 in
theorem lm_L_85 : Cond.methodLink RL 85 yX8_copy ∈ zU := zU_in 771 (by decide +kernel) (by decide +kernel)
set_option maxRecDepth 20000 in
theorem li_yX8_copy : Cond.instanceMethod yX8_copy ∈ zU := zU_in 772 (by decide +kernel) (by decide +kernel)
set_option maxRecDepth 20000 in
theorem le_yX8_copy : Cond.selects RX8 yX8_copy yX8_copy ∈ zU := zU_in 773 (by decide +kernel) (by decide +kernel)
set_option maxRecDepth 20000 in
theorem lc_yX8_copy : Cond.code yX8_copy prog_10_method_32_code 3 (some .int) ∈ zU := zU_in 774 (by decide +kernel) (by decide +kernel)
set_option maxRecDepth 20000 in
theorem lm_L_90 : Cond.methodLink RL 90 yX8_kept ∈ zU := zU_in 775 (by decide +kernel) (by decide +kernel)
set_option maxRecDepth 20000 in
theorem li_yX8_kept : Cond.instanceMethod yX8_kept ∈ zU := zU_in 776 (by decide +kernel) (by decide +kernel)
set_option maxRecDepth 20000 in
theorem le_yX8_kept : Cond.selects RX8 yX8_kept yX8_kept ∈ zU := zU_in 777 (by decide +kernel) (by decide +kernel)
set_option maxRecDepth 20000 in
theorem lc_yX8_kept : Cond.code yX8_kept prog_10_method_33_code 2 (some .long) ∈ zU := zU_in 778 (by decide +kernel) (by decide +kernel)
set_option maxRecDepth 20000 in
theorem lm_L_94 : Cond.methodLink RL 94 yX8_client ∈ zU := zU_in 779 (by decide +kernel) (by decide +kernel)
set_option maxRecDepth 20000 in
theorem li_yX8_client : Cond.instanceMethod yX8_client ∈ zU := zU_in 780 (by decide +kernel) (by decide +kernel)
set_option maxRecDepth 20000 in
theorem le_yX8_client : Cond.selects RX8 yX8_client yX8_client ∈ zU := zU_in 781 (by decide +kernel) (by decide +kernel)
set_option maxRecDepth 20000 in
theorem lc_yX8_client : Cond.code yX8_client prog_10_method_34_code 3 (some .int) ∈ zU := zU_in 782 (by decide +kernel) (by decide +kernel)
set_option maxRecDepth 20000 in
theorem lm_L_98 : Cond.methodLink RL 98 yX8_air ∈ zU := zU_in 783 (by decide +kernel) (by decide +kernel)
set_option maxRecDepth 20000 in
theorem li_yX8_air : Cond.instanceMethod yX8_air ∈ zU := zU_in 784 (by decide +kernel) (by decide +kernel)
set_option maxRecDepth 20000 in
theorem le_yX8_air : Cond.selects RX8 yX8_air yX8_air ∈ zU := zU_in 785 (by decide +kernel) (by decide +kernel)
set_option maxRecDepth 20000 in
theorem lc_yX8_air : Cond.code yX8_air prog_10_method_35_code 3 (some .int) ∈ zU := zU_in 786 (by decide +kernel) (by decide +kernel)
set_option maxRecDepth 20000 in
theorem lm_L_102 : Cond.methodLink RL 102 yX8_act ∈ zU := zU_in 787 (by decide +kernel) (by decide +kernel)
set_option maxRecDepth 20000 in
theorem li_yX8_act : Cond.instanceMethod yX8_act ∈ zU := zU_in 788 (by decide +kernel) (by decide +kernel)
set_option maxRecDepth 20000 in
theorem le_yX8_act : Cond.selects RX8 yX8_act yX8_act ∈ zU := zU_in 789 (by decide +kernel) (by decide +kernel)
set_option maxRecDepth 20000 in
theorem lc_yX8_act : Cond.code yX8_act prog_10_method_37_code 3 (some .int) ∈ zU := zU_in 790 (by decide +kernel) (by decide +kernel)
set_option maxRecDepth 20000 in
theorem lm_X8_209 : Cond.methodLink RX8 209 yX8_isAct ∈ zU := zU_in 791 (by decide +kernel) (by decide +kernel)
set_option maxRecDepth 20000 in
theorem li_yX8_isAct : Cond.instanceMethod yX8_isAct ∈ zU := zU_in 793 (by decide +kernel) (by decide +kernel)
set_option maxRecDepth 20000 in
theorem lc_yX8_isAct : Cond.code yX8_isAct prog_10_method_36_code 2 (some .boolean) ∈ zU := zU_in 794 (by decide +kernel) (by decide +kernel)
set_option maxRecDepth 20000 in
theorem lm_L_106 : Cond.methodLink RL 106 yX8_value ∈ zU := zU_in 795 (by decide +kernel) (by decide +kernel)
set_option maxRecDepth 20000 in
theorem li_yX8_value : Cond.instanceMethod yX8_value ∈ zU := zU_in 796 (by decide +kernel) (by decide +kernel)
set_option maxRecDepth 20000 in
theorem le_yX8_value : Cond.selects RX8 yX8_value yX8_value ∈ zU := zU_in 797 (by decide +kernel) (by decide +kernel)
set_option maxRecDepth 20000 in
theorem lc_yX8_value : Cond.code yX8_value prog_10_method_38_code 2 (some .long) ∈ zU := zU_in 798 (by decide +kernel) (by decide +kernel)
set_option maxRecDepth 20000 in
theorem lm_L_110 : Cond.methodLink RL 110 yX8_table ∈ zU := zU_in 799 (by decide +kernel) (by decide +kernel)
set_option maxRecDepth 20000 in
theorem li_yX8_table : Cond.instanceMethod yX8_table ∈ zU := zU_in 800 (by decide +kernel) (by decide +kernel)
set_option maxRecDepth 20000 in
theorem le_yX8_table : Cond.selects RX8 yX8_table yX8_table ∈ zU := zU_in 801 (by decide +kernel) (by decide +kernel)
set_option maxRecDepth 20000 in
theorem lc_yX8_table : Cond.code yX8_table prog_10_method_39_code 3 (some .int) ∈ zU := zU_in 802 (by decide +kernel) (by decide +kernel)
set_option maxRecDepth 20000 in
theorem lm_L_114 : Cond.methodLink RL 114 yX8_about ∈ zU := zU_in 803 (by decide +kernel) (by decide +kernel)
set_option maxRecDepth 20000 in
theorem li_yX8_about : Cond.instanceMethod yX8_about ∈ zU := zU_in 804 (by decide +kernel) (by decide +kernel)
set_option maxRecDepth 20000 in
theorem le_yX8_about : Cond.selects RX8 yX8_about yX8_about ∈ zU := zU_in 805 (by decide +kernel) (by decide +kernel)
set_option maxRecDepth 20000 in
theorem lc_yX8_about : Cond.code yX8_about prog_10_method_40_code 2 (some .int) ∈ zU := zU_in 806 (by decide +kernel) (by decide +kernel)
set_option maxRecDepth 20000 in
theorem lq_long : Cond.constantLong RL 41 4294967295 ∈ zU := zU_in 807 (by decide +kernel) (by decide +kernel)
set_option maxRecDepth 20000 in
theorem le_yX7_clientAt : Cond.selects RX7 yX7_clientAt yX7_clientAt ∈ zU := zU_sel 0 (by decide +kernel) (by decide +kernel)
set_option maxRecDepth 20000 in
theorem le_yX7_canBegin : Cond.selects RX7 yX7_canBegin yX7_canBegin ∈ zU := zU_sel 1 (by decide +kernel) (by decide +kernel)
set_option maxRecDepth 20000 in
theorem le_yX7_beginChange : Cond.selects RX7 yX7_beginChange yX7_beginChange ∈ zU := zU_sel 2 (by decide +kernel) (by decide +kernel)
set_option maxRecDepth 20000 in
theorem le_yX7_beginAct : Cond.selects RX7 yX7_beginAct yX7_beginAct ∈ zU := zU_sel 3 (by decide +kernel) (by decide +kernel)
set_option maxRecDepth 20000 in
theorem le_yX7_beginPhase : Cond.selects RX7 yX7_beginPhase yX7_beginPhase ∈ zU := zU_sel 4 (by decide +kernel) (by decide +kernel)
set_option maxRecDepth 20000 in
theorem le_yX7_sendRequests : Cond.selects RX7 yX7_sendRequests yX7_sendRequests ∈ zU := zU_sel 5 (by decide +kernel) (by decide +kernel)
set_option maxRecDepth 20000 in
theorem le_yX7_sendRequest : Cond.selects RX7 yX7_sendRequest yX7_sendRequest ∈ zU := zU_sel 6 (by decide +kernel) (by decide +kernel)
set_option maxRecDepth 20000 in
theorem le_yX7_canPass : Cond.selects RX7 yX7_canPass yX7_canPass ∈ zU := zU_sel 7 (by decide +kernel) (by decide +kernel)
set_option maxRecDepth 20000 in
theorem le_yX7_copyAt : Cond.selects RX7 yX7_copyAt yX7_copyAt ∈ zU := zU_sel 8 (by decide +kernel) (by decide +kernel)
set_option maxRecDepth 20000 in
theorem le_yX7_hear : Cond.selects RX7 yX7_hear yX7_hear ∈ zU := zU_sel 9 (by decide +kernel) (by decide +kernel)
set_option maxRecDepth 20000 in
theorem le_yX7_hasQuorum : Cond.selects RX7 yX7_hasQuorum yX7_hasQuorum ∈ zU := zU_sel 10 (by decide +kernel) (by decide +kernel)
set_option maxRecDepth 20000 in
theorem le_yX7_tableAt : Cond.selects RX7 yX7_tableAt yX7_tableAt ∈ zU := zU_sel 11 (by decide +kernel) (by decide +kernel)
set_option maxRecDepth 20000 in
theorem le_yX7_endPhase : Cond.selects RX7 yX7_endPhase yX7_endPhase ∈ zU := zU_sel 12 (by decide +kernel) (by decide +kernel)
set_option maxRecDepth 20000 in
theorem le_yX7_serve : Cond.selects RX7 yX7_serve yX7_serve ∈ zU := zU_sel 13 (by decide +kernel) (by decide +kernel)
set_option maxRecDepth 20000 in
theorem le_yX7_actAt : Cond.selects RX7 yX7_actAt yX7_actAt ∈ zU := zU_sel 14 (by decide +kernel) (by decide +kernel)
set_option maxRecDepth 20000 in
theorem le_yX8_isCopy : Cond.selects RX8 yX8_isCopy yX8_isCopy ∈ zU := zU_sel 15 (by decide +kernel) (by decide +kernel)
set_option maxRecDepth 20000 in
theorem le_yX8_beginAct : Cond.selects RX8 yX8_beginAct yX8_beginAct ∈ zU := zU_sel 16 (by decide +kernel) (by decide +kernel)
set_option maxRecDepth 20000 in
theorem le_yX8_beginPhase : Cond.selects RX8 yX8_beginPhase yX8_beginPhase ∈ zU := zU_sel 17 (by decide +kernel) (by decide +kernel)
set_option maxRecDepth 20000 in
theorem le_yX8_ask : Cond.selects RX8 yX8_ask yX8_ask ∈ zU := zU_sel 18 (by decide +kernel) (by decide +kernel)
set_option maxRecDepth 20000 in
theorem le_yX8_put : Cond.selects RX8 yX8_put yX8_put ∈ zU := zU_sel 19 (by decide +kernel) (by decide +kernel)
set_option maxRecDepth 20000 in
theorem le_yX8_canBe : Cond.selects RX8 yX8_canBe yX8_canBe ∈ zU := zU_sel 20 (by decide +kernel) (by decide +kernel)
set_option maxRecDepth 20000 in
theorem le_yX8_answer : Cond.selects RX8 yX8_answer yX8_answer ∈ zU := zU_sel 21 (by decide +kernel) (by decide +kernel)
set_option maxRecDepth 20000 in
theorem le_yX8_take : Cond.selects RX8 yX8_take yX8_take ∈ zU := zU_sel 22 (by decide +kernel) (by decide +kernel)
set_option maxRecDepth 20000 in
theorem le_yX8_isOver : Cond.selects RX8 yX8_isOver yX8_isOver ∈ zU := zU_sel 23 (by decide +kernel) (by decide +kernel)
set_option maxRecDepth 20000 in
theorem le_yX8_areQuorums : Cond.selects RX8 yX8_areQuorums yX8_areQuorums ∈ zU := zU_sel 24 (by decide +kernel) (by decide +kernel)
set_option maxRecDepth 20000 in
theorem le_yX8_isQuorum : Cond.selects RX8 yX8_isQuorum yX8_isQuorum ∈ zU := zU_sel 25 (by decide +kernel) (by decide +kernel)
set_option maxRecDepth 20000 in
theorem le_yX8_goOn : Cond.selects RX8 yX8_goOn yX8_goOn ∈ zU := zU_sel 26 (by decide +kernel) (by decide +kernel)
set_option maxRecDepth 20000 in
theorem le_yX8_finish : Cond.selects RX8 yX8_finish yX8_finish ∈ zU := zU_sel 27 (by decide +kernel) (by decide +kernel)
set_option maxRecDepth 20000 in
theorem le_yX8_end : Cond.selects RX8 yX8_end yX8_end ∈ zU := zU_sel 28 (by decide +kernel) (by decide +kernel)
set_option maxRecDepth 20000 in
theorem le_yX8_request : Cond.selects RX8 yX8_request yX8_request ∈ zU := zU_sel 29 (by decide +kernel) (by decide +kernel)
set_option maxRecDepth 20000 in
theorem le_yX8_isAct : Cond.selects RX8 yX8_isAct yX8_isAct ∈ zU := zU_sel 30 (by decide +kernel) (by decide +kernel)
end
section
/-! The abstract memory: cells by (kind, number); kinds 0 .. 8 the classes as vwCl has them, 9 int[], 10 long[], 11 boolean[], 12 Act[], 13 Client[], 14 Copy[], 15 Message[], 16 Table[] -/
abbrev zS : Type := (Nat → Nat → Nat → Int32) × (Nat → Nat → Nat → Int64) × (Nat → Nat → Nat → Option Nat)
/-- the layout: the address of each cell, which cells there are, the length of each array -/
abbrev zZ : Type := (Nat → Nat → Nat) × (Nat → Nat → Prop) × (Nat → Nat → Nat)
def gi (S : zS) (k i f : Nat) : Int32 := S.1 k i f
def gj (S : zS) (k i f : Nat) : Int64 := S.2.1 k i f
def gr (S : zS) (k i f : Nat) : Option Nat := S.2.2 k i f
def up3 {α : Type} (g : Nat → Nat → Nat → α) (k i f : Nat) (v : α) : Nat → Nat → Nat → α := fun k' i' f' =>
  bif k'.beq k then (bif k.ble 8 then (bif f'.beq f then (bif i'.beq i then v else g k' i' f') else g k' i' f') else (bif i'.beq i then (bif f'.beq f then v else g k' i' f') else g k' i' f')) else g k' i' f'
theorem nbeq_ne {a b : Nat} (h : ¬ a = b) : a.beq b = false := by
  cases e : a.beq b with
  | true => exact absurd (Nat.eq_of_beq_eq_true e) h
  | false => rfl
theorem nbeq_rf (a : Nat) : a.beq a = true := Nat.beq_refl a
theorem up3_eq {α : Type} (g : Nat → Nat → Nat → α) (k i f : Nat) (v : α) (k' i' f' : Nat) : up3 g k i f v k' i' f' = if k' = k ∧ i' = i ∧ f' = f then v else g k' i' f' := by
  unfold up3
  by_cases h1 : k' = k
  · subst h1
    by_cases h2 : i' = i
    · subst h2
      by_cases h3 : f' = f
      · subst h3; cases k'.ble 8 <;> simp [nbeq_rf]
      · cases k'.ble 8 <;> simp [nbeq_rf, nbeq_ne h3, h3]
    · by_cases h3 : f' = f
      · subst h3; cases k'.ble 8 <;> simp [nbeq_rf, nbeq_ne h2, h2]
      · cases k'.ble 8 <;> simp [nbeq_rf, nbeq_ne h2, nbeq_ne h3, h2, h3]
  · simp [nbeq_ne h1, h1]
def si (S : zS) (k i f : Nat) (v : Int32) : zS := (up3 S.1 k i f v, S.2)
def sj (S : zS) (k i f : Nat) (v : Int64) : zS := (S.1, up3 S.2.1 k i f v, S.2.2)
def sr (S : zS) (k i f : Nat) (v : Option Nat) : zS := (S.1, S.2.1, up3 S.2.2 k i f v)
theorem gi_si (S : zS) (k i f : Nat) (v : Int32) (k' i' f' : Nat) : gi (si S k i f v) k' i' f' = if k' = k ∧ i' = i ∧ f' = f then v else gi S k' i' f' := up3_eq _ _ _ _ _ _ _ _
theorem gj_sj (S : zS) (k i f : Nat) (v : Int64) (k' i' f' : Nat) : gj (sj S k i f v) k' i' f' = if k' = k ∧ i' = i ∧ f' = f then v else gj S k' i' f' := up3_eq _ _ _ _ _ _ _ _
theorem gr_sr (S : zS) (k i f : Nat) (v : Option Nat) (k' i' f' : Nat) : gr (sr S k i f v) k' i' f' = if k' = k ∧ i' = i ∧ f' = f then v else gr S k' i' f' := up3_eq _ _ _ _ _ _ _ _
theorem gi_sj (S : zS) (k i f : Nat) (v : Int64) (k' i' f' : Nat) : gi (sj S k i f v) k' i' f' = gi S k' i' f' := rfl
theorem gi_sr (S : zS) (k i f : Nat) (v : Option Nat) (k' i' f' : Nat) : gi (sr S k i f v) k' i' f' = gi S k' i' f' := rfl
theorem gj_si (S : zS) (k i f : Nat) (v : Int32) (k' i' f' : Nat) : gj (si S k i f v) k' i' f' = gj S k' i' f' := rfl
theorem gj_sr (S : zS) (k i f : Nat) (v : Option Nat) (k' i' f' : Nat) : gj (sr S k i f v) k' i' f' = gj S k' i' f' := rfl
theorem gr_si (S : zS) (k i f : Nat) (v : Int32) (k' i' f' : Nat) : gr (si S k i f v) k' i' f' = gr S k' i' f' := rfl
theorem gr_sj (S : zS) (k i f : Nat) (v : Int64) (k' i' f' : Nat) : gr (sj S k i f v) k' i' f' = gr S k' i' f' := rfl
/-- what a slot is: 0 int or boolean, 1 long, t + 2 a reference to a cell of kind t -/
def zk (k f : Nat) : Nat := match k with
  | 0 => (match f with | 8 => 1 | _ => 0)
  | 1 => (match f with | 0 => 17 | 1 => 6 | _ => 0)
  | 2 => (match f with | 1 => 8 | 2 => 2 | _ => 0)
  | 3 => (match f with | 0 => 8 | _ => 0)
  | 4 => (match f with | 0 => 8 | _ => 0)
  | 5 => (match f with | 0 => 11 | _ => 0)
  | 6 => (match f with | 2 => 1 | _ => 0)
  | 7 => (match f with | 0 => 16 | 1 => 15 | 2 => 18 | 3 => 14 | 4 => 3 | 5 => 11 | _ => 0)
  | 8 => (match f with | 0 => 0 | 1 => 12 | 7 => 13 | 10 => 0 | 20 => 12 | 28 => 12 | 29 => 0 | 30 => 0 | 31 => 0 | 32 => 13 | 43 => 12 | 44 => 0 | _ => 11)
  | 10 => 1
  | 12 => 2
  | 13 => 4
  | 14 => 5
  | 15 => 6
  | 16 => 7
  | _ => 0
def zn (k : Nat) : Nat := match k with
  | 0 => 9 | 1 => 4 | 2 => 9 | 3 => 5 | 4 => 9 | 5 => 3 | 6 => 3 | 7 => 9 | _ => 45
def zrv (ad : Nat → Nat → Nat) (t : Nat) (o : Option Nat) : Value := match o with
  | none => .null
  | some j => .ref (ad t j)
def zvt (ad : Nat → Nat → Nat) (S : zS) (k i f t : Nat) : Value := match t with
  | 0 => .int (gi S k i f)
  | 1 => .long (gj S k i f)
  | t + 2 => zrv ad t (gr S k i f)
def zv (ad : Nat → Nat → Nat) (S : zS) (k i f : Nat) : Value := zvt ad S k i f (zk k f)
def zN (Z : zZ) (k i : Nat) : Nat := if k < 9 then zn k else Z.2.2 k i
def zC (D : va_G) (ar : Nat → ClassId) (Z : zZ) (S : zS) (k i : Nat) (H : Heap) : Prop :=
  if k < 9 then t_OB (Z.1 k i) (D.1 k) (zn k) (D.2 k) H (zv Z.1 S k i) else H[Z.1 k i]? = some (arrV (ar k) (Z.2.2 k i) (zv Z.1 S k i))
def zW (D : va_G) (ar : Nat → ClassId) (A : Nat → Prop) (Z : zZ) (S : zS) (H : Heap) : Prop :=
  (∀ k i, Z.2.1 k i → zC D ar Z S k i H ∧ A (Z.1 k i)) ∧ (∀ k i k' i', Z.2.1 k i → Z.2.1 k' i' → Z.1 k i = Z.1 k' i' → k = k' ∧ i = i') ∧
  ∀ k i f t j, Z.2.1 k i → f < zN Z k i → zk k f = t + 2 → gr S k i f = some j → Z.2.1 t j
/-- the array classes -/
def zT (ar : Nat → ClassId) : List (ClassId × FieldType) := [(ar 9, .int), (ar 10, .long), (ar 11, .boolean), (ar 12, .object RX0), (ar 13, .object RX2), (ar 14, .object RX3), (ar 15, .object RX4), (ar 16, .object RX5)]
/-- the words that a method can't take from its caller as it stands -/
def zX (U : State) : Prop := va_Nw (.castable "[I" "java/lang/Cloneable") U ∧ va_Nw (.methodLinkNest RX7 28 yX3_init RX7) U ∧ va_Nw (.methodLinkNest RX3 11 yX6_init RX7) U ∧ va_Nw (.methodLinkNest RX2 11 yX6_init RX7) U ∧ va_Nw (.methodLinkNest RX1 17 yX4_init RX7) U ∧ va_Nw (.methodLinkNest RX4 9 yX6_init RX7) U ∧ va_AO RX0 U ∧ va_AO RX2 U ∧ va_AO RX3 U ∧ va_AO RX4 U ∧ va_AO RX5 U
def zK (D : va_G) (ar : Nat → ClassId) (U : State) : Prop := va_K D vwCl (zT ar) U ∧ zX U
theorem zC.kept {D : va_G} {ar : Nat → ClassId} {Z : zZ} {S S1 : zS} {k i : Nat} {H H1 : Heap} (h : zC D ar Z S k i H) (hq : H1[Z.1 k i]? = H[Z.1 k i]?) (hv : ∀ f, zv Z.1 S1 k i f = zv Z.1 S k i f) : zC D ar Z S1 k i H1 := by
  have e : zv Z.1 S1 k i = zv Z.1 S k i := funext hv
  unfold zC at h ⊢
  split
  · rename_i h9
    rw [if_pos h9] at h
    rw [e]
    exact h.kept hq
  · rename_i h9
    rw [if_neg h9] at h
    rw [e, hq]
    exact h
theorem zC.lt {D : va_G} {ar : Nat → ClassId} {Z : zZ} {S : zS} {k i : Nat} {H : Heap} (h : zC D ar Z S k i H) : Z.1 k i < H.size := by
  unfold zC at h
  split at h
  · obtain ⟨cell, h2, -⟩ := h
    exact (Array.getElem?_eq_some_iff.mp h2).1
  · exact (Array.getElem?_eq_some_iff.mp h).1
theorem zW.set {D : va_G} {ar : Nat → ClassId} {A : Nat → Prop} {Z : zZ} {S S1 : zS} {H H1 : Heap} (h : zW D ar A Z S H) {k i : Nat} (hd : Z.2.1 k i) (hc : zC D ar Z S1 k i H1) (ho : ∀ k' i', ¬ (k' = k ∧ i' = i) → ∀ f, zv Z.1 S1 k' i' f = zv Z.1 S k' i' f)
    (oq : ∀ q : Nat, q ≠ Z.1 k i → H1[q]? = H[q]?) (hr : ∀ k' i' f t j, Z.2.1 k' i' → f < zN Z k' i' → zk k' f = t + 2 → gr S1 k' i' f = some j → Z.2.1 t j) : zW D ar A Z S1 H1 := by
  refine ⟨fun k' i' hd' => ?_, h.2.1, hr⟩
  by_cases e : k' = k ∧ i' = i
  · obtain ⟨rfl, rfl⟩ := e
    exact ⟨hc, (h.1 _ _ hd).2⟩
  · exact ⟨(h.1 _ _ hd').1.kept (oq _ (fun q => e (h.2.1 _ _ _ _ hd' hd q))) (ho _ _ e), (h.1 _ _ hd').2⟩
theorem zv_si_other {ad : Nat → Nat → Nat} {S : zS} {k i f : Nat} {v : Int32} {k' i' : Nat} (e : ¬ (k' = k ∧ i' = i)) (f' : Nat) : zv ad (si S k i f v) k' i' f' = zv ad S k' i' f' := by
  unfold zv zvt
  split
  · rw [gi_si, if_neg (fun q => e ⟨q.1, q.2.1⟩)]
  · rfl
  · rfl
theorem zv_sj_other {ad : Nat → Nat → Nat} {S : zS} {k i f : Nat} {v : Int64} {k' i' : Nat} (e : ¬ (k' = k ∧ i' = i)) (f' : Nat) : zv ad (sj S k i f v) k' i' f' = zv ad S k' i' f' := by
  unfold zv zvt
  split
  · rfl
  · rw [gj_sj, if_neg (fun q => e ⟨q.1, q.2.1⟩)]
  · rfl
theorem zv_sr_other {ad : Nat → Nat → Nat} {S : zS} {k i f : Nat} {v : Option Nat} {k' i' : Nat} (e : ¬ (k' = k ∧ i' = i)) (f' : Nat) : zv ad (sr S k i f v) k' i' f' = zv ad S k' i' f' := by
  unfold zv zvt
  split
  · rfl
  · rfl
  · rw [gr_sr, if_neg (fun q => e ⟨q.1, q.2.1⟩)]
theorem zv_si_upd {ad : Nat → Nat → Nat} {S : zS} {k i f : Nat} {v : Int32} (h0 : zk k f = 0) (f' : Nat) : zv ad (si S k i f v) k i f' = updV (zv ad S k i) f (.int v) f' := by
  unfold updV
  by_cases e : f' = f
  · subst e
    simp [zv, zvt, h0, gi_si]
  · rw [if_neg e]
    unfold zv zvt
    split
    · rw [gi_si, if_neg (fun q => e q.2.2)]
    · rfl
    · rfl
theorem zv_sj_upd {ad : Nat → Nat → Nat} {S : zS} {k i f : Nat} {v : Int64} (h0 : zk k f = 1) (f' : Nat) : zv ad (sj S k i f v) k i f' = updV (zv ad S k i) f (.long v) f' := by
  unfold updV
  by_cases e : f' = f
  · subst e
    simp [zv, zvt, h0, gj_sj]
  · rw [if_neg e]
    unfold zv zvt
    split
    · rfl
    · rw [gj_sj, if_neg (fun q => e q.2.2)]
    · rfl
theorem zv_sr_upd {ad : Nat → Nat → Nat} {S : zS} {k i f t : Nat} {v : Option Nat} (h0 : zk k f = t + 2) (f' : Nat) : zv ad (sr S k i f v) k i f' = updV (zv ad S k i) f (zrv ad t v) f' := by
  unfold updV
  by_cases e : f' = f
  · subst e
    simp [zv, zvt, h0, gr_sr]
  · rw [if_neg e]
    unfold zv zvt
    split
    · rfl
    · rfl
    · rw [gr_sr, if_neg (fun q => e q.2.2)]
theorem zW.sr_ok {D : va_G} {ar : Nat → ClassId} {A : Nat → Prop} {Z : zZ} {S : zS} {H : Heap} (h : zW D ar A Z S H) {k i f t : Nat} {v : Option Nat} (h0 : zk k f = t + 2) (hv : ∀ j, v = some j → Z.2.1 t j) : ∀ k' i' f' t' j, Z.2.1 k' i' → f' < zN Z k' i' → zk k' f' = t' + 2 → gr (sr S k i f v) k' i' f' = some j → Z.2.1 t' j := by
  intro k' i' f' t' j hd hf hz hg
  rw [gr_sr] at hg
  split at hg
  · rename_i e
    obtain ⟨rfl, rfl, rfl⟩ := e
    have : t' = t := by omega
    subst this
    exact hv j hg
  · exact h.2.2 _ _ _ _ _ hd hf hz hg
def zd (t : Nat) : Value := match t with
  | 0 => .int 0
  | 1 => .long 0
  | _ => .null
/-- a class by its kind: what the rows need of it -/
def zCl (k : Nat) (C : String) (T : u_T) (N : Nat) : Prop := k < 9 ∧ vwCl[k]? = some (C, T, N) ∧ zn k = N ∧ (∀ w ∈ u_ws C T N, w ∈ zU) ∧ (∃ ty : Nat → FieldType, (∀ j, j < N → parseFieldDescriptor (T j).2.2.1 = some (ty j)) ∧ ∀ j, j < N → defaultValue (ty j) = zd (zk k j)) ∧ (∀ a, a < N → ∀ b, b < N → a ≠ b → (T a).2.1 ≠ (T b).2.1) ∧ ∀ j, j < N → (T j).1 = C
/-- what holds all through a method -/
def zM (p : Program) (c : Code) (m : MethodId) (args : Array Value) (s : State) (cc : ByteArray) (own : String) (D : va_G) (ar : Nat → ClassId) : Prop := p.tables.exec = Jvm.exec ∧ c.code = cc ∧ s.vm.findClass own = some m.cls ∧ (∀ w ∈ zU, w.before args s = true) ∧ zK D ar s
section ZR
variable {p : Program} {l : Launch} {e : Env} {R : Room} {s : State} {m : MethodId} {args : Array Value} {below : List Frame} {meth : Method} {c : Code} {H : Heap} {locs : List Loc} {cells slots : Nat} {Q : State → Prop}
variable {cc : ByteArray} {pc : Nat} {ls : Array Slot} {rest : List Value} {D : va_G} {ar : Nat → ClassId} {A : Nat → Prop} {Z : zZ} {S : zS} {H0 : Heap} {own C : String} {T : u_T} {N k i index : Nat}
theorem z_get (hM : zM p c m args s cc own D ar) (hW : zW D ar A Z S H) (hC : zCl k C T N) (hd : Z.2.1 k i) {a : Nat} (ha : Z.1 k i = a) (f : Nat) (hf : f < N) (hl : Cond.fieldLink own index C (T f).2.1 (T f).2.2.1 ∈ zU) {v : Value} (hv : zv Z.1 S k i f = v) (hdg : decode cc pc = .ok (.getfield index, 3))
    (kk : W p l e R s m args below meth c H locs cells slots Q (F0 m (pc + 3) ls (v :: rest))) : W p l e R s m args below meth c H locs cells slots Q (F0 m pc ls (.ref a :: rest)) := by
  subst ha
  obtain ⟨h9, hc, rfl, hin, -, hnm, hTC⟩ := hC
  have hcell := (hW.1 _ _ hd).1
  unfold zC at hcell
  rw [if_pos h9] at hcell
  obtain ⟨cell, q1, q2, q3, q4⟩ := hcell
  obtain ⟨hS, hfc, kC, hkC, hkind⟩ := hM.2.2.2.2.1.1 k _ hc
  obtain ⟨cf, kf, fi, fd, hi, hsl⟩ := hS f hf
  rw [hTC f hf] at hi
  refine W.getf hM.1 hM.2.1 hM.2.2.1 (hM.2.2.2.1 _ hl) hi (u_facts hfc hkC (u_lays hM.2.2.2.1 hin hf) (by rw [hTC f hf]; exact hi)).1 q1 (by rw [q3]; exact fun h => by cases h) (v := v) ?_ rfl rfl hdg kk
  rw [hsl, q4 f hf, hv]
theorem z_getr (hM : zM p c m args s cc own D ar) (hW : zW D ar A Z S H) (hC : zCl k C T N) (hd : Z.2.1 k i) {a : Nat} (ha : Z.1 k i = a) (f : Nat) (hf : f < N) (hl : Cond.fieldLink own index C (T f).2.1 (T f).2.2.1 ∈ zU) {t j : Nat} (ht : zk k f = t + 2) (hv : gr S k i f = some j) (hdg : decode cc pc = .ok (.getfield index, 3))
    (kk : Z.2.1 t j → W p l e R s m args below meth c H locs cells slots Q (F0 m (pc + 3) ls (.ref (Z.1 t j) :: rest))) : W p l e R s m args below meth c H locs cells slots Q (F0 m pc ls (.ref a :: rest)) :=
  z_get hM hW hC hd ha f hf hl (v := .ref (Z.1 t j)) (by simp [zv, zvt, ht, hv, zrv]) hdg (kk (hW.2.2 k i f t j hd (by rw [zN, if_pos hC.1, hC.2.2.1]; exact hf) ht hv))
/-- a store into a field, in general: the value v, the state behind it S1 -/
theorem z_put {S1 : zS} (hM : zM p c m args s cc own D ar) (hW : zW D ar A Z S H) (hS0 : va_S A H0 H locs) (hC : zCl k C T N) (hd : Z.2.1 k i) {a : Nat} (ha : Z.1 k i = a) (f : Nat) (hf : f < N) (hl : Cond.fieldLink own index C (T f).2.1 (T f).2.2.1 ∈ zU) (hfin : (T f).2.2.2 = false ∨ (meth.name = "<init>" ∧ C = own)) {ty : FieldType} {v : Value} (hp : parseFieldDescriptor (T f).2.2.1 = some ty) (hn : narrow ty v = v) (hfit : fits ty v = true)
    (h1 : ∀ f', zv Z.1 S1 k i f' = updV (zv Z.1 S k i) f v f') (h2 : ∀ k' i', ¬ (k' = k ∧ i' = i) → ∀ f', zv Z.1 S1 k' i' f' = zv Z.1 S k' i' f') (h3 : ∀ k' i' f' t j, Z.2.1 k' i' → f' < zN Z k' i' → zk k' f' = t + 2 → gr S1 k' i' f' = some j → Z.2.1 t j)
    (hdg : decode cc pc = .ok (.putfield index, 3)) (kk : ∀ (H1 : Heap) (locs1 : List Loc), zW D ar A Z S1 H1 → va_S A H0 H1 locs1 → W p l e R s m args below meth c H1 locs1 cells slots Q (F0 m (pc + 3) ls rest)) : W p l e R s m args below meth c H locs cells slots Q (F0 m pc ls (v :: .ref a :: rest)) := by
  subst ha
  obtain ⟨h9, hc, rfl, hin, ⟨ty0, hty, -⟩, hnm, hTC⟩ := hC
  have hlo := (hW.1 _ _ hd).2
  have hcell := (hW.1 _ _ hd).1
  unfold zC at hcell
  rw [if_pos h9] at hcell
  obtain ⟨cell, q1, q2, q3, q4⟩ := hcell
  have hap := va_apart (own := own) hM.2.2.2.1 hin ty0 hty hnm hM.2.2.2.2.1 hc
  obtain ⟨hS, hfc, kC, hkC, hkind⟩ := hM.2.2.2.2.1.1 k _ hc
  obtain ⟨cf, kf, fi, fd, hi, hsl⟩ := hS f hf
  have hst := (u_facts hfc hkC (u_lays hM.2.2.2.1 hin hf) hi).1
  have hi0 := hi
  rw [hTC f hf] at hi
  have fin : ∀ H' : Heap, H'[Z.1 k i]? = some (cell.setSlot fd.slot v) → H'.size = H.size → (∀ q, q ≠ Z.1 k i → H'[q]? = H[q]?) → W p l e R s m args below meth c H' (locs ++ [⟨Z.1 k i, fd.slot⟩]) cells slots Q (F0 m (pc + 3) ls rest) := by
    intro H' e1 e2 e3
    rw [hsl] at e1 ⊢
    refine kk H' _ (hW.set hd ?_ h2 e3 h3) (hS0.put e2 e3 hlo)
    unfold zC
    rw [if_pos h9]
    exact ⟨_, e1, q2, q3, fun j hj => by rw [h1]; exact t_set q4 hap hf v j hj⟩
  by_cases hfi : (T f).2.2.2 = true
  · have hlay := hM.2.2.2.1 _ (hin _ (u_in_lay hf))
    unfold u_lay at hlay
    rw [if_pos hfi] at hlay
    obtain ⟨hin2, hCo⟩ : meth.name = "<init>" ∧ C = own := by
      rcases hfin with h | h
      · rw [h] at hfi; cases hfi
      · exact h
    have hcf : m.cls = cf := by
      obtain ⟨_, _, c', _, _, _, -, -, hf', -, -, -, hown2, -⟩ := Cond.laysFinal_spec hlay
      have e1 : c' = cf := by have := hi0.symm.trans hf'; simp at this; exact this.1.symm
      rw [hTC f hf, hCo] at hown2
      rw [← e1]; exact Option.some.inj (hM.2.2.1.symm.trans hown2)
    have h6 := u_fits hfc hkC hkind (Or.inr hlay) hi0 hp hn hfit
    exact W.putFinK hM.1 hM.2.1 hM.2.2.1 (hM.2.2.2.1 _ hl) hi hst hcf hin2 (by rw [q2]; exact h6) q1 q3 (by rw [hsl]; exact k2_hasslot (q4 f hf)) rfl rfl hdg fin
  · have hfi : (T f).2.2.2 = false := by simpa using hfi
    have hlay := hM.2.2.2.1 _ (hin _ (u_in_lay hf))
    unfold u_lay at hlay
    rw [if_neg (by rw [hfi]; decide)] at hlay
    have h6 := u_store hfc hkC hkind hlay hi0 hp hn hfit
    exact W.putK hM.1 hM.2.1 (f := fd) ⟨hM.2.2.1, hM.2.2.2.1 _ hl, ⟨_, _, _, hi⟩, hst⟩ (by rw [q2]; exact h6) q1 q3 (by rw [hsl]; exact k2_hasslot (q4 f hf)) rfl rfl hdg fin
theorem z_puti (hM : zM p c m args s cc own D ar) (hW : zW D ar A Z S H) (hS0 : va_S A H0 H locs) (hC : zCl k C T N) (hd : Z.2.1 k i) {a : Nat} (ha : Z.1 k i = a) (f : Nat) (hf : f < N) (h0 : zk k f = 0) (hl : Cond.fieldLink own index C (T f).2.1 (T f).2.2.1 ∈ zU) (hfin : (T f).2.2.2 = false ∨ (meth.name = "<init>" ∧ C = own)) {x : Int32} (ty : FieldType) (hp : parseFieldDescriptor (T f).2.2.1 = some ty) (hn : narrow ty (.int x) = .int x) (hfit : fits ty (.int x) = true)
    (hdg : decode cc pc = .ok (.putfield index, 3)) (kk : ∀ (H1 : Heap) (locs1 : List Loc), zW D ar A Z (si S k i f x) H1 → va_S A H0 H1 locs1 → W p l e R s m args below meth c H1 locs1 cells slots Q (F0 m (pc + 3) ls rest)) : W p l e R s m args below meth c H locs cells slots Q (F0 m pc ls (.int x :: .ref a :: rest)) :=
  z_put hM hW hS0 hC hd ha f hf hl hfin hp hn hfit (fun f' => zv_si_upd h0 f') (fun _ _ e f' => zv_si_other e f') (fun _ _ _ _ _ a b d g => hW.2.2 _ _ _ _ _ a b d g) hdg kk
theorem z_putl (hM : zM p c m args s cc own D ar) (hW : zW D ar A Z S H) (hS0 : va_S A H0 H locs) (hC : zCl k C T N) (hd : Z.2.1 k i) {a : Nat} (ha : Z.1 k i = a) (f : Nat) (hf : f < N) (h0 : zk k f = 1) (hl : Cond.fieldLink own index C (T f).2.1 (T f).2.2.1 ∈ zU) (hfin : (T f).2.2.2 = false ∨ (meth.name = "<init>" ∧ C = own)) {x : Int64} (hp : parseFieldDescriptor (T f).2.2.1 = some .long)
    (hdg : decode cc pc = .ok (.putfield index, 3)) (kk : ∀ (H1 : Heap) (locs1 : List Loc), zW D ar A Z (sj S k i f x) H1 → va_S A H0 H1 locs1 → W p l e R s m args below meth c H1 locs1 cells slots Q (F0 m (pc + 3) ls rest)) : W p l e R s m args below meth c H locs cells slots Q (F0 m pc ls (.long x :: .ref a :: rest)) :=
  z_put hM hW hS0 hC hd ha f hf hl hfin hp rfl rfl (fun f' => zv_sj_upd h0 f') (fun _ _ e f' => zv_sj_other e f') (fun _ _ _ _ _ a b d g => hW.2.2 _ _ _ _ _ a b d g) hdg kk
theorem z_putr (hM : zM p c m args s cc own D ar) (hW : zW D ar A Z S H) (hS0 : va_S A H0 H locs) (hC : zCl k C T N) (hd : Z.2.1 k i) {a : Nat} (ha : Z.1 k i = a) (f : Nat) (hf : f < N) {t j : Nat} (h0 : zk k f = t + 2) (hj : Z.2.1 t j) (hl : Cond.fieldLink own index C (T f).2.1 (T f).2.2.1 ∈ zU) (hfin : (T f).2.2.2 = false ∨ (meth.name = "<init>" ∧ C = own)) (ty : FieldType) (hp : parseFieldDescriptor (T f).2.2.1 = some ty) (hn : ∀ a : Nat, narrow ty (.ref a) = .ref a) (hfit : ∀ a : Nat, fits ty (.ref a) = true)
    (hdg : decode cc pc = .ok (.putfield index, 3)) (kk : ∀ (H1 : Heap) (locs1 : List Loc), zW D ar A Z (sr S k i f (some j)) H1 → va_S A H0 H1 locs1 → W p l e R s m args below meth c H1 locs1 cells slots Q (F0 m (pc + 3) ls rest)) : W p l e R s m args below meth c H locs cells slots Q (F0 m pc ls (.ref (Z.1 t j) :: .ref a :: rest)) :=
  z_put hM hW hS0 hC hd ha f hf hl hfin hp (hn _) (hfit _) (fun f' => zv_sr_upd (v := some j) h0 f') (fun _ _ e f' => zv_sr_other e f') (hW.sr_ok h0 (fun x hx => by cases hx; exact hj)) hdg kk
theorem z_putn (hM : zM p c m args s cc own D ar) (hW : zW D ar A Z S H) (hS0 : va_S A H0 H locs) (hC : zCl k C T N) (hd : Z.2.1 k i) {a : Nat} (ha : Z.1 k i = a) (f : Nat) (hf : f < N) {t : Nat} (h0 : zk k f = t + 2) (hl : Cond.fieldLink own index C (T f).2.1 (T f).2.2.1 ∈ zU) (hfin : (T f).2.2.2 = false ∨ (meth.name = "<init>" ∧ C = own)) (ty : FieldType) (hp : parseFieldDescriptor (T f).2.2.1 = some ty) (hn : narrow ty .null = .null) (hfit : fits ty .null = true)
    (hdg : decode cc pc = .ok (.putfield index, 3)) (kk : ∀ (H1 : Heap) (locs1 : List Loc), zW D ar A Z (sr S k i f none) H1 → va_S A H0 H1 locs1 → W p l e R s m args below meth c H1 locs1 cells slots Q (F0 m (pc + 3) ls rest)) : W p l e R s m args below meth c H locs cells slots Q (F0 m pc ls (.null :: .ref a :: rest)) :=
  z_put hM hW hS0 hC hd ha f hf hl hfin hp hn hfit (fun f' => zv_sr_upd (v := none) h0 f') (fun _ _ e f' => zv_sr_other e f') (hW.sr_ok h0 (fun x hx => by cases hx)) hdg kk
end ZR
end
section
/-! rows over the abstract memory: arrays, new cells, calls, returns -/
theorem zc0 : zCl 0 RX0 TX0 9 := ⟨by decide, rfl, rfl, by decide +kernel, ⟨tyX0, tyX0_ok, by decide +kernel⟩, nmX0, by decide +kernel⟩
theorem zc1 : zCl 1 RX1 TX1 4 := ⟨by decide, rfl, rfl, by decide +kernel, ⟨tyX1, tyX1_ok, by decide +kernel⟩, nmX1, by decide +kernel⟩
theorem zc2 : zCl 2 RX2 TX2 9 := ⟨by decide, rfl, rfl, by decide +kernel, ⟨tyX2, tyX2_ok, by decide +kernel⟩, nmX2, by decide +kernel⟩
theorem zc3 : zCl 3 RX3 TX3 5 := ⟨by decide, rfl, rfl, by decide +kernel, ⟨tyX3, tyX3_ok, by decide +kernel⟩, nmX3, by decide +kernel⟩
theorem zc4 : zCl 4 RX4 TX4 9 := ⟨by decide, rfl, rfl, by decide +kernel, ⟨tyX4, tyX4_ok, by decide +kernel⟩, nmX4, by decide +kernel⟩
theorem zc5 : zCl 5 RX5 TX5 3 := ⟨by decide, rfl, rfl, by decide +kernel, ⟨tyX5, tyX5_ok, by decide +kernel⟩, nmX5, by decide +kernel⟩
theorem zc6 : zCl 6 RX6 TX6 3 := ⟨by decide, rfl, rfl, by decide +kernel, ⟨tyX6, tyX6_ok, by decide +kernel⟩, nmX6, by decide +kernel⟩
theorem zc7 : zCl 7 RX7 TX7 9 := ⟨by decide, rfl, rfl, by decide +kernel, ⟨tyX7, tyX7_ok, by decide +kernel⟩, nmX7, by decide +kernel⟩
theorem zc8 : zCl 8 RX8 TX8 45 := ⟨by decide, rfl, rfl, by decide +kernel, ⟨tyX8, tyX8_ok, by decide +kernel⟩, nmX8, by decide +kernel⟩
theorem arrV_ext {cI : ClassId} {N : Nat} {f g : Nat → Value} (h : ∀ j, j < N → f j = g j) : arrV cI N f = arrV cI N g := by
  have e : (Array.ofFn (n := N) fun j => f j.val) = Array.ofFn (n := N) fun j => g j.val := by
    congr 1
    funext j
    exact h j.val j.isLt
  unfold arrV
  rw [e]
/-- a new cell -/
def zext (Z Z' : zZ) (k i n : Nat) : Prop := (∀ k' i', Z.2.1 k' i' → Z'.1 k' i' = Z.1 k' i' ∧ Z'.2.2 k' i' = Z.2.2 k' i') ∧ (∀ k' i', Z'.2.1 k' i' ↔ Z.2.1 k' i' ∨ (k' = k ∧ i' = i)) ∧ Z'.2.2 k i = n
def sz (S : zS) (k i : Nat) : zS := (fun k' i' f => if k' = k ∧ i' = i then 0 else S.1 k' i' f, fun k' i' f => if k' = k ∧ i' = i then 0 else S.2.1 k' i' f, fun k' i' f => if k' = k ∧ i' = i then none else S.2.2 k' i' f)
theorem zv_sz {ad : Nat → Nat → Nat} {S : zS} {k i : Nat} (f : Nat) : zv ad (sz S k i) k i f = zd (zk k f) := by
  unfold zv
  generalize zk k f = t
  match t with
  | 0 => simp [zvt, zd, gi, sz]
  | 1 => simp [zvt, zd, gj, sz]
  | t + 2 => simp [zvt, zd, gr, sz, zrv]
def zadd (Z : zZ) (k i q n : Nat) : zZ := (fun k' i' => if k' = k ∧ i' = i then q else Z.1 k' i', fun k' i' => Z.2.1 k' i' ∨ (k' = k ∧ i' = i), fun k' i' => if k' = k ∧ i' = i then n else Z.2.2 k' i')
theorem zadd_ext {Z : zZ} {k i q n : Nat} (hn : ¬ Z.2.1 k i) : zext Z (zadd Z k i q n) k i n := by
  refine ⟨fun k' i' hd => ?_, fun k' i' => Iff.rfl, by simp [zadd]⟩
  have e : ¬ (k' = k ∧ i' = i) := fun e => hn (by rw [← e.1, ← e.2]; exact hd)
  simp [zadd, e]
theorem zv_move {D : va_G} {ar : Nat → ClassId} {A : Nat → Prop} {Z Z' : zZ} {S S1 : zS} {H : Heap} (h : zW D ar A Z S H) (ha : ∀ k' i', Z.2.1 k' i' → Z'.1 k' i' = Z.1 k' i') {k i f : Nat} (hd : Z.2.1 k i) (hf : f < zN Z k i) (h1 : gi S1 k i f = gi S k i f) (h2 : gj S1 k i f = gj S k i f) (h3 : gr S1 k i f = gr S k i f) : zv Z'.1 S1 k i f = zv Z.1 S k i f := by
  unfold zv
  generalize ht : zk k f = t
  match t, ht with
  | 0, _ => simp [zvt, h1]
  | 1, _ => simp [zvt, h2]
  | t + 2, ht =>
    simp only [zvt, h3]
    cases hg : gr S k i f with
    | none => rfl
    | some j => simp only [zrv]; rw [ha _ _ (h.2.2 _ _ _ _ _ hd hf ht hg)]
theorem zW.add {D : va_G} {ar : Nat → ClassId} {A : Nat → Prop} {Z : zZ} {S S1 : zS} {H H1 : Heap} (h : zW D ar A Z S H) {k i n : Nat} (hn : ¬ Z.2.1 k i) (hlo : A H.size) (o1 : ∀ q : Nat, q < H.size → H1[q]? = H[q]?)
    (hc : zC D ar (zadd Z k i H.size n) S1 k i H1) (hs : ∀ k' i' f, ¬ (k' = k ∧ i' = i) → gi S1 k' i' f = gi S k' i' f ∧ gj S1 k' i' f = gj S k' i' f ∧ gr S1 k' i' f = gr S k' i' f) (hr : ∀ f, gr S1 k i f = none) : zW D ar A (zadd Z k i H.size n) S1 H1 := by
  have hx := zadd_ext (q := H.size) (n := n) hn
  have hne : ∀ k' i', Z.2.1 k' i' → ¬ (k' = k ∧ i' = i) := fun k' i' hd e => hn (by rw [← e.1, ← e.2]; exact hd)
  refine ⟨fun k' i' hd => ?_, fun k' i' k'' i'' hd1 hd2 he => ?_, fun k' i' f t j hd hf ht hg => ?_⟩
  · rcases hd with hd | ⟨rfl, rfl⟩
    · have e1 := (hx.1 _ _ hd).1
      have e2 := (hx.1 _ _ hd).2
      refine ⟨?_, by rw [e1]; exact (h.1 _ _ hd).2⟩
      have hcell := (h.1 _ _ hd).1
      have hlt := hcell.lt
      have hz : ∀ f, f < zN Z k' i' → zv (zadd Z k i H.size n).1 S1 k' i' f = zv Z.1 S k' i' f := fun f hf =>
        zv_move h (fun a b hab => (hx.1 a b hab).1) hd hf (hs _ _ f (hne _ _ hd)).1 (hs _ _ f (hne _ _ hd)).2.1 (hs _ _ f (hne _ _ hd)).2.2
      unfold zC at hcell ⊢
      by_cases h9 : k' < 9
      · rw [if_pos h9] at hcell ⊢
        rw [e1]
        exact (hcell.kept (o1 _ hlt)).to (fun f hf => (hz f (by rw [zN, if_pos h9]; exact hf)).symm)
      · rw [if_neg h9] at hcell ⊢
        rw [e1, e2, o1 _ hlt, hcell]
        congr 1
        exact arrV_ext (fun f hf => (hz f (by rw [zN, if_neg h9]; exact hf)).symm)
    · exact ⟨hc, by simpa [zadd] using hlo⟩
  · rcases hd1 with hd1 | ⟨rfl, rfl⟩ <;> rcases hd2 with hd2 | ⟨rfl, rfl⟩
    · rw [(hx.1 _ _ hd1).1, (hx.1 _ _ hd2).1] at he
      exact h.2.1 _ _ _ _ hd1 hd2 he
    · rw [(hx.1 _ _ hd1).1] at he
      have := (h.1 _ _ hd1).1.lt
      simp [zadd] at he
      omega
    · rw [(hx.1 _ _ hd2).1] at he
      have := (h.1 _ _ hd2).1.lt
      simp [zadd] at he
      omega
    · exact ⟨rfl, rfl⟩
  · rcases hd with hd | ⟨rfl, rfl⟩
    · rw [(hs _ _ f (hne _ _ hd)).2.2] at hg
      have hf' : f < zN Z k' i' := by
        unfold zN at hf ⊢
        split at hf
        · rename_i h9; rw [if_pos h9]; exact hf
        · rename_i h9; rw [if_neg h9]; rw [(hx.1 _ _ hd).2] at hf; exact hf
      exact Or.inl (h.2.2 _ _ _ _ _ hd hf' ht hg)
    · rw [hr] at hg; cases hg
section ZR2
variable {p : Program} {l : Launch} {e : Env} {R : Room} {s : State} {m : MethodId} {args : Array Value} {below : List Frame} {meth : Method} {c : Code} {H : Heap} {locs : List Loc} {cells slots : Nat} {Q : State → Prop}
variable {cc : ByteArray} {pc : Nat} {ls : Array Slot} {rest : List Value} {D : va_G} {ar : Nat → ClassId} {A : Nat → Prop} {Z : zZ} {S : zS} {H0 : Heap} {own C : String} {T : u_T} {N k i index a : Nat}
theorem zW.arr (hW : zW D ar A Z S H) (hd : Z.2.1 k i) (h9 : ¬ k < 9) : H[Z.1 k i]? = some (arrV (ar k) (Z.2.2 k i) (zv Z.1 S k i)) := by
  have h := (hW.1 _ _ hd).1
  unfold zC at h
  rw [if_neg h9] at h
  exact h
theorem z_iald (hM : zM p c m args s cc own D ar) (hW : zW D ar A Z S H) (hd : Z.2.1 9 i) (ha : Z.1 9 i = a) {j : Int32} (hin : vp_in j (Z.2.2 9 i)) {v : Int32} (hv : gi S 9 i j.toNatClampNeg = v) (hdg : decode cc pc = .ok (.iaload, 1))
    (kk : W p l e R s m args below meth c H locs cells slots Q (F0 m (pc + 1) ls (.int v :: rest))) : W p l e R s m args below meth c H locs cells slots Q (F0 m pc ls (.int j :: .ref a :: rest)) := by
  subst ha hv
  have hlt : j.toNatClampNeg < Z.2.2 9 i := Nat.not_le.mp fun q => hin (Or.inr q)
  exact W.iald (v := .int (gi S 9 i j.toNatClampNeg)) hM.1 hM.2.1 (hW.arr hd (by decide)) ((hM.2.2.2.2.1.2 0 (ar 9, .int) rfl).1 _ _) (fun q => by cases q) (by rw [arrV_size]; exact hin) (by rw [arrV_read _ _ hlt]; rfl) rfl rfl hdg kk
theorem z_lald (hM : zM p c m args s cc own D ar) (hW : zW D ar A Z S H) (hd : Z.2.1 10 i) (ha : Z.1 10 i = a) {j : Int32} (hin : vp_in j (Z.2.2 10 i)) {v : Int64} (hv : gj S 10 i j.toNatClampNeg = v) (hdg : decode cc pc = .ok (.laload, 1))
    (kk : W p l e R s m args below meth c H locs cells slots Q (F0 m (pc + 1) ls (.long v :: rest))) : W p l e R s m args below meth c H locs cells slots Q (F0 m pc ls (.int j :: .ref a :: rest)) := by
  subst ha hv
  have hlt : j.toNatClampNeg < Z.2.2 10 i := Nat.not_le.mp fun q => hin (Or.inr q)
  exact W.lald (v := .long (gj S 10 i j.toNatClampNeg)) hM.1 hM.2.1 (hW.arr hd (by decide)) ((hM.2.2.2.2.1.2 1 (ar 10, .long) rfl).1 _ _) (fun q => by cases q) (by rw [arrV_size]; exact hin) (by rw [arrV_read _ _ hlt]; rfl) rfl rfl hdg kk
theorem z_zald (hM : zM p c m args s cc own D ar) (hW : zW D ar A Z S H) (hd : Z.2.1 11 i) (ha : Z.1 11 i = a) {j : Int32} (hin : vp_in j (Z.2.2 11 i)) {v : Int32} (hv : gi S 11 i j.toNatClampNeg = v) (hdg : decode cc pc = .ok (.baload, 1))
    (kk : W p l e R s m args below meth c H locs cells slots Q (F0 m (pc + 1) ls (.int v :: rest))) : W p l e R s m args below meth c H locs cells slots Q (F0 m pc ls (.int j :: .ref a :: rest)) := by
  subst ha hv
  have hlt : j.toNatClampNeg < Z.2.2 11 i := Nat.not_le.mp fun q => hin (Or.inr q)
  exact W.zald (v := .int (gi S 11 i j.toNatClampNeg)) hM.1 hM.2.1 (hW.arr hd (by decide)) ((hM.2.2.2.2.1.2 2 (ar 11, .boolean) rfl).1 _ _) (fun q => by cases q) (by rw [arrV_size]; exact hin) (by rw [arrV_read _ _ hlt]; rfl) rfl rfl hdg kk
theorem z_aald (hM : zM p c m args s cc own D ar) (hW : zW D ar A Z S H) (hd : Z.2.1 k i) (h9 : ¬ k < 9) (ha : Z.1 k i = a) (t0 : Nat) (ht : (zT ar)[t0]? = some (ar k, .object C)) {j : Int32} (hin : vp_in j (Z.2.2 k i)) {v : Value} (hv : zv Z.1 S k i j.toNatClampNeg = v) (hdg : decode cc pc = .ok (.aaload, 1))
    (kk : W p l e R s m args below meth c H locs cells slots Q (F0 m (pc + 1) ls (v :: rest))) : W p l e R s m args below meth c H locs cells slots Q (F0 m pc ls (.int j :: .ref a :: rest)) := by
  subst ha hv
  have hlt : j.toNatClampNeg < Z.2.2 k i := Nat.not_le.mp fun q => hin (Or.inr q)
  exact W.aald (v := zv Z.1 S k i j.toNatClampNeg) (ty := .object C) hM.1 hM.2.1 (hW.arr hd h9) ((hM.2.2.2.2.1.2 t0 _ ht).1 _ _) rfl (fun q => by cases q) (by rw [arrV_size]; exact hin) (by rw [arrV_read _ _ hlt]) rfl rfl hdg kk
theorem z_aaldr (hM : zM p c m args s cc own D ar) (hW : zW D ar A Z S H) (hd : Z.2.1 k i) (h9 : ¬ k < 9) (ha : Z.1 k i = a) (t0 : Nat) (ht : (zT ar)[t0]? = some (ar k, .object C)) {j : Int32} (hin : vp_in j (Z.2.2 k i)) {t q : Nat} (hz : zk k j.toNatClampNeg = t + 2) (hv : gr S k i j.toNatClampNeg = some q) (hdg : decode cc pc = .ok (.aaload, 1))
    (kk : Z.2.1 t q → W p l e R s m args below meth c H locs cells slots Q (F0 m (pc + 1) ls (.ref (Z.1 t q) :: rest))) : W p l e R s m args below meth c H locs cells slots Q (F0 m pc ls (.int j :: .ref a :: rest)) :=
  z_aald hM hW hd h9 ha t0 ht hin (v := .ref (Z.1 t q)) (by simp [zv, zvt, hz, hv, zrv]) hdg (kk (hW.2.2 k i _ t q hd (by rw [zN, if_neg h9]; exact Nat.not_le.mp fun x => hin (Or.inr x)) hz hv))
theorem z_alen (hM : zM p c m args s cc own D ar) (hW : zW D ar A Z S H) (hd : Z.2.1 k i) (h9 : ¬ k < 9) (ha : Z.1 k i = a) (t0 : Nat) {ty : FieldType} (ht : (zT ar)[t0]? = some (ar k, ty)) {v : Int32} (hv : Int32.ofNat (Z.2.2 k i) = v) (hdg : decode cc pc = .ok (.arraylength, 1))
    (kk : W p l e R s m args below meth c H locs cells slots Q (F0 m (pc + 1) ls (.int v :: rest))) : W p l e R s m args below meth c H locs cells slots Q (F0 m pc ls (.ref a :: rest)) := by
  subst ha hv
  exact W.alen (n := Int32.ofNat (Z.2.2 k i)) hM.1 hM.2.1 (hW.arr hd h9) ((hM.2.2.2.2.1.2 t0 _ ht).1 _ _) (by rw [arrV_size] <;> rfl) rfl rfl hdg kk
theorem zC_arr {S1 : zS} {H1 : Heap} {j : Nat} {v : Value} (h9 : ¬ k < 9) (e : H1[Z.1 k i]? = some ((arrV (ar k) (Z.2.2 k i) (zv Z.1 S k i)).setSlot j v)) (h1 : ∀ f', zv Z.1 S1 k i f' = updV (zv Z.1 S k i) j v f') : zC D ar Z S1 k i H1 := by
  unfold zC
  rw [if_neg h9, e, arrV_store]
  congr 1
  exact arrV_ext (fun f _ => (h1 f).symm)
theorem z_iast (hM : zM p c m args s cc own D ar) (hW : zW D ar A Z S H) (hS0 : va_S A H0 H locs) (hd : Z.2.1 9 i) (ha : Z.1 9 i = a) {j x : Int32} (hin : vp_in j (Z.2.2 9 i)) (hdg : decode cc pc = .ok (.iastore, 1))
    (kk : ∀ (H1 : Heap) (locs1 : List Loc), zW D ar A Z (si S 9 i j.toNatClampNeg x) H1 → va_S A H0 H1 locs1 → W p l e R s m args below meth c H1 locs1 cells slots Q (F0 m (pc + 1) ls rest)) : W p l e R s m args below meth c H locs cells slots Q (F0 m pc ls (.int x :: .int j :: .ref a :: rest)) := by
  subst ha
  refine W.iast hM.1 hM.2.1 (hW.arr hd (by decide)) ((hM.2.2.2.2.1.2 0 (ar 9, .int) rfl).1 _ _) (fun q => by cases q) (by rw [arrV_size]; exact hin) rfl rfl hdg fun H1 e1 z oq => ?_
  exact kk H1 _ (hW.set hd (zC_arr (by decide) e1 (fun f' => zv_si_upd rfl f')) (fun _ _ e f' => zv_si_other e f') oq (fun _ _ _ _ _ a b d g => hW.2.2 _ _ _ _ _ a b d g)) (hS0.put z oq (hW.1 _ _ hd).2)
theorem z_last (hM : zM p c m args s cc own D ar) (hW : zW D ar A Z S H) (hS0 : va_S A H0 H locs) (hd : Z.2.1 10 i) (ha : Z.1 10 i = a) {j : Int32} {x : Int64} (hin : vp_in j (Z.2.2 10 i)) (hdg : decode cc pc = .ok (.lastore, 1))
    (kk : ∀ (H1 : Heap) (locs1 : List Loc), zW D ar A Z (sj S 10 i j.toNatClampNeg x) H1 → va_S A H0 H1 locs1 → W p l e R s m args below meth c H1 locs1 cells slots Q (F0 m (pc + 1) ls rest)) : W p l e R s m args below meth c H locs cells slots Q (F0 m pc ls (.long x :: .int j :: .ref a :: rest)) := by
  subst ha
  refine W.last hM.1 hM.2.1 (hW.arr hd (by decide)) ((hM.2.2.2.2.1.2 1 (ar 10, .long) rfl).1 _ _) (fun q => by cases q) (by rw [arrV_size]; exact hin) rfl rfl hdg fun H1 e1 z oq => ?_
  exact kk H1 _ (hW.set hd (zC_arr (by decide) e1 (fun f' => zv_sj_upd rfl f')) (fun _ _ e f' => zv_sj_other e f') oq (fun _ _ _ _ _ a b d g => hW.2.2 _ _ _ _ _ a b d g)) (hS0.put z oq (hW.1 _ _ hd).2)
theorem z_zast (hM : zM p c m args s cc own D ar) (hW : zW D ar A Z S H) (hS0 : va_S A H0 H locs) (hd : Z.2.1 11 i) (ha : Z.1 11 i = a) {j x : Int32} (hin : vp_in j (Z.2.2 11 i)) (hn : narrow .boolean (.int x) = .int x) (hdg : decode cc pc = .ok (.bastore, 1))
    (kk : ∀ (H1 : Heap) (locs1 : List Loc), zW D ar A Z (si S 11 i j.toNatClampNeg x) H1 → va_S A H0 H1 locs1 → W p l e R s m args below meth c H1 locs1 cells slots Q (F0 m (pc + 1) ls rest)) : W p l e R s m args below meth c H locs cells slots Q (F0 m pc ls (.int x :: .int j :: .ref a :: rest)) := by
  subst ha
  refine W.zast hM.1 hM.2.1 (hW.arr hd (by decide)) ((hM.2.2.2.2.1.2 2 (ar 11, .boolean) rfl).1 _ _) (fun q => by cases q) (by rw [arrV_size]; exact hin) rfl rfl hdg fun H1 e1 z oq => ?_
  rw [hn] at e1
  exact kk H1 _ (hW.set hd (zC_arr (by decide) e1 (fun f' => zv_si_upd rfl f')) (fun _ _ e f' => zv_si_other e f') oq (fun _ _ _ _ _ a b d g => hW.2.2 _ _ _ _ _ a b d g)) (hS0.put z oq (hW.1 _ _ hd).2)
theorem z_aast (hM : zM p c m args s cc own D ar) (hW : zW D ar A Z S H) (hS0 : va_S A H0 H locs) (hd : Z.2.1 k i) (h9 : ¬ k < 9) (ha : Z.1 k i = a) (t0 : Nat) (ht : (zT ar)[t0]? = some (ar k, .object C)) {t q b : Nat} (hz : ∀ f, zk k f = t + 2) (hC : zCl t C T N) (hq : Z.2.1 t q) (hb : Z.1 t q = b) {j : Int32} (hin : vp_in j (Z.2.2 k i)) (hdg : decode cc pc = .ok (.aastore, 1))
    (kk : ∀ (H1 : Heap) (locs1 : List Loc), zW D ar A Z (sr S k i j.toNatClampNeg (some q)) H1 → va_S A H0 H1 locs1 → W p l e R s m args below meth c H1 locs1 cells slots Q (F0 m (pc + 1) ls rest)) : W p l e R s m args below meth c H locs cells slots Q (F0 m pc ls (.ref b :: .int j :: .ref a :: rest)) := by
  subst ha hb
  have hlt : j.toNatClampNeg < Z.2.2 k i := Nat.not_le.mp fun q => hin (Or.inr q)
  have h0 : ¬ j < 0 := fun q => hin (Or.inl q)
  have hcell := (hW.1 _ _ hq).1
  unfold zC at hcell
  rw [if_pos hC.1] at hcell
  obtain ⟨cellV, g1, g2, g3, -⟩ := hcell
  have hcls := (hM.2.2.2.2.1.1 t _ hC.2.1).2
  obtain ⟨kA, comp, k1, k2, k3, -⟩ := (hM.2.2.2.2.1.2 t0 _ ht).2
  have hcomp : comp = D.1 t := Option.some.inj (k3.symm.trans hcls.1)
  subst hcomp
  obtain ⟨kC, hkC, -⟩ := hcls.2
  refine W.aast hM.1 hM.2.1 (hW.arr hd h9) (fun q h => by cases h) (fun h => by cases h) k1 k2 rfl hkC ⟨h0, by rw [arrV_size]; exact hlt⟩ g1 (fun q h => by rw [g3] at h; cases h) (by rw [g2]; exact hkC) (by rw [g2]; exact va_assign hcls) rfl rfl hdg fun H1 e1 z oq => ?_
  exact kk H1 _ (hW.set hd (zC_arr h9 e1 (fun f' => zv_sr_upd (v := some q) (hz _) f')) (fun _ _ e f' => zv_sr_other e f') oq (hW.sr_ok (hz _) (fun x hx => by cases hx; exact hq))) (hS0.put z oq (hW.1 _ _ hd).2)
theorem z_new (hM : zM p c m args s cc own D ar) (hW : zW D ar A Z S H) (hS0 : va_S A H0 H locs) (hlo : ∀ q, H0.size ≤ q → A q) (hC : zCl k C T N) (i : Nat) (hn : ¬ Z.2.1 k i) (hl : Cond.classLink own index C ∈ zU) (hi : Cond.instantiable C N ∈ zU) (hz : Cond.initialized C ∈ zU) (hcells : cells + 1 ≤ R.cells) (hslots : slots + N ≤ R.slots) (hdg : decode cc pc = .ok (.new index, 3))
    (kk : ∀ (Z' : zZ) (H1 : Heap), zext Z Z' k i 0 → zW D ar A Z' (sz S k i) H1 → va_S A H0 H1 locs → W p l e R s m args below meth c H1 locs (cells + 1) (slots + N) Q (F0 m (pc + 3) ls (.ref (Z'.1 k i) :: rest))) : W p l e R s m args below meth c H locs cells slots Q (F0 m pc ls rest) := by
  obtain ⟨h9, hc, rfl, hin, ⟨ty0, hty, hdf⟩, hnm, hTC⟩ := hC
  have hKn := hM.2.2.2.2.1.1 k _ hc
  refine W.newcK hM.1 hM.2.1 hM.2.2.1 (hM.2.2.2.1 _ hl) (hM.2.2.2.1 _ hi) (hM.2.2.2.1 _ hz) rfl hdg hcells hslots hKn.2.1 rfl fun H1 kC hkC e1 z1 o1 => ?_
  have hx := zadd_ext (Z := Z) (q := H.size) (n := 0) hn
  have e0 : (zadd Z k i H.size 0).1 k i = H.size := by simp [zadd]
  have hW1 : zW D ar A (zadd Z k i H.size 0) (sz S k i) H1 := by
    refine hW.add hn (hlo _ hS0.1) o1 ?_ (fun k' i' f e => by simp [gi, gj, gr, sz, e]) (fun f => by simp [gr, sz])
    unfold zC
    rw [if_pos h9, e0]
    exact (u_born ty0 hM.2.2.2.1 hin hKn hkC e1 hty).to (fun f hf => by rw [zv_sz]; exact hdf f hf)
  have := kk _ H1 hx hW1 ⟨Nat.le_trans hS0.1 (by omega), fun x h1 h2 => (o1 x (Nat.lt_of_lt_of_le h1 hS0.1)).trans (hS0.2.1 x h1 h2), hS0.2.2⟩
  rw [e0] at this
  exact this
theorem z_newa (hM : zM p c m args s cc own D ar) (hW : zW D ar A Z S H) (hS0 : va_S A H0 H locs) (hlo : ∀ q, H0.size ≤ q → A q) (i : Nat) (h9 : ¬ k < 9) (hn : ¬ Z.2.1 k i) {atype : ArrayType} {ty : FieldType} (hty : newarray.typeOf atype = ty) (t0 : Nat) (ht : (zT ar)[t0]? = some (ar k, ty)) (hl : Cond.arrayClass ty ∈ zU) (hRA : ∀ U cA, va_RA U cA ty → U.vm.findClass ("[" ++ ty.toString) = some cA) (hdf : ∀ f, defaultValue ty = zd (zk k f)) {x : Int32} {n : Nat} (hx0 : ¬ x < 0) (hN : x.toNatClampNeg = n) (hbytes : n * componentBytes ty ≤ 536870912) (hcells : cells + 1 ≤ R.cells) (hslots : slots + n ≤ R.slots) (hdg : decode cc pc = .ok (.newarray atype, 2))
    (kk : ∀ (Z' : zZ) (H1 : Heap), zext Z Z' k i n → zW D ar A Z' (sz S k i) H1 → va_S A H0 H1 locs → W p l e R s m args below meth c H1 locs (cells + 1) (slots + n) Q (F0 m (pc + 2) ls (.ref (Z'.1 k i) :: rest))) : W p l e R s m args below meth c H locs cells slots Q (F0 m pc ls (.int x :: rest)) := by
  subst hty
  refine va_newaK hM.1 hM.2.1 (hM.2.2.2.1 _ hl) rfl hdg rfl hx0 hN hbytes hcells hslots rfl fun H1 cA e1 z1 o1 hAr hNm => ?_
  have hcA : cA = ar k := Option.some.inj (hNm.symm.trans (hRA _ _ (hM.2.2.2.2.1.2 t0 _ ht).2))
  subst hcA
  have hx := zadd_ext (Z := Z) (q := H.size) (n := n) hn
  have e0 : (zadd Z k i H.size n).1 k i = H.size := by simp [zadd]
  have hW1 : zW D ar A (zadd Z k i H.size n) (sz S k i) H1 := by
    refine hW.add hn (hlo _ hS0.1) o1 ?_ (fun k' i' f e => by simp [gi, gj, gr, sz, e]) (fun f => by simp [gr, sz])
    unfold zC
    rw [if_neg h9, e0, e1, hx.2.2]
    congr 1
    exact arrV_ext (fun f _ => by rw [zv_sz]; exact hdf f)
  have := kk _ H1 hx hW1 ⟨Nat.le_trans hS0.1 (by omega), fun x h1 h2 => (o1 x (Nat.lt_of_lt_of_le h1 hS0.1)).trans (hS0.2.1 x h1 h2), hS0.2.2⟩
  rw [e0] at this
  exact this
theorem z_newq (hM : zM p c m args s cc own D ar) (hW : zW D ar A Z S H) (hS0 : va_S A H0 H locs) (hlo : ∀ q, H0.size ≤ q → A q) (i : Nat) (h9 : ¬ k < 9) (hn : ¬ Z.2.1 k i) (t0 : Nat) (ht : (zT ar)[t0]? = some (ar k, .object C)) (hl : Cond.classLink own index C ∈ zU) (hover : va_AO C s) (hdf : ∀ f, zd (zk k f) = .null) {x : Int32} {n : Nat} (hx0 : ¬ x < 0) (hN : x.toNatClampNeg = n) (hbytes : n * 4 ≤ 536870912) (hcells : cells + 1 ≤ R.cells) (hslots : slots + n ≤ R.slots) (hdg : decode cc pc = .ok (.anewarray index, 3))
    (kk : ∀ (Z' : zZ) (H1 : Heap), zext Z Z' k i n → zW D ar A Z' (sz S k i) H1 → va_S A H0 H1 locs → W p l e R s m args below meth c H1 locs (cells + 1) (slots + n) Q (F0 m (pc + 3) ls (.ref (Z'.1 k i) :: rest))) : W p l e R s m args below meth c H locs cells slots Q (F0 m pc ls (.int x :: rest)) := by
  subst hN
  refine W.anew hM.1 hM.2.1 hM.2.2.1 (hM.2.2.2.1 _ hl) (va_AO.use hover) rfl hdg rfl hx0 hbytes hcells hslots fun cA kA comp f1 f2 f3 f4 => ?_
  generalize hH1 : H.push ({ cls := cA, slots := Array.replicate x.toNatClampNeg .null, vm := .none } : Cell) = H1
  have z1 : H1.size = H.size + 1 := by rw [← hH1, Array.size_push]
  have e1 : H1[H.size]? = some (arrV cA x.toNatClampNeg (fun _ => .null)) := by rw [← hH1, Array.getElem?_push_size, ← arrV_new]
  have o1 : ∀ q : Nat, q < H.size → H1[q]? = H[q]? := fun q hq => by rw [← hH1, Array.getElem?_push, if_neg (Nat.ne_of_lt hq)]
  obtain ⟨kA', comp', k1, k2, k3, k4⟩ := (hM.2.2.2.2.1.2 t0 _ ht).2
  have hcA : cA = ar k := Option.some.inj (f1.symm.trans k4)
  subst hcA
  have hx := zadd_ext (Z := Z) (q := H.size) (n := x.toNatClampNeg) hn
  have e0 : (zadd Z k i H.size x.toNatClampNeg).1 k i = H.size := by simp [zadd]
  have hW1 : zW D ar A (zadd Z k i H.size x.toNatClampNeg) (sz S k i) H1 := by
    refine hW.add hn (hlo _ hS0.1) o1 ?_ (fun k' i' f e => by simp [gi, gj, gr, sz, e]) (fun f => by simp [gr, sz])
    unfold zC
    rw [if_neg h9, e0, e1, hx.2.2]
    congr 1
    exact arrV_ext (fun f _ => by rw [zv_sz]; exact (hdf f).symm)
  have := kk _ H1 hx hW1 ⟨Nat.le_trans hS0.1 (by omega), fun x h1 h2 => (o1 x (Nat.lt_of_lt_of_le h1 hS0.1)).trans (hS0.2.1 x h1 h2), hS0.2.2⟩
  rw [e0] at this
  exact this
end ZR2
end
section
/-! contracts, calls and returns over the abstract memory -/
def zP (D : va_G) (ar : Nat → ClassId) (A : Nat → Prop) (Z : zZ) (S : zS) (av : List Value) : Array Value → State → Prop := va_Pc av (fun U => zW D ar A Z S U.heap ∧ zK D ar U ∧ ∀ q, U.heap.size ≤ q → A q)
def zQ {α : Type} (D : va_G) (ar : Nat → ClassId) (A : Nat → Prop) (rv : zZ → α → Option Value) (post : α → zZ → zS → Prop) : Array Value → State → Outcome → State → Prop := fun _ st oc t => (∃ (r : α) (Z' : zZ) (S' : zS), oc = .returned (rv Z' r) ∧ post r Z' S' ∧ zW D ar A Z' S' t.heap) ∧ va_F A st t
def rvI : zZ → Int32 → Option Value := fun _ r => some (.int r)
def rvL : zZ → Int64 → Option Value := fun _ r => some (.long r)
def rvV : zZ → Unit → Option Value := fun _ _ => none
def rvR (t : Nat) : zZ → Option Nat → Option Value := fun Z r => some (zrv Z.1 t r)
def zMet {α : Type} (l : Launch) (y : MethodName) (bytes : ByteArray) (maxL : Nat) (ret : Option FieldType) (rm : Room) (D : va_G) (ar : Nat → ClassId) (A : Nat → Prop) (Z : zZ) (S : zS) (av : List Value) (rv : zZ → α → Option Value) (post : α → zZ → zS → Prop) : Prop :=
  Met l y (.code y bytes maxL ret :: zU) rm (zP D ar A Z S av) (zQ D ar A rv post) rm.cells rm.slots A
theorem zX.warm {s U : State} (hW : s.WarmedH U.vm) (h : zX s) : zX U := by
  obtain ⟨h1, h2, h3, h4, h5, h6, h7, h8, h9, h10, h11⟩ := h
  exact ⟨h1.warmC hW, h2.warmM hW, h3.warmM hW, h4.warmM hW, h5.warmM hW, h6.warmM hW, h7.moved hW.alike, h8.moved hW.alike, h9.moved hW.alike, h10.moved hW.alike, h11.moved hW.alike⟩
theorem zK.warm {D : va_G} {ar : Nat → ClassId} {s U : State} (hW : s.WarmedH U.vm) (h : zK D ar s) : zK D ar U := ⟨va_K.moved hW.alike h.1, h.2.warm hW⟩
theorem zX.same {u U : State} (hv : u.vm = U.vm) (h : zX u) : zX U := by
  obtain ⟨h1, h2, h3, h4, h5, h6, h7, h8, h9, h10, h11⟩ := h
  have al : u.vm.Alike U.vm := by rw [hv]; exact Vm.Alike.refl _
  exact ⟨va_tabs rfl hv h1, va_tabs rfl hv h2, va_tabs rfl hv h3, va_tabs rfl hv h4, va_tabs rfl hv h5, va_tabs rfl hv h6, h7.moved al, h8.moved al, h9.moved al, h10.moved al, h11.moved al⟩
theorem zP.blind (D : va_G) (ar : Nat → ClassId) (A : Nat → Prop) (Z : zZ) (S : zS) (av : List Value) : FrameBlind (zP D ar A Z S av) := by
  intro a U g mk q
  obtain ⟨q0, qW, qK, ql⟩ := q
  exact ⟨q0, qW, ⟨va_K.moved (u := U) (U := U.calling g mk a) (Vm.Alike.refl U.vm) qK.1, zX.same (u := U) (U := U.calling g mk a) rfl qK.2⟩, ql⟩
/-- what a call needs of the method called -/
def zY (C : String) (y : MethodName) (bytes : ByteArray) (maxL : Nat) (ret : Option FieldType) (n : Nat) : Prop := Cond.code y bytes maxL ret ∈ zU ∧ Cond.initialized C ∈ zU ∧ (y.cls = C ∧ y.cls ≠ "java/lang/invoke/MethodHandle" ∧ y.cls ≠ "java/lang/invoke/VarHandle" ∧ (parseMethodDescriptor y.desc).map (fun d => d.parameters.length) = some n) ∧ plainName y.cls = true
theorem zU_goodU {ws : List Cond} (h : ∀ w ∈ ws, w ∈ zU) : GoodIn zU ws := fun w hw => ⟨h w hw, good_of_word (List.mem_filter.mp (h w hw)).2⟩
section ZC
variable {p : Program} {l : Launch} {e : Env} {R : Room} {s : State} {m : MethodId} {args : Array Value} {below : List Frame} {meth : Method} {c : Code} {H : Heap} {locs : List Loc} {cells slots : Nat} {Q : State → Prop}
variable {cc : ByteArray} {pc : Nat} {ls : Array Slot} {rest st0 : List Value} {D : va_G} {ar : Nat → ClassId} {A : Nat → Prop} {Z : zZ} {S : zS} {H0 : Heap} {own C : String} {T : u_T} {N k i index a n maxL : Nat} {α : Type} {rv : zZ → α → Option Value} {post : α → zZ → zS → Prop} {y : MethodName} {bytes : ByteArray} {ret : Option FieldType} {rm : Room} {As : List Value}
theorem z_call {mc ms : Nat} {av : Array Value} (hr : va_Run p l e R s m args below meth c H locs cells slots mc ms (F0 m pc ls st0) rest (zQ D ar A rv post av) A) (hS : va_S A H0 H locs)
    (kk : ∀ (r : α) (Z' : zZ) (S' : zS) (H1 : Heap) (locs1 : List Loc), post r Z' S' → zW D ar A Z' S' H1 → va_S A H0 H1 locs1 → W p l e R s m args below meth c H1 locs1 (cells + mc) (slots + ms) Q (F0 m (pc + 3) ls ((rv Z' r).toList ++ rest))) : W p l e R s m args below meth c H locs cells slots Q (F0 m pc ls st0) := by
  intro T hT X
  obtain ⟨v, st₀, t, T', L, h0, X', hL, e1, e2, ⟨⟨r, Z', S', hv, hp, hb⟩, hz, hk⟩, st⟩ := hr T hT X
  cases hv
  rw [h0] at hz hk
  obtain ⟨t2, a1, b1⟩ := kk r Z' S' T'.heap (locs ++ L) hp (by rw [e1]; exact hb)
    ⟨Nat.le_trans hS.1 (by rw [e1]; exact hz), fun q h1 h2 => by rw [e1, hk q (Nat.lt_of_lt_of_le h1 hS.1) h2]; exact hS.2.1 q h1 h2, fun q hq => by
      rcases List.mem_append.mp hq with h | h
      · exact hS.2.2 q h
      · exact hL q h⟩ T' rfl X'
  exact ⟨t2, st t2 a1, b1⟩
theorem z_callV (hM : zM p c m args s cc own D ar) (hml : c.maxLocals = ls.size) (hW : zW D ar A Z S H) (hS : va_S A H0 H locs) (hlo : ∀ q, H0.size ≤ q → A q) (hC : zCl k C T N) (hd : Z.2.1 k i) (hy : zY C y bytes maxL ret n) (hl : Cond.methodLink own index y ∈ zU) (hi : Cond.instanceMethod y ∈ zU) (hse : Cond.selects C y y ∈ zU)
    (hMet : zMet l y bytes maxL ret rm D ar A Z S (.ref (Z.1 k i) :: As) rv post) (hn : As.length = n) (hst : st0 = As.reverse ++ .ref (Z.1 k i) :: rest) (h8 : (rest.map fun v => v.category).sum ≤ 8) (hR : rm.frames + 1 ≤ R.frames ∧ 8 + (maxL + 11) + rm.locals ≤ R.locals) (hf : cells + rm.cells ≤ R.cells ∧ slots + rm.slots ≤ R.slots) (hdg : decode cc pc = .ok (.invokevirtual index, 3))
    (kk : ∀ (r : α) (Z' : zZ) (S' : zS) (H1 : Heap) (locs1 : List Loc), post r Z' S' → zW D ar A Z' S' H1 → va_S A H0 H1 locs1 → W p l e R s m args below meth c H1 locs1 (cells + rm.cells) (slots + rm.slots) Q (F0 m (pc + 3) ls ((rv Z' r).toList ++ rest))) : W p l e R s m args below meth c H locs cells slots Q (F0 m pc ls st0) := by
  have hG : GoodIn zU (wsV own index C y (.code y bytes maxL ret :: zU)) := zU_goodU (by
    intro w hw
    simp only [wsV, List.mem_append, List.mem_cons, List.not_mem_nil, or_false] at hw
    rcases hw with (rfl | rfl | rfl | rfl) | rfl | h
    · exact hl
    · exact hi
    · exact hse
    · exact hy.2.1
    · exact hy.1
    · exact h)
  have hcell := (hW.1 _ _ hd).1
  unfold zC at hcell
  rw [if_pos hC.1] at hcell
  obtain ⟨cell, q1, q2, q3, -⟩ := hcell
  have hfc := (hM.2.2.2.2.1.1 k _ hC.2.1).2.1
  refine z_call (va_runV (As := As) (rest := rest) (b := Z.1 k i) ⟨hM.1, hM.2.1, hml, hM.2.2.1, hM.2.2.2.1⟩ hMet (cwV n hM.2.2.2.1 hG rfl rfl rfl hy.2.2.1 hR) ⟨zP.blind _ _ _ _ _ _, ⟨cell, q1, by rw [q3]; rfl, by rw [q2]; exact hfc⟩, fun U hU hW1 => ⟨rfl, by rw [hU]; exact hW, hM.2.2.2.2.warm hW1, fun q h => hlo q (Nat.le_trans hS.1 (by rw [hU] at h; exact h))⟩⟩ rfl hn rfl hst (by simpa using h8) hdg hf) hS kk
theorem z_callS (hM : zM p c m args s cc own D ar) (hml : c.maxLocals = ls.size) (hW : zW D ar A Z S H) (hS : va_S A H0 H locs) (hlo : ∀ q, H0.size ≤ q → A q) (hy : zY C y bytes maxL ret n) (hl : Cond.methodLink own index y ∈ zU) (hi : Cond.static y ∈ zU)
    (hMet : zMet l y bytes maxL ret rm D ar A Z S As rv post) (hn : As.length = n) (hst : st0 = As.reverse ++ rest) (h8 : (rest.map fun v => v.category).sum ≤ 8) (hR : rm.frames + 1 ≤ R.frames ∧ 8 + (maxL + 11) + rm.locals ≤ R.locals) (hf : cells + rm.cells ≤ R.cells ∧ slots + rm.slots ≤ R.slots) (hdg : decode cc pc = .ok (.invokestatic index, 3))
    (kk : ∀ (r : α) (Z' : zZ) (S' : zS) (H1 : Heap) (locs1 : List Loc), post r Z' S' → zW D ar A Z' S' H1 → va_S A H0 H1 locs1 → W p l e R s m args below meth c H1 locs1 (cells + rm.cells) (slots + rm.slots) Q (F0 m (pc + 3) ls ((rv Z' r).toList ++ rest))) : W p l e R s m args below meth c H locs cells slots Q (F0 m pc ls st0) := by
  have hG : GoodIn zU (va_wsS own index y (.code y bytes maxL ret :: zU)) := zU_goodU (by
    intro w hw
    simp only [va_wsS, List.mem_append, List.mem_cons, List.not_mem_nil, or_false] at hw
    rcases hw with (rfl | rfl | rfl) | rfl | h
    · exact hl
    · exact hi
    · rw [hy.2.2.1.1]; exact hy.2.1
    · exact hy.1
    · exact h)
  refine z_call (va_runS (As := As) (rest := rest) ⟨hM.1, hM.2.1, hml, hM.2.2.1, hM.2.2.2.1⟩ hMet (va_cwS n hM.2.2.2.1 hG rfl rfl rfl hy.2.2.1.2 hR) ⟨zP.blind _ _ _ _ _ _, fun U hU hW1 => ⟨rfl, by rw [hU]; exact hW, hM.2.2.2.2.warm hW1, fun q h => hlo q (Nat.le_trans hS.1 (by rw [hU] at h; exact h))⟩⟩ rfl hn rfl hst (by simpa using h8) hdg hf) hS kk
theorem z_callI (hM : zM p c m args s cc own D ar) (hml : c.maxLocals = ls.size) (hW : zW D ar A Z S H) (hS : va_S A H0 H locs) (hlo : ∀ q, H0.size ≤ q → A q) (hy : zY C y bytes maxL none n) (hy1 : y.name = "<init>") (hl : Cond.methodLink own index y ∈ zU) (hi : Cond.instanceMethod y ∈ zU)
    (hMet : zMet l y bytes maxL none rm D ar A Z S (.ref a :: As) rv post) (hn : As.length = n) (hst : st0 = As.reverse ++ .ref a :: rest) (h8 : (rest.map fun v => v.category).sum ≤ 8) (hR : rm.frames + 1 ≤ R.frames ∧ 8 + (maxL + 11) + rm.locals ≤ R.locals) (hf : cells + rm.cells ≤ R.cells ∧ slots + rm.slots ≤ R.slots) (hdg : decode cc pc = .ok (.invokespecial index, 3))
    (kk : ∀ (r : α) (Z' : zZ) (S' : zS) (H1 : Heap) (locs1 : List Loc), post r Z' S' → zW D ar A Z' S' H1 → va_S A H0 H1 locs1 → W p l e R s m args below meth c H1 locs1 (cells + rm.cells) (slots + rm.slots) Q (F0 m (pc + 3) ls ((rv Z' r).toList ++ rest))) : W p l e R s m args below meth c H locs cells slots Q (F0 m pc ls st0) := by
  have hG : GoodIn zU (.code y bytes maxL none :: zU) := zU_goodU (by
    intro w hw
    rcases List.mem_cons.mp hw with rfl | h
    · exact hy.1
    · exact h)
  refine z_call (va_runI (As := As) (rest := rest) (b := a) ⟨hM.1, hM.2.1, hml, hM.2.2.1, hM.2.2.2.1⟩ hMet (cwI n hM.2.2.2.1 hG rfl rfl rfl (by rw [hy.2.2.1.1]; exact hM.2.2.2.1 _ hy.2.1) (hM.2.2.2.1 _ hl) (hM.2.2.2.1 _ hi) hy1 hy.2.2.1.2 hR) ⟨zP.blind _ _ _ _ _ _, fun U hU hW1 => ⟨rfl, by rw [hU]; exact hW, hM.2.2.2.2.warm hW1, fun q h => hlo q (Nat.le_trans hS.1 (by rw [hU] at h; exact h))⟩⟩ rfl hn rfl hst (by simpa using h8) hdg hf) hS kk
theorem z_callN (hM : zM p c m args s cc own D ar) (hml : c.maxLocals = ls.size) (hW : zW D ar A Z S H) (hS : va_S A H0 H locs) (hlo : ∀ q, H0.size ≤ q → A q) (hy : zY C y bytes maxL none n) (hy1 : y.name = "<init>") {host : String} (hl : va_Nw (.methodLinkNest own index y host) s) (hi : Cond.instanceMethod y ∈ zU)
    (hMet : zMet l y bytes maxL none rm D ar A Z S (.ref a :: As) rv post) (hn : As.length = n) (hst : st0 = As.reverse ++ .ref a :: rest) (h8 : (rest.map fun v => v.category).sum ≤ 8) (hR : rm.frames + 1 ≤ R.frames ∧ 8 + (maxL + 11) + rm.locals ≤ R.locals) (hf : cells + rm.cells ≤ R.cells ∧ slots + rm.slots ≤ R.slots) (hdg : decode cc pc = .ok (.invokespecial index, 3))
    (kk : ∀ (r : α) (Z' : zZ) (S' : zS) (H1 : Heap) (locs1 : List Loc), post r Z' S' → zW D ar A Z' S' H1 → va_S A H0 H1 locs1 → W p l e R s m args below meth c H1 locs1 (cells + rm.cells) (slots + rm.slots) Q (F0 m (pc + 3) ls ((rv Z' r).toList ++ rest))) : W p l e R s m args below meth c H locs cells slots Q (F0 m pc ls st0) := by
  have hG : GoodIn zU (.code y bytes maxL none :: zU) := zU_goodU (by
    intro w hw
    rcases List.mem_cons.mp hw with rfl | h
    · exact hy.1
    · exact h)
  refine z_call (va_runIN (As := As) (rest := rest) (b := a) ⟨hM.1, hM.2.1, hml, hM.2.2.1, hM.2.2.2.1⟩ hMet ⟨va_cnB n hM.2.2.2.1 hG rfl rfl rfl hl (by rw [hy.2.2.1.1]; exact hM.2.2.2.1 _ hy.2.1) hy.2.2.1.2 hR, hy1, hM.2.2.2.1 _ hi⟩ ⟨zP.blind _ _ _ _ _ _, fun U hU hW1 => ⟨rfl, by rw [hU]; exact hW, hM.2.2.2.2.warm hW1, fun q h => hlo q (Nat.le_trans hS.1 (by rw [hU] at h; exact h))⟩⟩ rfl hn rfl hst (by simpa using h8) hdg hf) hS kk
/-- returns -/
theorem z_iret {post : Int32 → zZ → zS → Prop} (hM : zM p c m args s cc own D ar) (hlk : meth.locks = false) {v : Int32} {ty : FieldType} (hr : meth.sig.returnType = some ty) (hn : narrow ty (.int v) = .int v) (hW : zW D ar A Z S H) (hS : va_S A s.heap H locs) (hp : post v Z S) (hdg : decode cc pc = .ok (.ireturn, 1)) : W p l e R s m args below meth c H locs cells slots (MQ below (zQ D ar A rvI post) args s cells slots A) (F0 m pc ls [.int v]) :=
  W.zret (hlocks := hlk) hM.1 hM.2.1 hr hn (fun t ht _ => ⟨⟨v, Z, S, rfl, hp, by rw [ht]; exact hW⟩, hS.F ht⟩) hS.2.2 hdg
theorem z_lret {post : Int64 → zZ → zS → Prop} (hM : zM p c m args s cc own D ar) (hlk : meth.locks = false) {v : Int64} (hr : meth.sig.returnType = some .long) (hW : zW D ar A Z S H) (hS : va_S A s.heap H locs) (hp : post v Z S) (hdg : decode cc pc = .ok (.lreturn, 1)) : W p l e R s m args below meth c H locs cells slots (MQ below (zQ D ar A rvL post) args s cells slots A) (F0 m pc ls [.long v]) :=
  W.lret (hlocks := hlk) hM.1 hM.2.1 hr (fun t ht _ => ⟨⟨v, Z, S, rfl, hp, by rw [ht]; exact hW⟩, hS.F ht⟩) hS.2.2 hdg
theorem z_vret {post : Unit → zZ → zS → Prop} (hM : zM p c m args s cc own D ar) (hlk : meth.locks = false) (hr : meth.sig.returnType = none) (hW : zW D ar A Z S H) (hS : va_S A s.heap H locs) (hp : post () Z S) (hdg : decode cc pc = .ok (.return_, 1)) : W p l e R s m args below meth c H locs cells slots (MQ below (zQ D ar A rvV post) args s cells slots A) (F0 m pc ls []) :=
  W.vret (hlocks := hlk) hM.1 hM.2.1 hr (fun t ht _ => ⟨⟨(), Z, S, rfl, hp, by rw [ht]; exact hW⟩, hS.F ht⟩) hS.2.2 hdg
theorem z_aret {t : Nat} {post : Option Nat → zZ → zS → Prop} (hM : zM p c m args s cc own D ar) (hlk : meth.locks = false) {C0 : String} (hr : meth.sig.returnType = some (.object C0)) (o : Option Nat) {v : Value} (hv : v = zrv Z.1 t o) (hW : zW D ar A Z S H) (hS : va_S A s.heap H locs) (hp : post o Z S) (hdg : decode cc pc = .ok (.areturn, 1)) : W p l e R s m args below meth c H locs cells slots (MQ below (zQ D ar A (rvR t) post) args s cells slots A) (F0 m pc ls [v]) :=
  W.aret (hlocks := hlk) hM.1 hM.2.1 hr (Or.inl ⟨_, rfl⟩) (by cases o with | none => exact Or.inl hv | some j => exact Or.inr ⟨_, hv⟩) (fun t ht _ => ⟨⟨o, Z, S, by rw [hv]; rfl, hp, by rw [ht]; exact hW⟩, hS.F ht⟩) hS.2.2 hdg
end ZC
theorem z_body {α : Type} {l : Launch} {y : MethodName} {bytes : ByteArray} {maxL : Nat} {ret : Option FieldType} {rm : Room} {D : va_G} {ar : Nat → ClassId} {A : Nat → Prop} {Z : zZ} {S : zS} {av : List Value} {rv : zZ → α → Option Value} {post : α → zZ → zS → Prop} (hpl : plainName y.cls = true) (hlen : (lg_sl av).length ≤ maxL)
    (body : ∀ (p : Program) (e : Env) (s : State) (m : MethodId) (below : List Frame) (meth : Method) (c : Code) (ls : Array Slot), zM p c m av.toArray s bytes y.cls D ar → meth.sig.returnType = ret → meth.locks = false → c.maxLocals = maxL → meth.name = y.name → lv_has ls maxL (lv_args 0 av) → zW D ar A Z S s.heap → (∀ q, s.heap.size ≤ q → A q) →
      W p l e rm s m av.toArray below meth c s.heap [] 0 0 (MQ below (zQ D ar A rv post) av.toArray s rm.cells rm.slots A) (F0 m 0 ls [])) : zMet l y bytes maxL ret rm D ar A Z S av rv post := by
  refine Met.ofW (cc := bytes) (maxL := maxL) (ret := ret) hpl rfl ?_
  intro p e s m args below meth c s₁ B hml hv
  obtain ⟨rfl, hW, hK, hlo⟩ := hv
  have hts := atoms_spec (ws := .code y bytes maxL ret :: zU) B.pre
  have hown : s.vm.findClass y.cls = some m.cls := findClass_of_methodNamed B.named
  have hin : meth.name = y.name := (name_of_methodNamed B.named B.method).1
  have hl := lv_entry av (n := maxL) hlen
  rw [lg_entry_eq]
  exact body p e s m below meth c _ ⟨B.exec, B.bytes, hown, zU_low hts, hK⟩ B.returns B.notSynchronized hml hin hl hW hlo
abbrev ix (x : Int32) : Nat := x.toNatClampNeg
/-- a method that answers r0 and leaves the state S2, with the cells that there were -/
def zF {α : Type} (r0 : α) (Z : zZ) (S2 : zS) : α → zZ → zS → Prop := fun r Z' S' => r = r0 ∧ Z' = Z ∧ S' = S2
theorem zF.rf {α : Type} {r : α} {Z : zZ} {S : zS} : zF r Z S r Z S := ⟨rfl, rfl, rfl⟩
theorem zF.of {α : Type} {r r0 : α} {Z : zZ} {S S0 : zS} (h1 : r = r0) (h2 : S = S0) : zF r0 Z S0 r Z S := ⟨h1, rfl, h2⟩
end
section
section ZF
variable {p : Program} {l : Launch} {e : Env} {R : Room} {s : State} {m : MethodId} {args : Array Value} {below : List Frame} {meth : Method} {c : Code} {H : Heap} {locs : List Loc} {cells slots : Nat} {Q : State → Prop}
variable {cc : ByteArray} {pc : Nat} {ls : Array Slot} {rest st0 : List Value} {D : va_G} {ar : Nat → ClassId} {A : Nat → Prop} {Z : zZ} {S S2 : zS} {H0 : Heap} {own C : String} {T : u_T} {N k i index a n maxL : Nat} {y : MethodName} {bytes : ByteArray} {ret : Option FieldType} {rm : Room} {As : List Value}
theorem z_Vi {r0 : Int32} (hM : zM p c m args s cc own D ar) (hml : c.maxLocals = ls.size) (hW : zW D ar A Z S H) (hS : va_S A H0 H locs) (hlo : ∀ q, H0.size ≤ q → A q) (hC : zCl k C T N) (hd : Z.2.1 k i) (ha : Z.1 k i = a) (hy : zY C y bytes maxL ret n) (hl : Cond.methodLink own index y ∈ zU) (hi : Cond.instanceMethod y ∈ zU) (hse : Cond.selects C y y ∈ zU)
    (hMet : zMet l y bytes maxL ret rm D ar A Z S (.ref (Z.1 k i) :: As) rvI (zF r0 Z S2)) (hn : As.length = n) (hst : st0 = As.reverse ++ .ref a :: rest) (h8 : (rest.map fun v => v.category).sum ≤ 8) (hR : rm.frames + 1 ≤ R.frames ∧ 8 + (maxL + 11) + rm.locals ≤ R.locals) (hf : cells + rm.cells ≤ R.cells ∧ slots + rm.slots ≤ R.slots) (hdg : decode cc pc = .ok (.invokevirtual index, 3))
    (kk : ∀ (H1 : Heap) (locs1 : List Loc), zW D ar A Z S2 H1 → va_S A H0 H1 locs1 → W p l e R s m args below meth c H1 locs1 (cells + rm.cells) (slots + rm.slots) Q (F0 m (pc + 3) ls (.int r0 :: rest))) : W p l e R s m args below meth c H locs cells slots Q (F0 m pc ls st0) := by
  refine z_callV hM hml hW hS hlo hC hd hy hl hi hse hMet hn (by rw [hst, ha]) h8 hR hf hdg (fun r Z' S' H1 locs1 hp hW1 hS1 => ?_)
  obtain ⟨e1, e2, e3⟩ := hp
  subst e1 e2 e3
  exact kk H1 locs1 hW1 hS1
theorem z_Vl {r0 : Int64} (hM : zM p c m args s cc own D ar) (hml : c.maxLocals = ls.size) (hW : zW D ar A Z S H) (hS : va_S A H0 H locs) (hlo : ∀ q, H0.size ≤ q → A q) (hC : zCl k C T N) (hd : Z.2.1 k i) (ha : Z.1 k i = a) (hy : zY C y bytes maxL ret n) (hl : Cond.methodLink own index y ∈ zU) (hi : Cond.instanceMethod y ∈ zU) (hse : Cond.selects C y y ∈ zU)
    (hMet : zMet l y bytes maxL ret rm D ar A Z S (.ref (Z.1 k i) :: As) rvL (zF r0 Z S2)) (hn : As.length = n) (hst : st0 = As.reverse ++ .ref a :: rest) (h8 : (rest.map fun v => v.category).sum ≤ 8) (hR : rm.frames + 1 ≤ R.frames ∧ 8 + (maxL + 11) + rm.locals ≤ R.locals) (hf : cells + rm.cells ≤ R.cells ∧ slots + rm.slots ≤ R.slots) (hdg : decode cc pc = .ok (.invokevirtual index, 3))
    (kk : ∀ (H1 : Heap) (locs1 : List Loc), zW D ar A Z S2 H1 → va_S A H0 H1 locs1 → W p l e R s m args below meth c H1 locs1 (cells + rm.cells) (slots + rm.slots) Q (F0 m (pc + 3) ls (.long r0 :: rest))) : W p l e R s m args below meth c H locs cells slots Q (F0 m pc ls st0) := by
  refine z_callV hM hml hW hS hlo hC hd hy hl hi hse hMet hn (by rw [hst, ha]) h8 hR hf hdg (fun r Z' S' H1 locs1 hp hW1 hS1 => ?_)
  obtain ⟨e1, e2, e3⟩ := hp
  subst e1 e2 e3
  exact kk H1 locs1 hW1 hS1
theorem z_Vv {r0 : Unit} (hM : zM p c m args s cc own D ar) (hml : c.maxLocals = ls.size) (hW : zW D ar A Z S H) (hS : va_S A H0 H locs) (hlo : ∀ q, H0.size ≤ q → A q) (hC : zCl k C T N) (hd : Z.2.1 k i) (ha : Z.1 k i = a) (hy : zY C y bytes maxL ret n) (hl : Cond.methodLink own index y ∈ zU) (hi : Cond.instanceMethod y ∈ zU) (hse : Cond.selects C y y ∈ zU)
    (hMet : zMet l y bytes maxL ret rm D ar A Z S (.ref (Z.1 k i) :: As) rvV (zF r0 Z S2)) (hn : As.length = n) (hst : st0 = As.reverse ++ .ref a :: rest) (h8 : (rest.map fun v => v.category).sum ≤ 8) (hR : rm.frames + 1 ≤ R.frames ∧ 8 + (maxL + 11) + rm.locals ≤ R.locals) (hf : cells + rm.cells ≤ R.cells ∧ slots + rm.slots ≤ R.slots) (hdg : decode cc pc = .ok (.invokevirtual index, 3))
    (kk : ∀ (H1 : Heap) (locs1 : List Loc), zW D ar A Z S2 H1 → va_S A H0 H1 locs1 → W p l e R s m args below meth c H1 locs1 (cells + rm.cells) (slots + rm.slots) Q (F0 m (pc + 3) ls (rest))) : W p l e R s m args below meth c H locs cells slots Q (F0 m pc ls st0) := by
  refine z_callV hM hml hW hS hlo hC hd hy hl hi hse hMet hn (by rw [hst, ha]) h8 hR hf hdg (fun r Z' S' H1 locs1 hp hW1 hS1 => ?_)
  obtain ⟨e1, e2, e3⟩ := hp
  subst e1 e2 e3
  exact kk H1 locs1 hW1 hS1
theorem z_Vr {t : Nat} {r0 : Option Nat} (hM : zM p c m args s cc own D ar) (hml : c.maxLocals = ls.size) (hW : zW D ar A Z S H) (hS : va_S A H0 H locs) (hlo : ∀ q, H0.size ≤ q → A q) (hC : zCl k C T N) (hd : Z.2.1 k i) (ha : Z.1 k i = a) (hy : zY C y bytes maxL ret n) (hl : Cond.methodLink own index y ∈ zU) (hi : Cond.instanceMethod y ∈ zU) (hse : Cond.selects C y y ∈ zU)
    (hMet : zMet l y bytes maxL ret rm D ar A Z S (.ref (Z.1 k i) :: As) (rvR t) (zF r0 Z S2)) (hn : As.length = n) (hst : st0 = As.reverse ++ .ref a :: rest) (h8 : (rest.map fun v => v.category).sum ≤ 8) (hR : rm.frames + 1 ≤ R.frames ∧ 8 + (maxL + 11) + rm.locals ≤ R.locals) (hf : cells + rm.cells ≤ R.cells ∧ slots + rm.slots ≤ R.slots) (hdg : decode cc pc = .ok (.invokevirtual index, 3))
    (kk : ∀ (H1 : Heap) (locs1 : List Loc), zW D ar A Z S2 H1 → va_S A H0 H1 locs1 → W p l e R s m args below meth c H1 locs1 (cells + rm.cells) (slots + rm.slots) Q (F0 m (pc + 3) ls (zrv Z.1 t r0 :: rest))) : W p l e R s m args below meth c H locs cells slots Q (F0 m pc ls st0) := by
  refine z_callV hM hml hW hS hlo hC hd hy hl hi hse hMet hn (by rw [hst, ha]) h8 hR hf hdg (fun r Z' S' H1 locs1 hp hW1 hS1 => ?_)
  obtain ⟨e1, e2, e3⟩ := hp
  subst e1 e2 e3
  exact kk H1 locs1 hW1 hS1
theorem z_Si {r0 : Int32} (hM : zM p c m args s cc own D ar) (hml : c.maxLocals = ls.size) (hW : zW D ar A Z S H) (hS : va_S A H0 H locs) (hlo : ∀ q, H0.size ≤ q → A q) (hy : zY C y bytes maxL ret n) (hl : Cond.methodLink own index y ∈ zU) (hi : Cond.static y ∈ zU)
    (hMet : zMet l y bytes maxL ret rm D ar A Z S As rvI (zF r0 Z S2)) (hn : As.length = n) (hst : st0 = As.reverse ++ rest) (h8 : (rest.map fun v => v.category).sum ≤ 8) (hR : rm.frames + 1 ≤ R.frames ∧ 8 + (maxL + 11) + rm.locals ≤ R.locals) (hf : cells + rm.cells ≤ R.cells ∧ slots + rm.slots ≤ R.slots) (hdg : decode cc pc = .ok (.invokestatic index, 3))
    (kk : ∀ (H1 : Heap) (locs1 : List Loc), zW D ar A Z S2 H1 → va_S A H0 H1 locs1 → W p l e R s m args below meth c H1 locs1 (cells + rm.cells) (slots + rm.slots) Q (F0 m (pc + 3) ls (.int r0 :: rest))) : W p l e R s m args below meth c H locs cells slots Q (F0 m pc ls st0) := by
  refine z_callS hM hml hW hS hlo hy hl hi hMet hn hst h8 hR hf hdg (fun r Z' S' H1 locs1 hp hW1 hS1 => ?_)
  obtain ⟨e1, e2, e3⟩ := hp
  subst e1 e2 e3
  exact kk H1 locs1 hW1 hS1
theorem z_Sl {r0 : Int64} (hM : zM p c m args s cc own D ar) (hml : c.maxLocals = ls.size) (hW : zW D ar A Z S H) (hS : va_S A H0 H locs) (hlo : ∀ q, H0.size ≤ q → A q) (hy : zY C y bytes maxL ret n) (hl : Cond.methodLink own index y ∈ zU) (hi : Cond.static y ∈ zU)
    (hMet : zMet l y bytes maxL ret rm D ar A Z S As rvL (zF r0 Z S2)) (hn : As.length = n) (hst : st0 = As.reverse ++ rest) (h8 : (rest.map fun v => v.category).sum ≤ 8) (hR : rm.frames + 1 ≤ R.frames ∧ 8 + (maxL + 11) + rm.locals ≤ R.locals) (hf : cells + rm.cells ≤ R.cells ∧ slots + rm.slots ≤ R.slots) (hdg : decode cc pc = .ok (.invokestatic index, 3))
    (kk : ∀ (H1 : Heap) (locs1 : List Loc), zW D ar A Z S2 H1 → va_S A H0 H1 locs1 → W p l e R s m args below meth c H1 locs1 (cells + rm.cells) (slots + rm.slots) Q (F0 m (pc + 3) ls (.long r0 :: rest))) : W p l e R s m args below meth c H locs cells slots Q (F0 m pc ls st0) := by
  refine z_callS hM hml hW hS hlo hy hl hi hMet hn hst h8 hR hf hdg (fun r Z' S' H1 locs1 hp hW1 hS1 => ?_)
  obtain ⟨e1, e2, e3⟩ := hp
  subst e1 e2 e3
  exact kk H1 locs1 hW1 hS1
theorem z_Sv {r0 : Unit} (hM : zM p c m args s cc own D ar) (hml : c.maxLocals = ls.size) (hW : zW D ar A Z S H) (hS : va_S A H0 H locs) (hlo : ∀ q, H0.size ≤ q → A q) (hy : zY C y bytes maxL ret n) (hl : Cond.methodLink own index y ∈ zU) (hi : Cond.static y ∈ zU)
    (hMet : zMet l y bytes maxL ret rm D ar A Z S As rvV (zF r0 Z S2)) (hn : As.length = n) (hst : st0 = As.reverse ++ rest) (h8 : (rest.map fun v => v.category).sum ≤ 8) (hR : rm.frames + 1 ≤ R.frames ∧ 8 + (maxL + 11) + rm.locals ≤ R.locals) (hf : cells + rm.cells ≤ R.cells ∧ slots + rm.slots ≤ R.slots) (hdg : decode cc pc = .ok (.invokestatic index, 3))
    (kk : ∀ (H1 : Heap) (locs1 : List Loc), zW D ar A Z S2 H1 → va_S A H0 H1 locs1 → W p l e R s m args below meth c H1 locs1 (cells + rm.cells) (slots + rm.slots) Q (F0 m (pc + 3) ls (rest))) : W p l e R s m args below meth c H locs cells slots Q (F0 m pc ls st0) := by
  refine z_callS hM hml hW hS hlo hy hl hi hMet hn hst h8 hR hf hdg (fun r Z' S' H1 locs1 hp hW1 hS1 => ?_)
  obtain ⟨e1, e2, e3⟩ := hp
  subst e1 e2 e3
  exact kk H1 locs1 hW1 hS1
theorem z_Sr {t : Nat} {r0 : Option Nat} (hM : zM p c m args s cc own D ar) (hml : c.maxLocals = ls.size) (hW : zW D ar A Z S H) (hS : va_S A H0 H locs) (hlo : ∀ q, H0.size ≤ q → A q) (hy : zY C y bytes maxL ret n) (hl : Cond.methodLink own index y ∈ zU) (hi : Cond.static y ∈ zU)
    (hMet : zMet l y bytes maxL ret rm D ar A Z S As (rvR t) (zF r0 Z S2)) (hn : As.length = n) (hst : st0 = As.reverse ++ rest) (h8 : (rest.map fun v => v.category).sum ≤ 8) (hR : rm.frames + 1 ≤ R.frames ∧ 8 + (maxL + 11) + rm.locals ≤ R.locals) (hf : cells + rm.cells ≤ R.cells ∧ slots + rm.slots ≤ R.slots) (hdg : decode cc pc = .ok (.invokestatic index, 3))
    (kk : ∀ (H1 : Heap) (locs1 : List Loc), zW D ar A Z S2 H1 → va_S A H0 H1 locs1 → W p l e R s m args below meth c H1 locs1 (cells + rm.cells) (slots + rm.slots) Q (F0 m (pc + 3) ls (zrv Z.1 t r0 :: rest))) : W p l e R s m args below meth c H locs cells slots Q (F0 m pc ls st0) := by
  refine z_callS hM hml hW hS hlo hy hl hi hMet hn hst h8 hR hf hdg (fun r Z' S' H1 locs1 hp hW1 hS1 => ?_)
  obtain ⟨e1, e2, e3⟩ := hp
  subst e1 e2 e3
  exact kk H1 locs1 hW1 hS1
end ZF
theorem zyX0_init : zY RX0 yX0_init prog_2_method_1_code 4 none 3 := ⟨lc_yX0_init, lz_X0, ⟨rfl, by decide +kernel, by decide +kernel, by decide +kernel⟩, by decide +kernel⟩
theorem zyX0_showTag : zY RX0 yX0_showTag prog_2_method_2_code 2 none 1 := ⟨lc_yX0_showTag, lz_X0, ⟨rfl, by decide +kernel, by decide +kernel, by decide +kernel⟩, by decide +kernel⟩
theorem zyX1_init : zY RX1 yX1_init prog_3_method_1_code 2 none 0 := ⟨lc_yX1_init, lz_X1, ⟨rfl, by decide +kernel, by decide +kernel, by decide +kernel⟩, by decide +kernel⟩
theorem zyX1_at : zY RX1 yX1_at prog_3_method_2_code 2 (some (.object "VotedFile$Message")) 1 := ⟨lc_yX1_at, lz_X1, ⟨rfl, by decide +kernel, by decide +kernel, by decide +kernel⟩, by decide +kernel⟩
theorem zyX1_next : zY RX1 yX1_next prog_3_method_3_code 2 (some (.object "VotedFile$Message")) 0 := ⟨lc_yX1_next, lz_X1, ⟨rfl, by decide +kernel, by decide +kernel, by decide +kernel⟩, by decide +kernel⟩
theorem zyX1_take : zY RX1 yX1_take prog_3_method_4_code 4 (some .boolean) 1 := ⟨lc_yX1_take, lz_X1, ⟨rfl, by decide +kernel, by decide +kernel, by decide +kernel⟩, by decide +kernel⟩
theorem zyX2_init : zY RX2 yX2_init prog_4_method_1_code 2 none 1 := ⟨lc_yX2_init, lz_X2, ⟨rfl, by decide +kernel, by decide +kernel, by decide +kernel⟩, by decide +kernel⟩
theorem zyX2_hasAnswerOf : zY RX2 yX2_hasAnswerOf prog_4_method_2_code 2 (some .boolean) 1 := ⟨lc_yX2_hasAnswerOf, lz_X2, ⟨rfl, by decide +kernel, by decide +kernel, by decide +kernel⟩, by decide +kernel⟩
theorem zyX2_counts : zY RX2 yX2_counts prog_4_method_3_code 3 (some .boolean) 2 := ⟨lc_yX2_counts, lz_X2, ⟨rfl, by decide +kernel, by decide +kernel, by decide +kernel⟩, by decide +kernel⟩
theorem zyX2_learn : zY RX2 yX2_learn prog_4_method_4_code 3 none 1 := ⟨lc_yX2_learn, lz_X2, ⟨rfl, by decide +kernel, by decide +kernel, by decide +kernel⟩, by decide +kernel⟩
theorem zyX2_rest : zY RX2 yX2_rest prog_4_method_5_code 1 none 0 := ⟨lc_yX2_rest, lz_X2, ⟨rfl, by decide +kernel, by decide +kernel, by decide +kernel⟩, by decide +kernel⟩
theorem zyX3_init : zY RX3 yX3_init prog_5_method_1_code 1 none 0 := ⟨lc_yX3_init, lz_X3, ⟨rfl, by decide +kernel, by decide +kernel, by decide +kernel⟩, by decide +kernel⟩
theorem zyX3_obey : zY RX3 yX3_obey prog_5_method_2_code 2 none 1 := ⟨lc_yX3_obey, lz_X3, ⟨rfl, by decide +kernel, by decide +kernel, by decide +kernel⟩, by decide +kernel⟩
theorem zyX4_init : zY RX4 yX4_init prog_6_method_1_code 1 none 0 := ⟨lc_yX4_init, lz_X4, ⟨rfl, by decide +kernel, by decide +kernel, by decide +kernel⟩, by decide +kernel⟩
theorem zyX4_repeat : zY RX4 yX4_repeat prog_6_method_2_code 2 none 1 := ⟨lc_yX4_repeat, lz_X4, ⟨rfl, by decide +kernel, by decide +kernel, by decide +kernel⟩, by decide +kernel⟩
theorem zyX5_init : zY RX5 yX5_init prog_7_method_1_code 4 none 3 := ⟨lc_yX5_init, lz_X5, ⟨rfl, by decide +kernel, by decide +kernel, by decide +kernel⟩, by decide +kernel⟩
theorem zyX5_canBe : zY RX5 yX5_canBe prog_7_method_2_code 4 (some .boolean) 3 := ⟨lc_yX5_canBe, lz_X5, ⟨rfl, by decide +kernel, by decide +kernel, by decide +kernel⟩, by decide +kernel⟩
theorem zyX5_sum : zY RX5 yX5_sum prog_7_method_3_code 4 (some .int) 2 := ⟨lc_yX5_sum, lz_X5, ⟨rfl, by decide +kernel, by decide +kernel, by decide +kernel⟩, by decide +kernel⟩
theorem zyX6_init : zY RX6 yX6_init prog_8_method_1_code 1 none 0 := ⟨lc_yX6_init, lz_X6, ⟨rfl, by decide +kernel, by decide +kernel, by decide +kernel⟩, by decide +kernel⟩
theorem zyX6_isAbove : zY RX6 yX6_isAbove prog_8_method_2_code 2 (some .boolean) 1 := ⟨lc_yX6_isAbove, lz_X6, ⟨rfl, by decide +kernel, by decide +kernel, by decide +kernel⟩, by decide +kernel⟩
theorem zyX6_put : zY RX6 yX6_put prog_8_method_3_code 5 none 3 := ⟨lc_yX6_put, lz_X6, ⟨rfl, by decide +kernel, by decide +kernel, by decide +kernel⟩, by decide +kernel⟩
theorem zyX6_set : zY RX6 yX6_set prog_8_method_4_code 2 none 1 := ⟨lc_yX6_set, lz_X6, ⟨rfl, by decide +kernel, by decide +kernel, by decide +kernel⟩, by decide +kernel⟩
theorem zyX7_init : zY RX7 yX7_init prog_1_method_1_code 4 none 1 := ⟨lc_yX7_init, lz_X7, ⟨rfl, by decide +kernel, by decide +kernel, by decide +kernel⟩, by decide +kernel⟩
theorem zyX7_votes : zY RX7 yX7_votes prog_1_method_2_code 3 (some .boolean) 2 := ⟨lc_yX7_votes, lz_X7, ⟨rfl, by decide +kernel, by decide +kernel, by decide +kernel⟩, by decide +kernel⟩
theorem zyX7_change : zY RX7 yX7_change prog_1_method_3_code 5 (some .int) 2 := ⟨lc_yX7_change, lz_X7, ⟨rfl, by decide +kernel, by decide +kernel, by decide +kernel⟩, by decide +kernel⟩
theorem zyX7_resume : zY RX7 yX7_resume prog_1_method_4_code 2 (some .int) 0 := ⟨lc_yX7_resume, lz_X7, ⟨rfl, by decide +kernel, by decide +kernel, by decide +kernel⟩, by decide +kernel⟩
theorem zyX7_read : zY RX7 yX7_read prog_1_method_5_code 3 (some .int) 1 := ⟨lc_yX7_read, lz_X7, ⟨rfl, by decide +kernel, by decide +kernel, by decide +kernel⟩, by decide +kernel⟩
theorem zyX7_write : zY RX7 yX7_write prog_1_method_6_code 6 (some .int) 2 := ⟨lc_yX7_write, lz_X7, ⟨rfl, by decide +kernel, by decide +kernel, by decide +kernel⟩, by decide +kernel⟩
theorem zyX7_again : zY RX7 yX7_again prog_1_method_7_code 3 (some .int) 1 := ⟨lc_yX7_again, lz_X7, ⟨rfl, by decide +kernel, by decide +kernel, by decide +kernel⟩, by decide +kernel⟩
theorem zyX7_halt : zY RX7 yX7_halt prog_1_method_8_code 4 (some .int) 1 := ⟨lc_yX7_halt, lz_X7, ⟨rfl, by decide +kernel, by decide +kernel, by decide +kernel⟩, by decide +kernel⟩
theorem zyX7_deliver : zY RX7 yX7_deliver prog_1_method_9_code 3 (some .boolean) 1 := ⟨lc_yX7_deliver, lz_X7, ⟨rfl, by decide +kernel, by decide +kernel, by decide +kernel⟩, by decide +kernel⟩
theorem zyX7_settle : zY RX7 yX7_settle prog_1_method_10_code 5 (some .int) 1 := ⟨lc_yX7_settle, lz_X7, ⟨rfl, by decide +kernel, by decide +kernel, by decide +kernel⟩, by decide +kernel⟩
theorem zyX7_lose : zY RX7 yX7_lose prog_1_method_11_code 2 (some .boolean) 1 := ⟨lc_yX7_lose, lz_X7, ⟨rfl, by decide +kernel, by decide +kernel, by decide +kernel⟩, by decide +kernel⟩
theorem zyX7_twice : zY RX7 yX7_twice prog_1_method_12_code 4 (some .boolean) 1 := ⟨lc_yX7_twice, lz_X7, ⟨rfl, by decide +kernel, by decide +kernel, by decide +kernel⟩, by decide +kernel⟩
theorem zyX7_silent : zY RX7 yX7_silent prog_1_method_13_code 4 (some .boolean) 2 := ⟨lc_yX7_silent, lz_X7, ⟨rfl, by decide +kernel, by decide +kernel, by decide +kernel⟩, by decide +kernel⟩
theorem zyX7_side : zY RX7 yX7_side prog_1_method_14_code 5 (some .boolean) 2 := ⟨lc_yX7_side, lz_X7, ⟨rfl, by decide +kernel, by decide +kernel, by decide +kernel⟩, by decide +kernel⟩
theorem zyX7_copy : zY RX7 yX7_copy prog_1_method_15_code 4 (some .int) 2 := ⟨lc_yX7_copy, lz_X7, ⟨rfl, by decide +kernel, by decide +kernel, by decide +kernel⟩, by decide +kernel⟩
theorem zyX7_kept : zY RX7 yX7_kept prog_1_method_16_code 3 (some .long) 1 := ⟨lc_yX7_kept, lz_X7, ⟨rfl, by decide +kernel, by decide +kernel, by decide +kernel⟩, by decide +kernel⟩
theorem zyX7_client : zY RX7 yX7_client prog_1_method_17_code 5 (some .int) 2 := ⟨lc_yX7_client, lz_X7, ⟨rfl, by decide +kernel, by decide +kernel, by decide +kernel⟩, by decide +kernel⟩
theorem zyX7_air : zY RX7 yX7_air prog_1_method_18_code 4 (some .int) 2 := ⟨lc_yX7_air, lz_X7, ⟨rfl, by decide +kernel, by decide +kernel, by decide +kernel⟩, by decide +kernel⟩
theorem zyX7_act : zY RX7 yX7_act prog_1_method_19_code 4 (some .int) 2 := ⟨lc_yX7_act, lz_X7, ⟨rfl, by decide +kernel, by decide +kernel, by decide +kernel⟩, by decide +kernel⟩
theorem zyX7_value : zY RX7 yX7_value prog_1_method_20_code 3 (some .long) 1 := ⟨lc_yX7_value, lz_X7, ⟨rfl, by decide +kernel, by decide +kernel, by decide +kernel⟩, by decide +kernel⟩
theorem zyX7_table : zY RX7 yX7_table prog_1_method_21_code 4 (some .int) 2 := ⟨lc_yX7_table, lz_X7, ⟨rfl, by decide +kernel, by decide +kernel, by decide +kernel⟩, by decide +kernel⟩
theorem zyX7_about : zY RX7 yX7_about prog_1_method_22_code 2 (some .int) 1 := ⟨lc_yX7_about, lz_X7, ⟨rfl, by decide +kernel, by decide +kernel, by decide +kernel⟩, by decide +kernel⟩
theorem zyX7_copyAt : zY RX7 yX7_copyAt prog_1_method_23_code 2 (some (.object "VotedFile$Copy")) 1 := ⟨lc_yX7_copyAt, lz_X7, ⟨rfl, by decide +kernel, by decide +kernel, by decide +kernel⟩, by decide +kernel⟩
theorem zyX7_clientAt : zY RX7 yX7_clientAt prog_1_method_24_code 2 (some (.object "VotedFile$Client")) 1 := ⟨lc_yX7_clientAt, lz_X7, ⟨rfl, by decide +kernel, by decide +kernel, by decide +kernel⟩, by decide +kernel⟩
theorem zyX7_tableAt : zY RX7 yX7_tableAt prog_1_method_25_code 2 (some (.object "VotedFile$Table")) 1 := ⟨lc_yX7_tableAt, lz_X7, ⟨rfl, by decide +kernel, by decide +kernel, by decide +kernel⟩, by decide +kernel⟩
theorem zyX7_actAt : zY RX7 yX7_actAt prog_1_method_26_code 2 (some (.object "VotedFile$Act")) 1 := ⟨lc_yX7_actAt, lz_X7, ⟨rfl, by decide +kernel, by decide +kernel, by decide +kernel⟩, by decide +kernel⟩
theorem zyX7_canBegin : zY RX7 yX7_canBegin prog_1_method_27_code 2 (some .boolean) 1 := ⟨lc_yX7_canBegin, lz_X7, ⟨rfl, by decide +kernel, by decide +kernel, by decide +kernel⟩, by decide +kernel⟩
theorem zyX7_beginChange : zY RX7 yX7_beginChange prog_1_method_28_code 4 (some .int) 2 := ⟨lc_yX7_beginChange, lz_X7, ⟨rfl, by decide +kernel, by decide +kernel, by decide +kernel⟩, by decide +kernel⟩
theorem zyX7_beginAct : zY RX7 yX7_beginAct prog_1_method_29_code 4 (some .int) 3 := ⟨lc_yX7_beginAct, lz_X7, ⟨rfl, by decide +kernel, by decide +kernel, by decide +kernel⟩, by decide +kernel⟩
theorem zyX7_beginPhase : zY RX7 yX7_beginPhase prog_1_method_30_code 4 none 3 := ⟨lc_yX7_beginPhase, lz_X7, ⟨rfl, by decide +kernel, by decide +kernel, by decide +kernel⟩, by decide +kernel⟩
theorem zyX7_sendRequests : zY RX7 yX7_sendRequests prog_1_method_31_code 5 (some .int) 2 := ⟨lc_yX7_sendRequests, lz_X7, ⟨rfl, by decide +kernel, by decide +kernel, by decide +kernel⟩, by decide +kernel⟩
theorem zyX7_sendRequest : zY RX7 yX7_sendRequest prog_1_method_32_code 6 none 3 := ⟨lc_yX7_sendRequest, lz_X7, ⟨rfl, by decide +kernel, by decide +kernel, by decide +kernel⟩, by decide +kernel⟩
theorem zyX7_canPass : zY RX7 yX7_canPass prog_1_method_33_code 4 (some .boolean) 1 := ⟨lc_yX7_canPass, lz_X7, ⟨rfl, by decide +kernel, by decide +kernel, by decide +kernel⟩, by decide +kernel⟩
theorem zyX7_serve : zY RX7 yX7_serve prog_1_method_34_code 4 none 1 := ⟨lc_yX7_serve, lz_X7, ⟨rfl, by decide +kernel, by decide +kernel, by decide +kernel⟩, by decide +kernel⟩
theorem zyX7_hear : zY RX7 yX7_hear prog_1_method_35_code 6 none 1 := ⟨lc_yX7_hear, lz_X7, ⟨rfl, by decide +kernel, by decide +kernel, by decide +kernel⟩, by decide +kernel⟩
theorem zyX7_hasQuorum : zY RX7 yX7_hasQuorum prog_1_method_36_code 8 (some .boolean) 2 := ⟨lc_yX7_hasQuorum, lz_X7, ⟨rfl, by decide +kernel, by decide +kernel, by decide +kernel⟩, by decide +kernel⟩
theorem zyX7_endPhase : zY RX7 yX7_endPhase prog_1_method_37_code 3 (some .int) 2 := ⟨lc_yX7_endPhase, lz_X7, ⟨rfl, by decide +kernel, by decide +kernel, by decide +kernel⟩, by decide +kernel⟩
theorem zyX8_init : zY RX8 yX8_init prog_10_method_1_code 3 none 1 := ⟨lc_yX8_init, lz_X8, ⟨rfl, by decide +kernel, by decide +kernel, by decide +kernel⟩, by decide +kernel⟩
theorem zyX8_isCopy : zY RX8 yX8_isCopy prog_10_method_2_code 2 (some .boolean) 1 := ⟨lc_yX8_isCopy, lz_X8, ⟨rfl, by decide +kernel, by decide +kernel, by decide +kernel⟩, by decide +kernel⟩
theorem zyX8_isClient : zY RX8 yX8_isClient prog_10_method_3_code 1 (some .boolean) 1 := ⟨lc_yX8_isClient, lz_X8, ⟨rfl, by decide +kernel, by decide +kernel, by decide +kernel⟩, by decide +kernel⟩
theorem zyX8_votes : zY RX8 yX8_votes prog_10_method_4_code 3 (some .boolean) 2 := ⟨lc_yX8_votes, lz_X8, ⟨rfl, by decide +kernel, by decide +kernel, by decide +kernel⟩, by decide +kernel⟩
theorem zyX8_put : zY RX8 yX8_put prog_10_method_5_code 14 none 12 := ⟨lc_yX8_put, lz_X8, ⟨rfl, by decide +kernel, by decide +kernel, by decide +kernel⟩, by decide +kernel⟩
theorem zyX8_take : zY RX8 yX8_take prog_10_method_6_code 3 none 1 := ⟨lc_yX8_take, lz_X8, ⟨rfl, by decide +kernel, by decide +kernel, by decide +kernel⟩, by decide +kernel⟩
theorem zyX8_ask : zY RX8 yX8_ask prog_10_method_7_code 10 none 2 := ⟨lc_yX8_ask, lz_X8, ⟨rfl, by decide +kernel, by decide +kernel, by decide +kernel⟩, by decide +kernel⟩
theorem zyX8_beginPhase : zY RX8 yX8_beginPhase prog_10_method_8_code 4 none 2 := ⟨lc_yX8_beginPhase, lz_X8, ⟨rfl, by decide +kernel, by decide +kernel, by decide +kernel⟩, by decide +kernel⟩
theorem zyX8_beginAct : zY RX8 yX8_beginAct prog_10_method_9_code 6 (some .int) 4 := ⟨lc_yX8_beginAct, lz_X8, ⟨rfl, by decide +kernel, by decide +kernel, by decide +kernel⟩, by decide +kernel⟩
theorem zyX8_change : zY RX8 yX8_change prog_10_method_10_code 6 (some .int) 2 := ⟨lc_yX8_change, lz_X8, ⟨rfl, by decide +kernel, by decide +kernel, by decide +kernel⟩, by decide +kernel⟩
theorem zyX8_resume : zY RX8 yX8_resume prog_10_method_11_code 1 (some .int) 0 := ⟨lc_yX8_resume, lz_X8, ⟨rfl, by decide +kernel, by decide +kernel, by decide +kernel⟩, by decide +kernel⟩
theorem zyX8_read : zY RX8 yX8_read prog_10_method_12_code 2 (some .int) 1 := ⟨lc_yX8_read, lz_X8, ⟨rfl, by decide +kernel, by decide +kernel, by decide +kernel⟩, by decide +kernel⟩
theorem zyX8_write : zY RX8 yX8_write prog_10_method_13_code 4 (some .int) 2 := ⟨lc_yX8_write, lz_X8, ⟨rfl, by decide +kernel, by decide +kernel, by decide +kernel⟩, by decide +kernel⟩
theorem zyX8_again : zY RX8 yX8_again prog_10_method_14_code 4 (some .int) 1 := ⟨lc_yX8_again, lz_X8, ⟨rfl, by decide +kernel, by decide +kernel, by decide +kernel⟩, by decide +kernel⟩
theorem zyX8_isGreater : zY RX8 yX8_isGreater prog_10_method_15_code 4 (some .boolean) 4 := ⟨lc_yX8_isGreater, lz_X8, ⟨rfl, by decide +kernel, by decide +kernel, by decide +kernel⟩, by decide +kernel⟩
theorem zyX8_isQuorum : zY RX8 yX8_isQuorum prog_10_method_16_code 6 (some .boolean) 3 := ⟨lc_yX8_isQuorum, lz_X8, ⟨rfl, by decide +kernel, by decide +kernel, by decide +kernel⟩, by decide +kernel⟩
theorem zyX8_areQuorums : zY RX8 yX8_areQuorums prog_10_method_17_code 7 (some .boolean) 4 := ⟨lc_yX8_areQuorums, lz_X8, ⟨rfl, by decide +kernel, by decide +kernel, by decide +kernel⟩, by decide +kernel⟩
theorem zyX8_isOver : zY RX8 yX8_isOver prog_10_method_18_code 3 (some .boolean) 1 := ⟨lc_yX8_isOver, lz_X8, ⟨rfl, by decide +kernel, by decide +kernel, by decide +kernel⟩, by decide +kernel⟩
theorem zyX8_finish : zY RX8 yX8_finish prog_10_method_19_code 3 none 1 := ⟨lc_yX8_finish, lz_X8, ⟨rfl, by decide +kernel, by decide +kernel, by decide +kernel⟩, by decide +kernel⟩
theorem zyX8_end : zY RX8 yX8_end prog_10_method_20_code 2 none 1 := ⟨lc_yX8_end, lz_X8, ⟨rfl, by decide +kernel, by decide +kernel, by decide +kernel⟩, by decide +kernel⟩
theorem zyX8_goOn : zY RX8 yX8_goOn prog_10_method_21_code 3 none 1 := ⟨lc_yX8_goOn, lz_X8, ⟨rfl, by decide +kernel, by decide +kernel, by decide +kernel⟩, by decide +kernel⟩
theorem zyX8_answer : zY RX8 yX8_answer prog_10_method_22_code 12 none 1 := ⟨lc_yX8_answer, lz_X8, ⟨rfl, by decide +kernel, by decide +kernel, by decide +kernel⟩, by decide +kernel⟩
theorem zyX8_request : zY RX8 yX8_request prog_10_method_23_code 8 none 1 := ⟨lc_yX8_request, lz_X8, ⟨rfl, by decide +kernel, by decide +kernel, by decide +kernel⟩, by decide +kernel⟩
theorem zyX8_canBe : zY RX8 yX8_canBe prog_10_method_24_code 2 (some .boolean) 1 := ⟨lc_yX8_canBe, lz_X8, ⟨rfl, by decide +kernel, by decide +kernel, by decide +kernel⟩, by decide +kernel⟩
theorem zyX8_deliver : zY RX8 yX8_deliver prog_10_method_25_code 2 (some .boolean) 1 := ⟨lc_yX8_deliver, lz_X8, ⟨rfl, by decide +kernel, by decide +kernel, by decide +kernel⟩, by decide +kernel⟩
theorem zyX8_settle : zY RX8 yX8_settle prog_10_method_26_code 5 (some .int) 1 := ⟨lc_yX8_settle, lz_X8, ⟨rfl, by decide +kernel, by decide +kernel, by decide +kernel⟩, by decide +kernel⟩
theorem zyX8_lose : zY RX8 yX8_lose prog_10_method_27_code 2 (some .boolean) 1 := ⟨lc_yX8_lose, lz_X8, ⟨rfl, by decide +kernel, by decide +kernel, by decide +kernel⟩, by decide +kernel⟩
theorem zyX8_twice : zY RX8 yX8_twice prog_10_method_28_code 2 (some .boolean) 1 := ⟨lc_yX8_twice, lz_X8, ⟨rfl, by decide +kernel, by decide +kernel, by decide +kernel⟩, by decide +kernel⟩
theorem zyX8_silent : zY RX8 yX8_silent prog_10_method_29_code 3 (some .boolean) 2 := ⟨lc_yX8_silent, lz_X8, ⟨rfl, by decide +kernel, by decide +kernel, by decide +kernel⟩, by decide +kernel⟩
theorem zyX8_side : zY RX8 yX8_side prog_10_method_30_code 3 (some .boolean) 2 := ⟨lc_yX8_side, lz_X8, ⟨rfl, by decide +kernel, by decide +kernel, by decide +kernel⟩, by decide +kernel⟩
theorem zyX8_halt : zY RX8 yX8_halt prog_10_method_31_code 3 (some .int) 1 := ⟨lc_yX8_halt, lz_X8, ⟨rfl, by decide +kernel, by decide +kernel, by decide +kernel⟩, by decide +kernel⟩
theorem zyX8_copy : zY RX8 yX8_copy prog_10_method_32_code 3 (some .int) 2 := ⟨lc_yX8_copy, lz_X8, ⟨rfl, by decide +kernel, by decide +kernel, by decide +kernel⟩, by decide +kernel⟩
theorem zyX8_kept : zY RX8 yX8_kept prog_10_method_33_code 2 (some .long) 1 := ⟨lc_yX8_kept, lz_X8, ⟨rfl, by decide +kernel, by decide +kernel, by decide +kernel⟩, by decide +kernel⟩
theorem zyX8_client : zY RX8 yX8_client prog_10_method_34_code 3 (some .int) 2 := ⟨lc_yX8_client, lz_X8, ⟨rfl, by decide +kernel, by decide +kernel, by decide +kernel⟩, by decide +kernel⟩
theorem zyX8_air : zY RX8 yX8_air prog_10_method_35_code 3 (some .int) 2 := ⟨lc_yX8_air, lz_X8, ⟨rfl, by decide +kernel, by decide +kernel, by decide +kernel⟩, by decide +kernel⟩
theorem zyX8_isAct : zY RX8 yX8_isAct prog_10_method_36_code 2 (some .boolean) 1 := ⟨lc_yX8_isAct, lz_X8, ⟨rfl, by decide +kernel, by decide +kernel, by decide +kernel⟩, by decide +kernel⟩
theorem zyX8_act : zY RX8 yX8_act prog_10_method_37_code 3 (some .int) 2 := ⟨lc_yX8_act, lz_X8, ⟨rfl, by decide +kernel, by decide +kernel, by decide +kernel⟩, by decide +kernel⟩
theorem zyX8_value : zY RX8 yX8_value prog_10_method_38_code 2 (some .long) 1 := ⟨lc_yX8_value, lz_X8, ⟨rfl, by decide +kernel, by decide +kernel, by decide +kernel⟩, by decide +kernel⟩
theorem zyX8_table : zY RX8 yX8_table prog_10_method_39_code 3 (some .int) 2 := ⟨lc_yX8_table, lz_X8, ⟨rfl, by decide +kernel, by decide +kernel, by decide +kernel⟩, by decide +kernel⟩
theorem zyX8_about : zY RX8 yX8_about prog_10_method_40_code 2 (some .int) 1 := ⟨lc_yX8_about, lz_X8, ⟨rfl, by decide +kernel, by decide +kernel, by decide +kernel⟩, by decide +kernel⟩
theorem zyL_cell : zY RL yL_cell method_2_code 2 (some .int) 2 := ⟨lc_yL_cell, lz_L, ⟨rfl, by decide +kernel, by decide +kernel, by decide +kernel⟩, by decide +kernel⟩
/-- choices by any proposition -/
noncomputable def pif {α : Sort _} (b : Prop) (x y : α) : α := @ite α b (Classical.propDecidable b) x y
theorem pif_pos {α : Sort _} {b : Prop} {x y : α} (h : b) : pif b x y = x := @if_pos b (Classical.propDecidable b) h α x y
theorem pif_neg {α : Sort _} {b : Prop} {x y : α} (h : ¬ b) : pif b x y = y := @if_neg b (Classical.propDecidable b) h α x y
def oel {α β : Type} (o : Option α) (x : β) (f : α → β) : β := match o with
  | none => x
  | some q => f q
theorem oel_n {α β : Type} {o : Option α} {x : β} {f : α → β} (h : o = none) : oel o x f = x := by subst h; rfl
theorem oel_s {α β : Type} {o : Option α} {q : α} {x : β} {f : α → β} (h : o = some q) : oel o x f = f q := by subst h; rfl
/-- a boolean as an int -/
noncomputable def ib (b : Prop) : Int32 := pif b 1 0
theorem ib_pos {b : Prop} (h : b) : ib b = 1 := pif_pos h
theorem ib_neg {b : Prop} (h : ¬ b) : ib b = 0 := pif_neg h
def isB (x : Int32) : Prop := x = 0 ∨ x = 1
theorem narrow_isB {x : Int32} (h : isB x) : narrow .boolean (.int x) = .int x := by rcases h with rfl | rfl <;> rfl
theorem fits_isB {x : Int32} (h : isB x) : fits .boolean (.int x) = true := by rcases h with rfl | rfl <;> rfl
theorem isB_ib (b : Prop) : isB (ib b) := (Classical.em b).elim (fun h => Or.inr (ib_pos h)) (fun h => Or.inl (ib_neg h))
theorem ib_eq0 {b : Prop} : ib b = 0 ↔ ¬ b := ⟨fun h q => absurd (h.symm.trans (ib_pos q)) (by decide), fun h => ib_neg h⟩
theorem ib_eq1 {b : Prop} : ib b = 1 ↔ b := ⟨fun h => Classical.byContradiction fun q => absurd (h.symm.trans (ib_neg q)) (by decide), fun h => ib_pos h⟩
theorem isB_pif {b : Prop} {x y : Int32} (hx : isB x) (hy : isB y) : isB (pif b x y) := (Classical.em b).elim (fun h => by rw [pif_pos h]; exact hx) (fun h => by rw [pif_neg h]; exact hy)
theorem isB_0 : isB 0 := Or.inl rfl
theorem isB_1 : isB 1 := Or.inr rfl
theorem zrv_some {ad : Nat → Nat → Nat} {t j : Nat} : zrv ad t (some j) = .ref (ad t j) := rfl
theorem zrv_none {ad : Nat → Nat → Nat} {t : Nat} : zrv ad t none = .null := rfl
theorem vin_of {k : Int32} {N L : Nat} (h0 : ¬ k < 0) (h1 : ¬ Int32.ofNat N ≤ k) (hN : N < 2 ^ 31) (hL : L = N) : vp_in k L := by
  subst hL
  rintro (q | q)
  · exact h0 q
  · apply h1
    rw [Int32.le_iff_toInt_le, Int32.toInt_ofNat_of_lt hN]
    rw [Int32.lt_iff_toInt_lt, Int32.toInt_zero] at h0
    have : (k.toNatClampNeg : Int) = k.toInt := by
      rw [Int32.toNatClampNeg]; omega
    omega
theorem vin_of2 {k : Int32} {N L : Nat} (h0 : ¬ k < 0) (h1 : k < Int32.ofNat N) (hN : N < 2 ^ 31) (hL : L = N) : vp_in k L := vin_of h0 (fun q => by rw [Int32.le_iff_toInt_le] at q; rw [Int32.lt_iff_toInt_lt] at h1; omega) hN hL
theorem vin_lt {k : Int32} {L N : Nat} (h : vp_in k L) (e : L = N) : ix k < N := by subst e; exact Nat.not_le.mp fun q => h (Or.inr q)
end
section
noncomputable def s_X6_set (S : zS) (i j : Nat) : zS := ((sj (si (si S 6 (i) (0) (gi S 6 (j) (0))) 6 (i) (1) (gi S 6 (j) (1))) 6 (i) (2) (gj S 6 (j) (2))))
set_option maxHeartbeats 4000000 in
set_option maxRecDepth 100000 in
theorem c_X6_set {l : Launch} {D : va_G} {ar : Nat → ClassId} {A : Nat → Prop} {Z : zZ} {S : zS} {i j : Nat} (hi : Z.2.1 6 i) (hj : Z.2.1 6 j) : zMet l yX6_set prog_8_method_4_code 2 none ({ frames := 0, cells := 0, slots := 0, locals := 0 } : Room) D ar A Z S [.ref (Z.1 6 (i)), .ref (Z.1 6 (j))] rvV (zF () Z (s_X6_set S i j)) := by
  refine z_body (by decide +kernel) (Nat.le_of_ble_eq_true rfl) ?_
  intro pX eX sX mX bX methX cX ls hM hr hlk hml hin hl hW hlo
  have hM : zM pX cX mX _ sX prog_8_method_4_code RX6 D ar := hM
  have hS : va_S A sX.heap sX.heap [] := va_S.rf
  have hl : lv_has ls 2 [(0, .ref (Z.1 6 (i))), (1, .ref (Z.1 6 (j)))] := hl
  refine lv_aload_n hM.1 hM.2.1 dX6_set_0 rfl (lv_at hl 0 rfl) ?_
  refine lv_aload_n hM.1 hM.2.1 dX6_set_1 rfl (lv_at hl 1 rfl) ?_
  refine z_get hM hW zc6 hj rfl 0 (by decide) lf_X6_7 (v := .int (gi S 6 (j) (0))) rfl dX6_set_2 ?_
  refine z_puti hM hW hS zc6 hi rfl 0 (by decide) rfl lf_X6_7 (Or.inl rfl) (tyX6 0) (tyX6_ok 0 (by decide)) rfl rfl dX6_set_5 (fun H locs hW hS => ?_)
  refine lv_aload_n hM.1 hM.2.1 dX6_set_8 rfl (lv_at hl 0 rfl) ?_
  refine lv_aload_n hM.1 hM.2.1 dX6_set_9 rfl (lv_at hl 1 rfl) ?_
  refine z_get hM hW zc6 hj rfl 1 (by decide) lf_X6_13 (v := .int (gi S 6 (j) (1))) rfl dX6_set_10 ?_
  refine z_puti hM hW hS zc6 hi rfl 1 (by decide) rfl lf_X6_13 (Or.inl rfl) (tyX6 1) (tyX6_ok 1 (by decide)) rfl rfl dX6_set_13 (fun H locs hW hS => ?_)
  refine lv_aload_n hM.1 hM.2.1 dX6_set_16 rfl (lv_at hl 0 rfl) ?_
  refine lv_aload_n hM.1 hM.2.1 dX6_set_17 rfl (lv_at hl 1 rfl) ?_
  refine z_get hM hW zc6 hj rfl 2 (by decide) lf_X6_16 (v := .long (gj S 6 (j) (2))) rfl dX6_set_18 ?_
  refine z_putl hM hW hS zc6 hi rfl 2 (by decide) rfl lf_X6_16 (Or.inl rfl) (tyX6_ok 2 (by decide)) dX6_set_21 (fun H locs hW hS => ?_)
  exact z_vret hM hlk hr hW hS (zF.of rfl (by unfold s_X6_set; rfl)) dX6_set_24

noncomputable def s_X6_put (S : zS) (i : Nat) (x y : Int32) (v : Int64) : zS := ((sj (si (si S 6 (i) (0) (x)) 6 (i) (1) (y)) 6 (i) (2) (v)))
set_option maxHeartbeats 4000000 in
set_option maxRecDepth 100000 in
theorem c_X6_put {l : Launch} {D : va_G} {ar : Nat → ClassId} {A : Nat → Prop} {Z : zZ} {S : zS} {i : Nat} {x y : Int32} {v : Int64} (hi : Z.2.1 6 i) : zMet l yX6_put prog_8_method_3_code 5 none ({ frames := 0, cells := 0, slots := 0, locals := 0 } : Room) D ar A Z S [.ref (Z.1 6 (i)), .int (x), .int (y), .long (v)] rvV (zF () Z (s_X6_put S i x y v)) := by
  refine z_body (by decide +kernel) (Nat.le_of_ble_eq_true rfl) ?_
  intro pX eX sX mX bX methX cX ls hM hr hlk hml hin hl hW hlo
  have hM : zM pX cX mX _ sX prog_8_method_3_code RX6 D ar := hM
  have hS : va_S A sX.heap sX.heap [] := va_S.rf
  have hl : lv_has ls 5 [(0, .ref (Z.1 6 (i))), (1, .int (x)), (2, .int (y)), (3, .long (v))] := hl
  refine lv_aload_n hM.1 hM.2.1 dX6_put_0 rfl (lv_at hl 0 rfl) ?_
  refine lv_iload_n hM.1 hM.2.1 dX6_put_1 rfl (lv_at hl 1 rfl) ?_
  refine z_puti hM hW hS zc6 hi rfl 0 (by decide) rfl lf_X6_7 (Or.inl rfl) (tyX6 0) (tyX6_ok 0 (by decide)) rfl rfl dX6_put_2 (fun H locs hW hS => ?_)
  refine lv_aload_n hM.1 hM.2.1 dX6_put_5 rfl (lv_at hl 0 rfl) ?_
  refine lv_iload_n hM.1 hM.2.1 dX6_put_6 rfl (lv_at hl 2 rfl) ?_
  refine z_puti hM hW hS zc6 hi rfl 1 (by decide) rfl lf_X6_13 (Or.inl rfl) (tyX6 1) (tyX6_ok 1 (by decide)) rfl rfl dX6_put_7 (fun H locs hW hS => ?_)
  refine lv_aload_n hM.1 hM.2.1 dX6_put_10 rfl (lv_at hl 0 rfl) ?_
  refine lv_lload_n hM.1 hM.2.1 dX6_put_11 rfl (lv_at hl 3 rfl) ?_
  refine z_putl hM hW hS zc6 hi rfl 2 (by decide) rfl lf_X6_16 (Or.inl rfl) (tyX6_ok 2 (by decide)) dX6_put_12 (fun H locs hW hS => ?_)
  exact z_vret hM hlk hr hW hS (zF.of rfl (by unfold s_X6_put; rfl)) dX6_put_15

noncomputable def r_X6_isAbove (S : zS) (i j : Nat) : Int32 := 
  (pif ((gi S 6 (j) (0)) < (gi S 6 (i) (0))) (1) 
    (pif ((gi S 6 (i) (0)) = (gi S 6 (j) (0))) 
      (pif ((gi S 6 (i) (1)) ≤ (gi S 6 (j) (1))) (0) (1)) (0)))
set_option maxHeartbeats 4000000 in
set_option maxRecDepth 100000 in
theorem c_X6_isAbove {l : Launch} {D : va_G} {ar : Nat → ClassId} {A : Nat → Prop} {Z : zZ} {S : zS} {i j : Nat} (hi : Z.2.1 6 i) (hj : Z.2.1 6 j) : zMet l yX6_isAbove prog_8_method_2_code 2 (some .boolean) ({ frames := 0, cells := 0, slots := 0, locals := 0 } : Room) D ar A Z S [.ref (Z.1 6 (i)), .ref (Z.1 6 (j))] rvI (zF (r_X6_isAbove S i j) Z S) := by
  refine z_body (by decide +kernel) (Nat.le_of_ble_eq_true rfl) ?_
  intro pX eX sX mX bX methX cX ls hM hr hlk hml hin hl hW hlo
  have hM : zM pX cX mX _ sX prog_8_method_2_code RX6 D ar := hM
  have hS : va_S A sX.heap sX.heap [] := va_S.rf
  have hl : lv_has ls 2 [(0, .ref (Z.1 6 (i))), (1, .ref (Z.1 6 (j)))] := hl
  refine lv_aload_n hM.1 hM.2.1 dX6_isAbove_0 rfl (lv_at hl 0 rfl) ?_
  refine z_get hM hW zc6 hi rfl 0 (by decide) lf_X6_7 (v := .int (gi S 6 (i) (0))) rfl dX6_isAbove_1 ?_
  refine lv_aload_n hM.1 hM.2.1 dX6_isAbove_4 rfl (lv_at hl 1 rfl) ?_
  refine z_get hM hW zc6 hj rfl 0 (by decide) lf_X6_7 (v := .int (gi S 6 (j) (0))) rfl dX6_isAbove_5 ?_
  refine lv_icmp_gt hM.1 hM.2.1 dX6_isAbove_8 (tgt := 33) (by decide) (fun h_8 => ?_) (fun h_8 => ?_)
  ·
    refine lv_iconst (v := 1) hM.1 hM.2.1 dX6_isAbove_33 (by decide) ?_
    refine lv_goto hM.1 hM.2.1 dX6_isAbove_34 (tgt := 38) (by decide) ?_
    exact z_iret hM hlk hr rfl hW hS (zF.of (by unfold r_X6_isAbove; rw [pif_pos h_8]; first | done | rfl) rfl) dX6_isAbove_38
  ·
    refine lv_aload_n hM.1 hM.2.1 dX6_isAbove_11 rfl (lv_at hl 0 rfl) ?_
    refine z_get hM hW zc6 hi rfl 0 (by decide) lf_X6_7 (v := .int (gi S 6 (i) (0))) rfl dX6_isAbove_12 ?_
    refine lv_aload_n hM.1 hM.2.1 dX6_isAbove_15 rfl (lv_at hl 1 rfl) ?_
    refine z_get hM hW zc6 hj rfl 0 (by decide) lf_X6_7 (v := .int (gi S 6 (j) (0))) rfl dX6_isAbove_16 ?_
    refine lv_icmp_ne hM.1 hM.2.1 dX6_isAbove_19 (tgt := 37) (by decide) (fun h_19 => ?_) (fun h_19 => ?_)
    ·
      refine lv_iconst (v := 0) hM.1 hM.2.1 dX6_isAbove_37 (by decide) ?_
      exact z_iret hM hlk hr rfl hW hS (zF.of (by unfold r_X6_isAbove; rw [pif_neg h_8, pif_neg h_19]; first | done | rfl) rfl) dX6_isAbove_38
    ·
      refine lv_aload_n hM.1 hM.2.1 dX6_isAbove_22 rfl (lv_at hl 0 rfl) ?_
      refine z_get hM hW zc6 hi rfl 1 (by decide) lf_X6_13 (v := .int (gi S 6 (i) (1))) rfl dX6_isAbove_23 ?_
      refine lv_aload_n hM.1 hM.2.1 dX6_isAbove_26 rfl (lv_at hl 1 rfl) ?_
      refine z_get hM hW zc6 hj rfl 1 (by decide) lf_X6_13 (v := .int (gi S 6 (j) (1))) rfl dX6_isAbove_27 ?_
      refine lv_icmp_le hM.1 hM.2.1 dX6_isAbove_30 (tgt := 37) (by decide) (fun h_30 => ?_) (fun h_30 => ?_)
      ·
        refine lv_iconst (v := 0) hM.1 hM.2.1 dX6_isAbove_37 (by decide) ?_
        exact z_iret hM hlk hr rfl hW hS (zF.of (by unfold r_X6_isAbove; rw [pif_neg h_8, pif_pos h_19, pif_pos h_30]; first | done | rfl) rfl) dX6_isAbove_38
      ·
        refine lv_iconst (v := 1) hM.1 hM.2.1 dX6_isAbove_33 (by decide) ?_
        refine lv_goto hM.1 hM.2.1 dX6_isAbove_34 (tgt := 38) (by decide) ?_
        exact z_iret hM hlk hr rfl hW hS (zF.of (by unfold r_X6_isAbove; rw [pif_neg h_8, pif_pos h_19, pif_neg h_30]; first | done | rfl) rfl) dX6_isAbove_38

noncomputable def s_X0_showTag (S : zS) (a i : Nat) : zS := ((si (si S 0 (a) (5) (gi S 6 (i) (0))) 0 (a) (6) (gi S 6 (i) (1))))
set_option maxHeartbeats 4000000 in
set_option maxRecDepth 100000 in
theorem c_X0_showTag {l : Launch} {D : va_G} {ar : Nat → ClassId} {A : Nat → Prop} {Z : zZ} {S : zS} {a i : Nat} (ha : Z.2.1 0 a) (hi : Z.2.1 6 i) : zMet l yX0_showTag prog_2_method_2_code 2 none ({ frames := 0, cells := 0, slots := 0, locals := 0 } : Room) D ar A Z S [.ref (Z.1 0 (a)), .ref (Z.1 6 (i))] rvV (zF () Z (s_X0_showTag S a i)) := by
  refine z_body (by decide +kernel) (Nat.le_of_ble_eq_true rfl) ?_
  intro pX eX sX mX bX methX cX ls hM hr hlk hml hin hl hW hlo
  have hM : zM pX cX mX _ sX prog_2_method_2_code RX0 D ar := hM
  have hS : va_S A sX.heap sX.heap [] := va_S.rf
  have hl : lv_has ls 2 [(0, .ref (Z.1 0 (a))), (1, .ref (Z.1 6 (i)))] := hl
  refine lv_aload_n hM.1 hM.2.1 dX0_showTag_0 rfl (lv_at hl 0 rfl) ?_
  refine lv_aload_n hM.1 hM.2.1 dX0_showTag_1 rfl (lv_at hl 1 rfl) ?_
  refine z_get hM hW zc6 hi rfl 0 (by decide) lf_X0_33 (v := .int (gi S 6 (i) (0))) rfl dX0_showTag_2 ?_
  refine z_puti hM hW hS zc0 ha rfl 5 (by decide) rfl lf_X0_15 (Or.inl rfl) (tyX0 5) (tyX0_ok 5 (by decide)) rfl rfl dX0_showTag_5 (fun H locs hW hS => ?_)
  refine lv_aload_n hM.1 hM.2.1 dX0_showTag_8 rfl (lv_at hl 0 rfl) ?_
  refine lv_aload_n hM.1 hM.2.1 dX0_showTag_9 rfl (lv_at hl 1 rfl) ?_
  refine z_get hM hW zc6 hi rfl 1 (by decide) lf_X0_36 (v := .int (gi S 6 (i) (1))) rfl dX0_showTag_10 ?_
  refine z_puti hM hW hS zc0 ha rfl 6 (by decide) rfl lf_X0_18 (Or.inl rfl) (tyX0 6) (tyX0_ok 6 (by decide)) rfl rfl dX0_showTag_13 (fun H locs hW hS => ?_)
  exact z_vret hM hlk hr hW hS (zF.of rfl (by unfold s_X0_showTag; rfl)) dX0_showTag_16

noncomputable def s_X0_init (S : zS) (a : Nat) (x y z : Int32) : zS := ((si (si (si (si (si (si (si S 0 (a) (4) ((-1))) 0 (a) (5) ((-1))) 0 (a) (6) ((-1))) 0 (a) (7) ((-1))) 0 (a) (0) (x)) 0 (a) (1) (y)) 0 (a) (2) (z)))
set_option maxHeartbeats 4000000 in
set_option maxRecDepth 100000 in
theorem c_X0_init {l : Launch} {D : va_G} {ar : Nat → ClassId} {A : Nat → Prop} {Z : zZ} {S : zS} {a : Nat} {x y z : Int32} (ha : Z.2.1 0 a) : zMet l yX0_init prog_2_method_1_code 4 none ({ frames := 1, cells := 0, slots := 0, locals := 12 } : Room) D ar A Z S [.ref (Z.1 0 (a)), .int (x), .int (y), .int (z)] rvV (zF () Z (s_X0_init S a x y z)) := by
  refine z_body (by decide +kernel) (Nat.le_of_ble_eq_true rfl) ?_
  intro pX eX sX mX bX methX cX ls hM hr hlk hml hin hl hW hlo
  have hM : zM pX cX mX _ sX prog_2_method_1_code RX0 D ar := hM
  have hS : va_S A sX.heap sX.heap [] := va_S.rf
  have hl : lv_has ls 4 [(0, .ref (Z.1 0 (a))), (1, .int (x)), (2, .int (y)), (3, .int (z))] := hl
  refine lv_aload_n hM.1 hM.2.1 dX0_init_0 rfl (lv_at hl 0 rfl) ?_
  refine W.objInit hM.1 hM.2.1 hM.2.2.1 (hM.2.2.2.1 _ lm_X0_3) (hM.2.2.2.1 _ li_objectInit) (hM.2.2.2.1 _ lc_objectInit) rfl (hl.1.trans hml.symm) rfl dX0_init_1 (Nat.le_of_ble_eq_true rfl) (Nat.le_of_ble_eq_true rfl) ?_
  refine lv_aload_n hM.1 hM.2.1 dX0_init_4 rfl (lv_at hl 0 rfl) ?_
  refine lv_iconst (v := (-1)) hM.1 hM.2.1 dX0_init_5 (by decide) ?_
  refine z_puti hM hW hS zc0 ha rfl 4 (by decide) rfl lf_X0_9 (Or.inl rfl) (tyX0 4) (tyX0_ok 4 (by decide)) rfl rfl dX0_init_6 (fun H locs hW hS => ?_)
  refine lv_aload_n hM.1 hM.2.1 dX0_init_9 rfl (lv_at hl 0 rfl) ?_
  refine lv_iconst (v := (-1)) hM.1 hM.2.1 dX0_init_10 (by decide) ?_
  refine z_puti hM hW hS zc0 ha rfl 5 (by decide) rfl lf_X0_15 (Or.inl rfl) (tyX0 5) (tyX0_ok 5 (by decide)) rfl rfl dX0_init_11 (fun H locs hW hS => ?_)
  refine lv_aload_n hM.1 hM.2.1 dX0_init_14 rfl (lv_at hl 0 rfl) ?_
  refine lv_iconst (v := (-1)) hM.1 hM.2.1 dX0_init_15 (by decide) ?_
  refine z_puti hM hW hS zc0 ha rfl 6 (by decide) rfl lf_X0_18 (Or.inl rfl) (tyX0 6) (tyX0_ok 6 (by decide)) rfl rfl dX0_init_16 (fun H locs hW hS => ?_)
  refine lv_aload_n hM.1 hM.2.1 dX0_init_19 rfl (lv_at hl 0 rfl) ?_
  refine lv_iconst (v := (-1)) hM.1 hM.2.1 dX0_init_20 (by decide) ?_
  refine z_puti hM hW hS zc0 ha rfl 7 (by decide) rfl lf_X0_21 (Or.inl rfl) (tyX0 7) (tyX0_ok 7 (by decide)) rfl rfl dX0_init_21 (fun H locs hW hS => ?_)
  refine lv_aload_n hM.1 hM.2.1 dX0_init_24 rfl (lv_at hl 0 rfl) ?_
  refine lv_iload_n hM.1 hM.2.1 dX0_init_25 rfl (lv_at hl 1 rfl) ?_
  refine z_puti hM hW hS zc0 ha rfl 0 (by decide) rfl lf_X0_24 (Or.inr ⟨hin, rfl⟩) (tyX0 0) (tyX0_ok 0 (by decide)) rfl rfl dX0_init_26 (fun H locs hW hS => ?_)
  refine lv_aload_n hM.1 hM.2.1 dX0_init_29 rfl (lv_at hl 0 rfl) ?_
  refine lv_iload_n hM.1 hM.2.1 dX0_init_30 rfl (lv_at hl 2 rfl) ?_
  refine z_puti hM hW hS zc0 ha rfl 1 (by decide) rfl lf_X0_27 (Or.inr ⟨hin, rfl⟩) (tyX0 1) (tyX0_ok 1 (by decide)) rfl rfl dX0_init_31 (fun H locs hW hS => ?_)
  refine lv_aload_n hM.1 hM.2.1 dX0_init_34 rfl (lv_at hl 0 rfl) ?_
  refine lv_iload_n hM.1 hM.2.1 dX0_init_35 rfl (lv_at hl 3 rfl) ?_
  refine z_puti hM hW hS zc0 ha rfl 2 (by decide) rfl lf_X0_30 (Or.inr ⟨hin, rfl⟩) (tyX0 2) (tyX0_ok 2 (by decide)) rfl rfl dX0_init_36 (fun H locs hW hS => ?_)
  exact z_vret hM hlk hr hW hS (zF.of rfl (by unfold s_X0_init; rfl)) dX0_init_39

noncomputable def s_X5_init (S : zS) (t q : Nat) (x y : Int32) : zS := ((si (si (sr S 5 (t) (0) (some (q))) 5 (t) (1) (x)) 5 (t) (2) (y)))
set_option maxHeartbeats 4000000 in
set_option maxRecDepth 100000 in
theorem c_X5_init {l : Launch} {D : va_G} {ar : Nat → ClassId} {A : Nat → Prop} {Z : zZ} {S : zS} {t q : Nat} {x y : Int32} (ht : Z.2.1 5 t) (hq : Z.2.1 9 q) : zMet l yX5_init prog_7_method_1_code 4 none ({ frames := 1, cells := 0, slots := 0, locals := 12 } : Room) D ar A Z S [.ref (Z.1 5 (t)), .ref (Z.1 9 (q)), .int (x), .int (y)] rvV (zF () Z (s_X5_init S t q x y)) := by
  refine z_body (by decide +kernel) (Nat.le_of_ble_eq_true rfl) ?_
  intro pX eX sX mX bX methX cX ls hM hr hlk hml hin hl hW hlo
  have hM : zM pX cX mX _ sX prog_7_method_1_code RX5 D ar := hM
  have hS : va_S A sX.heap sX.heap [] := va_S.rf
  have hl : lv_has ls 4 [(0, .ref (Z.1 5 (t))), (1, .ref (Z.1 9 (q))), (2, .int (x)), (3, .int (y))] := hl
  refine lv_aload_n hM.1 hM.2.1 dX5_init_0 rfl (lv_at hl 0 rfl) ?_
  refine W.objInit hM.1 hM.2.1 hM.2.2.1 (hM.2.2.2.1 _ lm_X5_1) (hM.2.2.2.1 _ li_objectInit) (hM.2.2.2.1 _ lc_objectInit) rfl (hl.1.trans hml.symm) rfl dX5_init_1 (Nat.le_of_ble_eq_true rfl) (Nat.le_of_ble_eq_true rfl) ?_
  refine lv_aload_n hM.1 hM.2.1 dX5_init_4 rfl (lv_at hl 0 rfl) ?_
  refine lv_aload_n hM.1 hM.2.1 dX5_init_5 rfl (lv_at hl 1 rfl) ?_
  refine z_putr hM hW hS zc5 ht rfl 0 (by decide) (t := 9) (j := q) rfl hq lf_X5_7 (Or.inr ⟨hin, rfl⟩) (tyX5 0) (tyX5_ok 0 (by decide)) (fun _ => rfl) (fun _ => rfl) dX5_init_6 (fun H locs hW hS => ?_)
  refine lv_aload_n hM.1 hM.2.1 dX5_init_9 rfl (lv_at hl 0 rfl) ?_
  refine lv_iload_n hM.1 hM.2.1 dX5_init_10 rfl (lv_at hl 2 rfl) ?_
  refine z_puti hM hW hS zc5 ht rfl 1 (by decide) rfl lf_X5_13 (Or.inr ⟨hin, rfl⟩) (tyX5 1) (tyX5_ok 1 (by decide)) rfl rfl dX5_init_11 (fun H locs hW hS => ?_)
  refine lv_aload_n hM.1 hM.2.1 dX5_init_14 rfl (lv_at hl 0 rfl) ?_
  refine lv_iload_n hM.1 hM.2.1 dX5_init_15 rfl (lv_at hl 3 rfl) ?_
  refine z_puti hM hW hS zc5 ht rfl 2 (by decide) rfl lf_X5_17 (Or.inr ⟨hin, rfl⟩) (tyX5 2) (tyX5_ok 2 (by decide)) rfl rfl dX5_init_16 (fun H locs hW hS => ?_)
  exact z_vret hM hlk hr hW hS (zF.of rfl (by unfold s_X5_init; rfl)) dX5_init_19

set_option maxHeartbeats 4000000 in
set_option maxRecDepth 100000 in
theorem c_X6_init {l : Launch} {D : va_G} {ar : Nat → ClassId} {A : Nat → Prop} {Z : zZ} {S : zS} {i : Nat} (hi : Z.2.1 6 i) : zMet l yX6_init prog_8_method_1_code 1 none ({ frames := 1, cells := 0, slots := 0, locals := 12 } : Room) D ar A Z S [.ref (Z.1 6 (i))] rvV (zF () Z S) := by
  refine z_body (by decide +kernel) (Nat.le_of_ble_eq_true rfl) ?_
  intro pX eX sX mX bX methX cX ls hM hr hlk hml hin hl hW hlo
  have hM : zM pX cX mX _ sX prog_8_method_1_code RX6 D ar := hM
  have hS : va_S A sX.heap sX.heap [] := va_S.rf
  have hl : lv_has ls 1 [(0, .ref (Z.1 6 (i)))] := hl
  refine lv_aload_n hM.1 hM.2.1 dX6_init_0 rfl (lv_at hl 0 rfl) ?_
  refine W.objInit hM.1 hM.2.1 hM.2.2.1 (hM.2.2.2.1 _ lm_X6_1) (hM.2.2.2.1 _ li_objectInit) (hM.2.2.2.1 _ lc_objectInit) rfl (hl.1.trans hml.symm) rfl dX6_init_1 (Nat.le_of_ble_eq_true rfl) (Nat.le_of_ble_eq_true rfl) ?_
  exact z_vret hM hlk hr hW hS (zF.of rfl rfl) dX6_init_4

noncomputable def r_X2_hasAnswerOf (S : zS) (c : Nat) (x : Int32) : Int32 := 
  (pif ((((gi S 2 (c) (5)) >>> ((x) &&& 31)) &&& (1)) = (1)) (1) (0))
set_option maxHeartbeats 4000000 in
set_option maxRecDepth 100000 in
theorem c_X2_hasAnswerOf {l : Launch} {D : va_G} {ar : Nat → ClassId} {A : Nat → Prop} {Z : zZ} {S : zS} {c : Nat} {x : Int32} (hc : Z.2.1 2 c) : zMet l yX2_hasAnswerOf prog_4_method_2_code 2 (some .boolean) ({ frames := 0, cells := 0, slots := 0, locals := 0 } : Room) D ar A Z S [.ref (Z.1 2 (c)), .int (x)] rvI (zF (r_X2_hasAnswerOf S c x) Z S) := by
  refine z_body (by decide +kernel) (Nat.le_of_ble_eq_true rfl) ?_
  intro pX eX sX mX bX methX cX ls hM hr hlk hml hin hl hW hlo
  have hM : zM pX cX mX _ sX prog_4_method_2_code RX2 D ar := hM
  have hS : va_S A sX.heap sX.heap [] := va_S.rf
  have hl : lv_has ls 2 [(0, .ref (Z.1 2 (c))), (1, .int (x))] := hl
  refine lv_aload_n hM.1 hM.2.1 dX2_hasAnswerOf_0 rfl (lv_at hl 0 rfl) ?_
  refine z_get hM hW zc2 hc rfl 5 (by decide) lf_X2_22 (v := .int (gi S 2 (c) (5))) rfl dX2_hasAnswerOf_1 ?_
  refine lv_iload_n hM.1 hM.2.1 dX2_hasAnswerOf_4 rfl (lv_at hl 1 rfl) ?_
  refine lv_ishr hM.1 hM.2.1 dX2_hasAnswerOf_5 ?_
  refine lv_iconst (v := 1) hM.1 hM.2.1 dX2_hasAnswerOf_6 (by decide) ?_
  refine lv_iand hM.1 hM.2.1 dX2_hasAnswerOf_7 ?_
  refine lv_iconst (v := 1) hM.1 hM.2.1 dX2_hasAnswerOf_8 (by decide) ?_
  refine lv_icmp_ne hM.1 hM.2.1 dX2_hasAnswerOf_9 (tgt := 16) (by decide) (fun h_9 => ?_) (fun h_9 => ?_)
  ·
    refine lv_iconst (v := 0) hM.1 hM.2.1 dX2_hasAnswerOf_16 (by decide) ?_
    exact z_iret hM hlk hr rfl hW hS (zF.of (by unfold r_X2_hasAnswerOf; rw [pif_neg h_9]; first | done | rfl) rfl) dX2_hasAnswerOf_17
  ·
    refine lv_iconst (v := 1) hM.1 hM.2.1 dX2_hasAnswerOf_12 (by decide) ?_
    refine lv_goto hM.1 hM.2.1 dX2_hasAnswerOf_13 (tgt := 17) (by decide) ?_
    exact z_iret hM hlk hr rfl hW hS (zF.of (by unfold r_X2_hasAnswerOf; rw [pif_pos h_9]; first | done | rfl) rfl) dX2_hasAnswerOf_17

noncomputable def r_X2_counts (S : zS) (c j a : Nat) : Int32 := 
  (pif ((gi S 4 (j) (4)) = (gi S 0 (a) (0))) 
    (pif ((gi S 4 (j) (6)) = (gi S 2 (c) (4))) 
      (pif ((r_X2_hasAnswerOf S (c) (gi S 4 (j) (2))) = (0)) (1) (0)) (0)) (0))
set_option maxHeartbeats 4000000 in
set_option maxRecDepth 100000 in
theorem c_X2_counts {l : Launch} {D : va_G} {ar : Nat → ClassId} {A : Nat → Prop} {Z : zZ} {S : zS} {c j a : Nat} (hc : Z.2.1 2 c) (hj : Z.2.1 4 j) (ha : Z.2.1 0 a) : zMet l yX2_counts prog_4_method_3_code 3 (some .boolean) ({ frames := 1, cells := 0, slots := 0, locals := 21 } : Room) D ar A Z S [.ref (Z.1 2 (c)), .ref (Z.1 4 (j)), .ref (Z.1 0 (a))] rvI (zF (r_X2_counts S c j a) Z S) := by
  refine z_body (by decide +kernel) (Nat.le_of_ble_eq_true rfl) ?_
  intro pX eX sX mX bX methX cX ls hM hr hlk hml hin hl hW hlo
  have hM : zM pX cX mX _ sX prog_4_method_3_code RX2 D ar := hM
  have hS : va_S A sX.heap sX.heap [] := va_S.rf
  have hl : lv_has ls 3 [(0, .ref (Z.1 2 (c))), (1, .ref (Z.1 4 (j))), (2, .ref (Z.1 0 (a)))] := hl
  refine lv_aload_n hM.1 hM.2.1 dX2_counts_0 rfl (lv_at hl 1 rfl) ?_
  refine z_get hM hW zc4 hj rfl 4 (by decide) lf_X2_25 (v := .int (gi S 4 (j) (4))) rfl dX2_counts_1 ?_
  refine lv_aload_n hM.1 hM.2.1 dX2_counts_4 rfl (lv_at hl 2 rfl) ?_
  refine z_get hM hW zc0 ha rfl 0 (by decide) lf_X2_30 (v := .int (gi S 0 (a) (0))) rfl dX2_counts_5 ?_
  refine lv_icmp_ne hM.1 hM.2.1 dX2_counts_8 (tgt := 37) (by decide) (fun h_8 => ?_) (fun h_8 => ?_)
  ·
    refine lv_iconst (v := 0) hM.1 hM.2.1 dX2_counts_37 (by decide) ?_
    exact z_iret hM hlk hr rfl hW hS (zF.of (by unfold r_X2_counts; rw [pif_neg h_8]; first | done | rfl) rfl) dX2_counts_38
  ·
    refine lv_aload_n hM.1 hM.2.1 dX2_counts_11 rfl (lv_at hl 1 rfl) ?_
    refine z_get hM hW zc4 hj rfl 6 (by decide) lf_X2_33 (v := .int (gi S 4 (j) (6))) rfl dX2_counts_12 ?_
    refine lv_aload_n hM.1 hM.2.1 dX2_counts_15 rfl (lv_at hl 0 rfl) ?_
    refine z_get hM hW zc2 hc rfl 4 (by decide) lf_X2_36 (v := .int (gi S 2 (c) (4))) rfl dX2_counts_16 ?_
    refine lv_icmp_ne hM.1 hM.2.1 dX2_counts_19 (tgt := 37) (by decide) (fun h_19 => ?_) (fun h_19 => ?_)
    ·
      refine lv_iconst (v := 0) hM.1 hM.2.1 dX2_counts_37 (by decide) ?_
      exact z_iret hM hlk hr rfl hW hS (zF.of (by unfold r_X2_counts; rw [pif_pos h_8, pif_neg h_19]; first | done | rfl) rfl) dX2_counts_38
    ·
      refine lv_aload_n hM.1 hM.2.1 dX2_counts_22 rfl (lv_at hl 0 rfl) ?_
      refine lv_aload_n hM.1 hM.2.1 dX2_counts_23 rfl (lv_at hl 1 rfl) ?_
      refine z_get hM hW zc4 hj rfl 2 (by decide) lf_X2_37 (v := .int (gi S 4 (j) (2))) rfl dX2_counts_24 ?_
      refine z_Vi hM (hml.trans hl.1.symm) hW hS hlo zc2 hc rfl zyX2_hasAnswerOf lm_X2_40 li_yX2_hasAnswerOf le_yX2_hasAnswerOf (As := [.int (gi S 4 (j) (2))]) (rest := []) (c_X2_hasAnswerOf hc) rfl rfl (Nat.le_of_ble_eq_true rfl) ⟨Nat.le_of_ble_eq_true rfl, Nat.le_of_ble_eq_true rfl⟩ ⟨Nat.le_of_ble_eq_true rfl, Nat.le_of_ble_eq_true rfl⟩ dX2_counts_27 (fun H locs hW hS => ?_)
      refine lv_if_ne hM.1 hM.2.1 dX2_counts_30 (tgt := 37) (by decide) (fun h_30 => ?_) (fun h_30 => ?_)
      ·
        refine lv_iconst (v := 0) hM.1 hM.2.1 dX2_counts_37 (by decide) ?_
        exact z_iret hM hlk hr rfl hW hS (zF.of (by unfold r_X2_counts; rw [pif_pos h_8, pif_pos h_19, pif_neg h_30]; first | done | rfl) rfl) dX2_counts_38
      ·
        refine lv_iconst (v := 1) hM.1 hM.2.1 dX2_counts_33 (by decide) ?_
        refine lv_goto hM.1 hM.2.1 dX2_counts_34 (tgt := 38) (by decide) ?_
        exact z_iret hM hlk hr rfl hW hS (zF.of (by unfold r_X2_counts; rw [pif_pos h_8, pif_pos h_19, pif_pos h_30]; first | done | rfl) rfl) dX2_counts_38

noncomputable def s_X2_rest (S : zS) (c : Nat) : zS := ((si (si (sr S 2 (c) (2) (none)) 2 (c) (3) (0)) 2 (c) (5) (0)))
set_option maxHeartbeats 4000000 in
set_option maxRecDepth 100000 in
theorem c_X2_rest {l : Launch} {D : va_G} {ar : Nat → ClassId} {A : Nat → Prop} {Z : zZ} {S : zS} {c : Nat} (hc : Z.2.1 2 c) : zMet l yX2_rest prog_4_method_5_code 1 none ({ frames := 0, cells := 0, slots := 0, locals := 0 } : Room) D ar A Z S [.ref (Z.1 2 (c))] rvV (zF () Z (s_X2_rest S c)) := by
  refine z_body (by decide +kernel) (Nat.le_of_ble_eq_true rfl) ?_
  intro pX eX sX mX bX methX cX ls hM hr hlk hml hin hl hW hlo
  have hM : zM pX cX mX _ sX prog_4_method_5_code RX2 D ar := hM
  have hS : va_S A sX.heap sX.heap [] := va_S.rf
  have hl : lv_has ls 1 [(0, .ref (Z.1 2 (c)))] := hl
  refine lv_aload_n hM.1 hM.2.1 dX2_rest_0 rfl (lv_at hl 0 rfl) ?_
  refine lv_null hM.1 hM.2.1 dX2_rest_1 ?_
  refine z_putn hM hW hS zc2 hc rfl 2 (by decide) (t := 0) rfl lf_X2_70 (Or.inl rfl) (tyX2 2) (tyX2_ok 2 (by decide)) rfl rfl dX2_rest_2 (fun H locs hW hS => ?_)
  refine lv_aload_n hM.1 hM.2.1 dX2_rest_5 rfl (lv_at hl 0 rfl) ?_
  refine lv_iconst (v := 0) hM.1 hM.2.1 dX2_rest_6 (by decide) ?_
  refine z_puti hM hW hS zc2 hc rfl 3 (by decide) rfl lf_X2_58 (Or.inl rfl) (tyX2 3) (tyX2_ok 3 (by decide)) rfl rfl dX2_rest_7 (fun H locs hW hS => ?_)
  refine lv_aload_n hM.1 hM.2.1 dX2_rest_10 rfl (lv_at hl 0 rfl) ?_
  refine lv_iconst (v := 0) hM.1 hM.2.1 dX2_rest_11 (by decide) ?_
  refine z_puti hM hW hS zc2 hc rfl 5 (by decide) rfl lf_X2_22 (Or.inl rfl) (tyX2 5) (tyX2_ok 5 (by decide)) rfl rfl dX2_rest_12 (fun H locs hW hS => ?_)
  exact z_vret hM hlk hr hW hS (zF.of rfl (by unfold s_X2_rest; rfl)) dX2_rest_15

noncomputable def s_X2_learn (S : zS) (c j : Nat) : zS := 
  (pif ((gi S 2 (c) (3)) = (1)) 
    (pif ((r_X6_isAbove (si (si (si S 2 (c) (5) ((gi S 2 (c) (5)) ||| ((1) <<< ((gi S 4 (j) (2)) &&& 31)))) 2 (c) (6) (if (gi S 2 (c) (6)) < (gi S 4 (j) (7)) then (gi S 4 (j) (7)) else (gi S 2 (c) (6)))) 2 (c) (7) (if (gi S 2 (c) (7)) < (gi S 4 (j) (8)) then (gi S 4 (j) (8)) else (gi S 2 (c) (7)))) (20 + j) (10 + c)) = (0)) ((si (si (si S 2 (c) (5) ((gi S 2 (c) (5)) ||| ((1) <<< ((gi S 4 (j) (2)) &&& 31)))) 2 (c) (6) (if (gi S 2 (c) (6)) < (gi S 4 (j) (7)) then (gi S 4 (j) (7)) else (gi S 2 (c) (6)))) 2 (c) (7) (if (gi S 2 (c) (7)) < (gi S 4 (j) (8)) then (gi S 4 (j) (8)) else (gi S 2 (c) (7))))) ((s_X6_set (si (si (si S 2 (c) (5) ((gi S 2 (c) (5)) ||| ((1) <<< ((gi S 4 (j) (2)) &&& 31)))) 2 (c) (6) (if (gi S 2 (c) (6)) < (gi S 4 (j) (7)) then (gi S 4 (j) (7)) else (gi S 2 (c) (6)))) 2 (c) (7) (if (gi S 2 (c) (7)) < (gi S 4 (j) (8)) then (gi S 4 (j) (8)) else (gi S 2 (c) (7)))) (10 + c) (20 + j)))) 
    (pif ((gi S 2 (c) (3)) = (3)) 
      (pif ((r_X6_isAbove (si (si (si S 2 (c) (5) ((gi S 2 (c) (5)) ||| ((1) <<< ((gi S 4 (j) (2)) &&& 31)))) 2 (c) (6) (if (gi S 2 (c) (6)) < (gi S 4 (j) (7)) then (gi S 4 (j) (7)) else (gi S 2 (c) (6)))) 2 (c) (7) (if (gi S 2 (c) (7)) < (gi S 4 (j) (8)) then (gi S 4 (j) (8)) else (gi S 2 (c) (7)))) (20 + j) (10 + c)) = (0)) ((si (si (si S 2 (c) (5) ((gi S 2 (c) (5)) ||| ((1) <<< ((gi S 4 (j) (2)) &&& 31)))) 2 (c) (6) (if (gi S 2 (c) (6)) < (gi S 4 (j) (7)) then (gi S 4 (j) (7)) else (gi S 2 (c) (6)))) 2 (c) (7) (if (gi S 2 (c) (7)) < (gi S 4 (j) (8)) then (gi S 4 (j) (8)) else (gi S 2 (c) (7))))) ((s_X6_set (si (si (si S 2 (c) (5) ((gi S 2 (c) (5)) ||| ((1) <<< ((gi S 4 (j) (2)) &&& 31)))) 2 (c) (6) (if (gi S 2 (c) (6)) < (gi S 4 (j) (7)) then (gi S 4 (j) (7)) else (gi S 2 (c) (6)))) 2 (c) (7) (if (gi S 2 (c) (7)) < (gi S 4 (j) (8)) then (gi S 4 (j) (8)) else (gi S 2 (c) (7)))) (10 + c) (20 + j)))) ((si (si (si S 2 (c) (5) ((gi S 2 (c) (5)) ||| ((1) <<< ((gi S 4 (j) (2)) &&& 31)))) 2 (c) (6) (if (gi S 2 (c) (6)) < (gi S 4 (j) (7)) then (gi S 4 (j) (7)) else (gi S 2 (c) (6)))) 2 (c) (7) (if (gi S 2 (c) (7)) < (gi S 4 (j) (8)) then (gi S 4 (j) (8)) else (gi S 2 (c) (7)))))))
set_option maxHeartbeats 4000000 in
set_option maxRecDepth 100000 in
theorem c_X2_learn {l : Launch} {D : va_G} {ar : Nat → ClassId} {A : Nat → Prop} {Z : zZ} {S : zS} {c j : Nat} (hc : Z.2.1 2 c) (hj : Z.2.1 4 j) (hvc : gr S 2 c 1 = some (10 + c)) (hvj : gr S 4 j 0 = some (20 + j)) : zMet l yX2_learn prog_4_method_4_code 3 none ({ frames := 1, cells := 0, slots := 0, locals := 21 } : Room) D ar A Z S [.ref (Z.1 2 (c)), .ref (Z.1 4 (j))] rvV (zF () Z (s_X2_learn S c j)) := by
  refine z_body (by decide +kernel) (Nat.le_of_ble_eq_true rfl) ?_
  intro pX eX sX mX bX methX cX ls hM hr hlk hml hin hl hW hlo
  have hM : zM pX cX mX _ sX prog_4_method_4_code RX2 D ar := hM
  have hS : va_S A sX.heap sX.heap [] := va_S.rf
  have hl : lv_has ls 3 [(0, .ref (Z.1 2 (c))), (1, .ref (Z.1 4 (j)))] := hl
  refine lv_aload_n hM.1 hM.2.1 dX2_learn_0 rfl (lv_at hl 0 rfl) ?_
  refine lv_dup hM.1 hM.2.1 dX2_learn_1 rfl ?_
  refine z_get hM hW zc2 hc rfl 5 (by decide) lf_X2_22 (v := .int (gi S 2 (c) (5))) rfl dX2_learn_2 ?_
  refine lv_iconst (v := 1) hM.1 hM.2.1 dX2_learn_5 (by decide) ?_
  refine lv_aload_n hM.1 hM.2.1 dX2_learn_6 rfl (lv_at hl 1 rfl) ?_
  refine z_get hM hW zc4 hj rfl 2 (by decide) lf_X2_37 (v := .int (gi S 4 (j) (2))) rfl dX2_learn_7 ?_
  refine lv_ishl hM.1 hM.2.1 dX2_learn_10 ?_
  refine lv_ior hM.1 hM.2.1 dX2_learn_11 ?_
  refine z_puti hM hW hS zc2 hc rfl 5 (by decide) rfl lf_X2_22 (Or.inl rfl) (tyX2 5) (tyX2_ok 5 (by decide)) rfl rfl dX2_learn_12 (fun H locs hW hS => ?_)
  refine lv_aload_n hM.1 hM.2.1 dX2_learn_15 rfl (lv_at hl 0 rfl) ?_
  refine lv_aload_n hM.1 hM.2.1 dX2_learn_16 rfl (lv_at hl 0 rfl) ?_
  refine z_get hM hW zc2 hc rfl 6 (by decide) lf_X2_44 (v := .int (gi S 2 (c) (6))) rfl dX2_learn_17 ?_
  refine lv_aload_n hM.1 hM.2.1 dX2_learn_20 rfl (lv_at hl 1 rfl) ?_
  refine z_get hM hW zc4 hj rfl 7 (by decide) lf_X2_47 (v := .int (gi S 4 (j) (7))) rfl dX2_learn_21 ?_
  refine va_mmax hM.1 hM.2.1 (hml.trans hl.1.symm) hM.2.2.1 (hM.2.2.2.1 _ lm_X2_48) (hM.2.2.2.1 _ ls_J_max) (hM.2.2.2.1 _ lz_J) (hM.2.2.2.1 _ lc_J_max) (Nat.le_of_ble_eq_true rfl) (Nat.le_of_ble_eq_true rfl) (Nat.le_of_ble_eq_true rfl) (Nat.le_of_ble_eq_true rfl) dX2_learn_24 ?_
  refine z_puti hM hW hS zc2 hc rfl 6 (by decide) rfl lf_X2_44 (Or.inl rfl) (tyX2 6) (tyX2_ok 6 (by decide)) rfl rfl dX2_learn_27 (fun H locs hW hS => ?_)
  refine lv_aload_n hM.1 hM.2.1 dX2_learn_30 rfl (lv_at hl 0 rfl) ?_
  refine lv_aload_n hM.1 hM.2.1 dX2_learn_31 rfl (lv_at hl 0 rfl) ?_
  refine z_get hM hW zc2 hc rfl 7 (by decide) lf_X2_54 (v := .int (gi S 2 (c) (7))) rfl dX2_learn_32 ?_
  refine lv_aload_n hM.1 hM.2.1 dX2_learn_35 rfl (lv_at hl 1 rfl) ?_
  refine z_get hM hW zc4 hj rfl 8 (by decide) lf_X2_57 (v := .int (gi S 4 (j) (8))) rfl dX2_learn_36 ?_
  refine va_mmax hM.1 hM.2.1 (hml.trans hl.1.symm) hM.2.2.1 (hM.2.2.2.1 _ lm_X2_48) (hM.2.2.2.1 _ ls_J_max) (hM.2.2.2.1 _ lz_J) (hM.2.2.2.1 _ lc_J_max) (Nat.le_of_ble_eq_true rfl) (Nat.le_of_ble_eq_true rfl) (Nat.le_of_ble_eq_true rfl) (Nat.le_of_ble_eq_true rfl) dX2_learn_39 ?_
  refine z_puti hM hW hS zc2 hc rfl 7 (by decide) rfl lf_X2_54 (Or.inl rfl) (tyX2 7) (tyX2_ok 7 (by decide)) rfl rfl dX2_learn_42 (fun H locs hW hS => ?_)
  refine lv_aload_n hM.1 hM.2.1 dX2_learn_45 rfl (lv_at hl 0 rfl) ?_
  refine z_get hM hW zc2 hc rfl 3 (by decide) lf_X2_58 (v := .int (gi S 2 (c) (3))) rfl dX2_learn_46 ?_
  refine lv_iconst (v := 1) hM.1 hM.2.1 dX2_learn_49 (by decide) ?_
  refine lv_icmp_eq hM.1 hM.2.1 dX2_learn_50 (tgt := 61) (by decide) (fun h_50 => ?_) (fun h_50 => ?_)
  ·
    refine lv_iconst (v := 1) hM.1 hM.2.1 dX2_learn_61 (by decide) ?_
    refine lv_goto hM.1 hM.2.1 dX2_learn_62 (tgt := 66) (by decide) ?_
    refine lv_istore_n hM.1 hM.2.1 dX2_learn_66 rfl hl (by decide) (lv' := [(2, .int (1)), (0, .ref (Z.1 2 (c))), (1, .ref (Z.1 4 (j)))]) rfl (fun ls hl => ?_)
    refine lv_iload_n hM.1 hM.2.1 dX2_learn_67 rfl (lv_at hl 0 rfl) ?_
    refine lv_if_eq hM.1 hM.2.1 dX2_learn_68 (tgt := 96) (by decide) (fun h => absurd h (by decide)) (fun _ => ?_)
    refine lv_aload_n hM.1 hM.2.1 dX2_learn_71 rfl (lv_at hl 2 rfl) ?_
    refine z_getr hM hW zc4 hj rfl 0 (by decide) lf_X2_61 (t := 6) (j := 20 + j) rfl hvj dX2_learn_72 (fun hd1_72 => ?_)
    refine lv_aload_n hM.1 hM.2.1 dX2_learn_75 rfl (lv_at hl 1 rfl) ?_
    refine z_getr hM hW zc2 hc rfl 1 (by decide) lf_X2_12 (t := 6) (j := 10 + c) rfl hvc dX2_learn_76 (fun hd2_76 => ?_)
    refine z_Vi hM (hml.trans hl.1.symm) hW hS hlo zc6 hd1_72 rfl zyX6_isAbove lm_X2_62 li_yX6_isAbove le_yX6_isAbove (As := [.ref (Z.1 6 (10 + c))]) (rest := []) (c_X6_isAbove hd1_72 hd2_76) rfl rfl (Nat.le_of_ble_eq_true rfl) ⟨Nat.le_of_ble_eq_true rfl, Nat.le_of_ble_eq_true rfl⟩ ⟨Nat.le_of_ble_eq_true rfl, Nat.le_of_ble_eq_true rfl⟩ dX2_learn_79 (fun H locs hW hS => ?_)
    refine lv_if_eq hM.1 hM.2.1 dX2_learn_82 (tgt := 96) (by decide) (fun h_82 => ?_) (fun h_82 => ?_)
    ·
      exact z_vret hM hlk hr hW hS (zF.of rfl (by unfold s_X2_learn; rw [pif_pos h_50, pif_pos h_82]; first | done | rfl)) dX2_learn_96
    ·
      refine lv_aload_n hM.1 hM.2.1 dX2_learn_85 rfl (lv_at hl 1 rfl) ?_
      refine z_getr hM hW zc2 hc rfl 1 (by decide) lf_X2_12 (t := 6) (j := 10 + c) rfl hvc dX2_learn_86 (fun hd3_86 => ?_)
      refine lv_aload_n hM.1 hM.2.1 dX2_learn_89 rfl (lv_at hl 2 rfl) ?_
      refine z_getr hM hW zc4 hj rfl 0 (by decide) lf_X2_61 (t := 6) (j := 20 + j) rfl hvj dX2_learn_90 (fun hd4_90 => ?_)
      refine z_Vv hM (hml.trans hl.1.symm) hW hS hlo zc6 hd3_86 rfl zyX6_set lm_X2_66 li_yX6_set le_yX6_set (As := [.ref (Z.1 6 (20 + j))]) (rest := []) (c_X6_set hd3_86 hd4_90) rfl rfl (Nat.le_of_ble_eq_true rfl) ⟨Nat.le_of_ble_eq_true rfl, Nat.le_of_ble_eq_true rfl⟩ ⟨Nat.le_of_ble_eq_true rfl, Nat.le_of_ble_eq_true rfl⟩ dX2_learn_93 (fun H locs hW hS => ?_)
      exact z_vret hM hlk hr hW hS (zF.of rfl (by unfold s_X2_learn; rw [pif_pos h_50, pif_neg h_82]; first | done | rfl)) dX2_learn_96
  ·
    refine lv_aload_n hM.1 hM.2.1 dX2_learn_53 rfl (lv_at hl 0 rfl) ?_
    refine z_get hM hW zc2 hc rfl 3 (by decide) lf_X2_58 (v := .int (gi S 2 (c) (3))) rfl dX2_learn_54 ?_
    refine lv_iconst (v := 3) hM.1 hM.2.1 dX2_learn_57 (by decide) ?_
    refine lv_icmp_ne hM.1 hM.2.1 dX2_learn_58 (tgt := 65) (by decide) (fun h_58 => ?_) (fun h_58 => ?_)
    ·
      refine lv_iconst (v := 0) hM.1 hM.2.1 dX2_learn_65 (by decide) ?_
      refine lv_istore_n hM.1 hM.2.1 dX2_learn_66 rfl hl (by decide) (lv' := [(2, .int (0)), (0, .ref (Z.1 2 (c))), (1, .ref (Z.1 4 (j)))]) rfl (fun ls hl => ?_)
      refine lv_iload_n hM.1 hM.2.1 dX2_learn_67 rfl (lv_at hl 0 rfl) ?_
      refine lv_if_eq hM.1 hM.2.1 dX2_learn_68 (tgt := 96) (by decide) (fun _ => ?_) (fun h => absurd (by decide) h)
      exact z_vret hM hlk hr hW hS (zF.of rfl (by unfold s_X2_learn; rw [pif_neg h_50, pif_neg h_58]; first | done | rfl)) dX2_learn_96
    ·
      refine lv_iconst (v := 1) hM.1 hM.2.1 dX2_learn_61 (by decide) ?_
      refine lv_goto hM.1 hM.2.1 dX2_learn_62 (tgt := 66) (by decide) ?_
      refine lv_istore_n hM.1 hM.2.1 dX2_learn_66 rfl hl (by decide) (lv' := [(2, .int (1)), (0, .ref (Z.1 2 (c))), (1, .ref (Z.1 4 (j)))]) rfl (fun ls hl => ?_)
      refine lv_iload_n hM.1 hM.2.1 dX2_learn_67 rfl (lv_at hl 0 rfl) ?_
      refine lv_if_eq hM.1 hM.2.1 dX2_learn_68 (tgt := 96) (by decide) (fun h => absurd h (by decide)) (fun _ => ?_)
      refine lv_aload_n hM.1 hM.2.1 dX2_learn_71 rfl (lv_at hl 2 rfl) ?_
      refine z_getr hM hW zc4 hj rfl 0 (by decide) lf_X2_61 (t := 6) (j := 20 + j) rfl hvj dX2_learn_72 (fun hd5_72 => ?_)
      refine lv_aload_n hM.1 hM.2.1 dX2_learn_75 rfl (lv_at hl 1 rfl) ?_
      refine z_getr hM hW zc2 hc rfl 1 (by decide) lf_X2_12 (t := 6) (j := 10 + c) rfl hvc dX2_learn_76 (fun hd6_76 => ?_)
      refine z_Vi hM (hml.trans hl.1.symm) hW hS hlo zc6 hd5_72 rfl zyX6_isAbove lm_X2_62 li_yX6_isAbove le_yX6_isAbove (As := [.ref (Z.1 6 (10 + c))]) (rest := []) (c_X6_isAbove hd5_72 hd6_76) rfl rfl (Nat.le_of_ble_eq_true rfl) ⟨Nat.le_of_ble_eq_true rfl, Nat.le_of_ble_eq_true rfl⟩ ⟨Nat.le_of_ble_eq_true rfl, Nat.le_of_ble_eq_true rfl⟩ dX2_learn_79 (fun H locs hW hS => ?_)
      refine lv_if_eq hM.1 hM.2.1 dX2_learn_82 (tgt := 96) (by decide) (fun h_82 => ?_) (fun h_82 => ?_)
      ·
        exact z_vret hM hlk hr hW hS (zF.of rfl (by unfold s_X2_learn; rw [pif_neg h_50, pif_pos h_58, pif_pos h_82]; first | done | rfl)) dX2_learn_96
      ·
        refine lv_aload_n hM.1 hM.2.1 dX2_learn_85 rfl (lv_at hl 1 rfl) ?_
        refine z_getr hM hW zc2 hc rfl 1 (by decide) lf_X2_12 (t := 6) (j := 10 + c) rfl hvc dX2_learn_86 (fun hd7_86 => ?_)
        refine lv_aload_n hM.1 hM.2.1 dX2_learn_89 rfl (lv_at hl 2 rfl) ?_
        refine z_getr hM hW zc4 hj rfl 0 (by decide) lf_X2_61 (t := 6) (j := 20 + j) rfl hvj dX2_learn_90 (fun hd8_90 => ?_)
        refine z_Vv hM (hml.trans hl.1.symm) hW hS hlo zc6 hd7_86 rfl zyX6_set lm_X2_66 li_yX6_set le_yX6_set (As := [.ref (Z.1 6 (20 + j))]) (rest := []) (c_X6_set hd7_86 hd8_90) rfl rfl (Nat.le_of_ble_eq_true rfl) ⟨Nat.le_of_ble_eq_true rfl, Nat.le_of_ble_eq_true rfl⟩ ⟨Nat.le_of_ble_eq_true rfl, Nat.le_of_ble_eq_true rfl⟩ dX2_learn_93 (fun H locs hW hS => ?_)
        exact z_vret hM hlk hr hW hS (zF.of rfl (by unfold s_X2_learn; rw [pif_neg h_50, pif_pos h_58, pif_neg h_82]; first | done | rfl)) dX2_learn_96

noncomputable def s_X3_obey (S : zS) (c j : Nat) : zS := 
  (pif ((gi S 4 (j) (5)) = (2)) 
    (pif ((r_X6_isAbove S (20 + j) (c)) = (0)) (S) ((s_X6_set S (c) (20 + j)))) 
    (pif ((gi S 4 (j) (5)) = (3)) ((si S 3 (c) (2) (if (gi S 3 (c) (2)) < (gi S 4 (j) (8)) then (gi S 4 (j) (8)) else (gi S 3 (c) (2))))) 
      (pif ((gi S 4 (j) (5)) = (4)) 
        (pif ((r_X6_isAbove S (20 + j) (c)) = (0)) (S) ((s_X6_set S (c) (20 + j)))) 
        (pif ((gi S 4 (j) (5)) = (5)) ((si (si S 3 (c) (1) (if (gi S 3 (c) (1)) < (gi S 4 (j) (8)) then (gi S 4 (j) (8)) else (gi S 3 (c) (1)))) 3 (c) (2) (if (gi S 3 (c) (2)) < (gi S 4 (j) (8)) then (gi S 4 (j) (8)) else (gi S 3 (c) (2))))) (S)))))
set_option maxHeartbeats 4000000 in
set_option maxRecDepth 100000 in
theorem c_X3_obey {l : Launch} {D : va_G} {ar : Nat → ClassId} {A : Nat → Prop} {Z : zZ} {S : zS} {c j : Nat} (hc : Z.2.1 3 c) (hj : Z.2.1 4 j) (hvc : gr S 3 c 0 = some c) (hvj : gr S 4 j 0 = some (20 + j)) : zMet l yX3_obey prog_5_method_2_code 2 none ({ frames := 1, cells := 0, slots := 0, locals := 21 } : Room) D ar A Z S [.ref (Z.1 3 (c)), .ref (Z.1 4 (j))] rvV (zF () Z (s_X3_obey S c j)) := by
  refine z_body (by decide +kernel) (Nat.le_of_ble_eq_true rfl) ?_
  intro pX eX sX mX bX methX cX ls hM hr hlk hml hin hl hW hlo
  have hM : zM pX cX mX _ sX prog_5_method_2_code RX3 D ar := hM
  have hS : va_S A sX.heap sX.heap [] := va_S.rf
  have hl : lv_has ls 2 [(0, .ref (Z.1 3 (c))), (1, .ref (Z.1 4 (j)))] := hl
  refine lv_aload_n hM.1 hM.2.1 dX3_obey_0 rfl (lv_at hl 1 rfl) ?_
  refine z_get hM hW zc4 hj rfl 5 (by decide) lf_X3_18 (v := .int (gi S 4 (j) (5))) rfl dX3_obey_1 ?_
  by_cases h_4_2 : (gi S 4 (j) (5)) = (2)
  ·
    refine lv_tableIn hM.1 hM.2.1 dX3_obey_4 (by rw [h_4_2]; decide) (by rw [h_4_2]; decide) (off := 32) (by rw [h_4_2]; rfl) (tgt := 36) (by decide) ?_
    refine lv_aload_n hM.1 hM.2.1 dX3_obey_36 rfl (lv_at hl 1 rfl) ?_
    refine z_getr hM hW zc4 hj rfl 0 (by decide) lf_X3_24 (t := 6) (j := 20 + j) rfl hvj dX3_obey_37 (fun hd1_37 => ?_)
    refine lv_aload_n hM.1 hM.2.1 dX3_obey_40 rfl (lv_at hl 0 rfl) ?_
    refine z_getr hM hW zc3 hc rfl 0 (by decide) lf_X3_12 (t := 6) (j := c) rfl hvc dX3_obey_41 (fun hd2_41 => ?_)
    refine z_Vi hM (hml.trans hl.1.symm) hW hS hlo zc6 hd1_37 rfl zyX6_isAbove lm_X3_25 li_yX6_isAbove le_yX6_isAbove (As := [.ref (Z.1 6 (c))]) (rest := []) (c_X6_isAbove hd1_37 hd2_41) rfl rfl (Nat.le_of_ble_eq_true rfl) ⟨Nat.le_of_ble_eq_true rfl, Nat.le_of_ble_eq_true rfl⟩ ⟨Nat.le_of_ble_eq_true rfl, Nat.le_of_ble_eq_true rfl⟩ dX3_obey_44 (fun H locs hW hS => ?_)
    refine lv_if_eq hM.1 hM.2.1 dX3_obey_47 (tgt := 115) (by decide) (fun h_47 => ?_) (fun h_47 => ?_)
    ·
      exact z_vret hM hlk hr hW hS (zF.of rfl (by unfold s_X3_obey; rw [pif_pos h_4_2, pif_pos h_47]; first | done | rfl)) dX3_obey_115
    ·
      refine lv_aload_n hM.1 hM.2.1 dX3_obey_50 rfl (lv_at hl 0 rfl) ?_
      refine z_getr hM hW zc3 hc rfl 0 (by decide) lf_X3_12 (t := 6) (j := c) rfl hvc dX3_obey_51 (fun hd3_51 => ?_)
      refine lv_aload_n hM.1 hM.2.1 dX3_obey_54 rfl (lv_at hl 1 rfl) ?_
      refine z_getr hM hW zc4 hj rfl 0 (by decide) lf_X3_24 (t := 6) (j := 20 + j) rfl hvj dX3_obey_55 (fun hd4_55 => ?_)
      refine z_Vv hM (hml.trans hl.1.symm) hW hS hlo zc6 hd3_51 rfl zyX6_set lm_X3_29 li_yX6_set le_yX6_set (As := [.ref (Z.1 6 (20 + j))]) (rest := []) (c_X6_set hd3_51 hd4_55) rfl rfl (Nat.le_of_ble_eq_true rfl) ⟨Nat.le_of_ble_eq_true rfl, Nat.le_of_ble_eq_true rfl⟩ ⟨Nat.le_of_ble_eq_true rfl, Nat.le_of_ble_eq_true rfl⟩ dX3_obey_58 (fun H locs hW hS => ?_)
      refine lv_goto hM.1 hM.2.1 dX3_obey_61 (tgt := 115) (by decide) ?_
      exact z_vret hM hlk hr hW hS (zF.of rfl (by unfold s_X3_obey; rw [pif_pos h_4_2, pif_neg h_47]; first | done | rfl)) dX3_obey_115
  by_cases h_4_3 : (gi S 4 (j) (5)) = (3)
  ·
    refine lv_tableIn hM.1 hM.2.1 dX3_obey_4 (by rw [h_4_3]; decide) (by rw [h_4_3]; decide) (off := 60) (by rw [h_4_3]; rfl) (tgt := 64) (by decide) ?_
    refine lv_aload_n hM.1 hM.2.1 dX3_obey_64 rfl (lv_at hl 0 rfl) ?_
    refine lv_aload_n hM.1 hM.2.1 dX3_obey_65 rfl (lv_at hl 0 rfl) ?_
    refine z_get hM hW zc3 hc rfl 2 (by decide) lf_X3_33 (v := .int (gi S 3 (c) (2))) rfl dX3_obey_66 ?_
    refine lv_aload_n hM.1 hM.2.1 dX3_obey_69 rfl (lv_at hl 1 rfl) ?_
    refine z_get hM hW zc4 hj rfl 8 (by decide) lf_X3_36 (v := .int (gi S 4 (j) (8))) rfl dX3_obey_70 ?_
    refine va_mmax hM.1 hM.2.1 (hml.trans hl.1.symm) hM.2.2.1 (hM.2.2.2.1 _ lm_X3_37) (hM.2.2.2.1 _ ls_J_max) (hM.2.2.2.1 _ lz_J) (hM.2.2.2.1 _ lc_J_max) (Nat.le_of_ble_eq_true rfl) (Nat.le_of_ble_eq_true rfl) (Nat.le_of_ble_eq_true rfl) (Nat.le_of_ble_eq_true rfl) dX3_obey_73 ?_
    refine z_puti hM hW hS zc3 hc rfl 2 (by decide) rfl lf_X3_33 (Or.inl rfl) (tyX3 2) (tyX3_ok 2 (by decide)) rfl rfl dX3_obey_76 (fun H locs hW hS => ?_)
    refine lv_goto hM.1 hM.2.1 dX3_obey_79 (tgt := 115) (by decide) ?_
    exact z_vret hM hlk hr hW hS (zF.of rfl (by unfold s_X3_obey; rw [pif_neg h_4_2, pif_pos h_4_3]; first | done | rfl)) dX3_obey_115
  by_cases h_4_4 : (gi S 4 (j) (5)) = (4)
  ·
    refine lv_tableIn hM.1 hM.2.1 dX3_obey_4 (by rw [h_4_4]; decide) (by rw [h_4_4]; decide) (off := 32) (by rw [h_4_4]; rfl) (tgt := 36) (by decide) ?_
    refine lv_aload_n hM.1 hM.2.1 dX3_obey_36 rfl (lv_at hl 1 rfl) ?_
    refine z_getr hM hW zc4 hj rfl 0 (by decide) lf_X3_24 (t := 6) (j := 20 + j) rfl hvj dX3_obey_37 (fun hd5_37 => ?_)
    refine lv_aload_n hM.1 hM.2.1 dX3_obey_40 rfl (lv_at hl 0 rfl) ?_
    refine z_getr hM hW zc3 hc rfl 0 (by decide) lf_X3_12 (t := 6) (j := c) rfl hvc dX3_obey_41 (fun hd6_41 => ?_)
    refine z_Vi hM (hml.trans hl.1.symm) hW hS hlo zc6 hd5_37 rfl zyX6_isAbove lm_X3_25 li_yX6_isAbove le_yX6_isAbove (As := [.ref (Z.1 6 (c))]) (rest := []) (c_X6_isAbove hd5_37 hd6_41) rfl rfl (Nat.le_of_ble_eq_true rfl) ⟨Nat.le_of_ble_eq_true rfl, Nat.le_of_ble_eq_true rfl⟩ ⟨Nat.le_of_ble_eq_true rfl, Nat.le_of_ble_eq_true rfl⟩ dX3_obey_44 (fun H locs hW hS => ?_)
    refine lv_if_eq hM.1 hM.2.1 dX3_obey_47 (tgt := 115) (by decide) (fun h_47 => ?_) (fun h_47 => ?_)
    ·
      exact z_vret hM hlk hr hW hS (zF.of rfl (by unfold s_X3_obey; rw [pif_neg h_4_2, pif_neg h_4_3, pif_pos h_4_4, pif_pos h_47]; first | done | rfl)) dX3_obey_115
    ·
      refine lv_aload_n hM.1 hM.2.1 dX3_obey_50 rfl (lv_at hl 0 rfl) ?_
      refine z_getr hM hW zc3 hc rfl 0 (by decide) lf_X3_12 (t := 6) (j := c) rfl hvc dX3_obey_51 (fun hd7_51 => ?_)
      refine lv_aload_n hM.1 hM.2.1 dX3_obey_54 rfl (lv_at hl 1 rfl) ?_
      refine z_getr hM hW zc4 hj rfl 0 (by decide) lf_X3_24 (t := 6) (j := 20 + j) rfl hvj dX3_obey_55 (fun hd8_55 => ?_)
      refine z_Vv hM (hml.trans hl.1.symm) hW hS hlo zc6 hd7_51 rfl zyX6_set lm_X3_29 li_yX6_set le_yX6_set (As := [.ref (Z.1 6 (20 + j))]) (rest := []) (c_X6_set hd7_51 hd8_55) rfl rfl (Nat.le_of_ble_eq_true rfl) ⟨Nat.le_of_ble_eq_true rfl, Nat.le_of_ble_eq_true rfl⟩ ⟨Nat.le_of_ble_eq_true rfl, Nat.le_of_ble_eq_true rfl⟩ dX3_obey_58 (fun H locs hW hS => ?_)
      refine lv_goto hM.1 hM.2.1 dX3_obey_61 (tgt := 115) (by decide) ?_
      exact z_vret hM hlk hr hW hS (zF.of rfl (by unfold s_X3_obey; rw [pif_neg h_4_2, pif_neg h_4_3, pif_pos h_4_4, pif_neg h_47]; first | done | rfl)) dX3_obey_115
  by_cases h_4_5 : (gi S 4 (j) (5)) = (5)
  ·
    refine lv_tableIn hM.1 hM.2.1 dX3_obey_4 (by rw [h_4_5]; decide) (by rw [h_4_5]; decide) (off := 78) (by rw [h_4_5]; rfl) (tgt := 82) (by decide) ?_
    refine lv_aload_n hM.1 hM.2.1 dX3_obey_82 rfl (lv_at hl 0 rfl) ?_
    refine lv_aload_n hM.1 hM.2.1 dX3_obey_83 rfl (lv_at hl 0 rfl) ?_
    refine z_get hM hW zc3 hc rfl 1 (by decide) lf_X3_43 (v := .int (gi S 3 (c) (1))) rfl dX3_obey_84 ?_
    refine lv_aload_n hM.1 hM.2.1 dX3_obey_87 rfl (lv_at hl 1 rfl) ?_
    refine z_get hM hW zc4 hj rfl 8 (by decide) lf_X3_36 (v := .int (gi S 4 (j) (8))) rfl dX3_obey_88 ?_
    refine va_mmax hM.1 hM.2.1 (hml.trans hl.1.symm) hM.2.2.1 (hM.2.2.2.1 _ lm_X3_37) (hM.2.2.2.1 _ ls_J_max) (hM.2.2.2.1 _ lz_J) (hM.2.2.2.1 _ lc_J_max) (Nat.le_of_ble_eq_true rfl) (Nat.le_of_ble_eq_true rfl) (Nat.le_of_ble_eq_true rfl) (Nat.le_of_ble_eq_true rfl) dX3_obey_91 ?_
    refine z_puti hM hW hS zc3 hc rfl 1 (by decide) rfl lf_X3_43 (Or.inl rfl) (tyX3 1) (tyX3_ok 1 (by decide)) rfl rfl dX3_obey_94 (fun H locs hW hS => ?_)
    refine lv_aload_n hM.1 hM.2.1 dX3_obey_97 rfl (lv_at hl 0 rfl) ?_
    refine lv_aload_n hM.1 hM.2.1 dX3_obey_98 rfl (lv_at hl 0 rfl) ?_
    refine z_get hM hW zc3 hc rfl 2 (by decide) lf_X3_33 (v := .int (gi S 3 (c) (2))) rfl dX3_obey_99 ?_
    refine lv_aload_n hM.1 hM.2.1 dX3_obey_102 rfl (lv_at hl 1 rfl) ?_
    refine z_get hM hW zc4 hj rfl 8 (by decide) lf_X3_36 (v := .int (gi S 4 (j) (8))) rfl dX3_obey_103 ?_
    refine va_mmax hM.1 hM.2.1 (hml.trans hl.1.symm) hM.2.2.1 (hM.2.2.2.1 _ lm_X3_37) (hM.2.2.2.1 _ ls_J_max) (hM.2.2.2.1 _ lz_J) (hM.2.2.2.1 _ lc_J_max) (Nat.le_of_ble_eq_true rfl) (Nat.le_of_ble_eq_true rfl) (Nat.le_of_ble_eq_true rfl) (Nat.le_of_ble_eq_true rfl) dX3_obey_106 ?_
    refine z_puti hM hW hS zc3 hc rfl 2 (by decide) rfl lf_X3_33 (Or.inl rfl) (tyX3 2) (tyX3_ok 2 (by decide)) rfl rfl dX3_obey_109 (fun H locs hW hS => ?_)
    refine lv_goto hM.1 hM.2.1 dX3_obey_112 (tgt := 115) (by decide) ?_
    exact z_vret hM hlk hr hW hS (zF.of rfl (by unfold s_X3_obey; rw [pif_neg h_4_2, pif_neg h_4_3, pif_neg h_4_4, pif_pos h_4_5]; first | done | rfl)) dX3_obey_115
  refine lv_tableOut hM.1 hM.2.1 dX3_obey_4 (by have n2 : Int32.toInt (gi S 4 (j) (5)) ≠ 2 := fun q => h_4_2 (Int32.toInt_inj.mp (by rw [q]; rfl)); have n3 : Int32.toInt (gi S 4 (j) (5)) ≠ 3 := fun q => h_4_3 (Int32.toInt_inj.mp (by rw [q]; rfl)); have n4 : Int32.toInt (gi S 4 (j) (5)) ≠ 4 := fun q => h_4_4 (Int32.toInt_inj.mp (by rw [q]; rfl)); have n5 : Int32.toInt (gi S 4 (j) (5)) ≠ 5 := fun q => h_4_5 (Int32.toInt_inj.mp (by rw [q]; rfl)); omega) (tgt := 115) (by decide) ?_
  exact z_vret hM hlk hr hW hS (zF.of rfl (by unfold s_X3_obey; rw [pif_neg h_4_2, pif_neg h_4_3, pif_neg h_4_4, pif_neg h_4_5]; first | done | rfl)) dX3_obey_115

noncomputable def s_X4_repeat (S : zS) (j q : Nat) : zS := ((s_X6_set (si (si (si (si (si (si (si (si S 4 (j) (1) (gi S 4 (q) (1))) 4 (j) (2) (gi S 4 (q) (2))) 4 (j) (3) (gi S 4 (q) (3))) 4 (j) (4) (gi S 4 (q) (4))) 4 (j) (5) (gi S 4 (q) (5))) 4 (j) (6) (gi S 4 (q) (6))) 4 (j) (7) (gi S 4 (q) (7))) 4 (j) (8) (gi S 4 (q) (8))) (20 + j) (20 + q)))
set_option maxHeartbeats 4000000 in
set_option maxRecDepth 100000 in
theorem c_X4_repeat {l : Launch} {D : va_G} {ar : Nat → ClassId} {A : Nat → Prop} {Z : zZ} {S : zS} {j q : Nat} (hj : Z.2.1 4 j) (hq : Z.2.1 4 q) (hvj : gr S 4 j 0 = some (20 + j)) (hvq : gr S 4 q 0 = some (20 + q)) (hbq : isB (gi S 4 q 1)) : zMet l yX4_repeat prog_6_method_2_code 2 none ({ frames := 1, cells := 0, slots := 0, locals := 21 } : Room) D ar A Z S [.ref (Z.1 4 (j)), .ref (Z.1 4 (q))] rvV (zF () Z (s_X4_repeat S j q)) := by
  refine z_body (by decide +kernel) (Nat.le_of_ble_eq_true rfl) ?_
  intro pX eX sX mX bX methX cX ls hM hr hlk hml hin hl hW hlo
  have hM : zM pX cX mX _ sX prog_6_method_2_code RX4 D ar := hM
  have hS : va_S A sX.heap sX.heap [] := va_S.rf
  have hl : lv_has ls 2 [(0, .ref (Z.1 4 (j))), (1, .ref (Z.1 4 (q)))] := hl
  refine lv_aload_n hM.1 hM.2.1 dX4_repeat_0 rfl (lv_at hl 0 rfl) ?_
  refine lv_aload_n hM.1 hM.2.1 dX4_repeat_1 rfl (lv_at hl 1 rfl) ?_
  refine z_get hM hW zc4 hq rfl 1 (by decide) lf_X4_16 (v := .int (gi S 4 (q) (1))) rfl dX4_repeat_2 ?_
  refine z_puti hM hW hS zc4 hj rfl 1 (by decide) rfl lf_X4_16 (Or.inl rfl) (tyX4 1) (tyX4_ok 1 (by decide)) (narrow_isB hbq) (fits_isB hbq) dX4_repeat_5 (fun H locs hW hS => ?_)
  refine lv_aload_n hM.1 hM.2.1 dX4_repeat_8 rfl (lv_at hl 0 rfl) ?_
  refine lv_aload_n hM.1 hM.2.1 dX4_repeat_9 rfl (lv_at hl 1 rfl) ?_
  refine z_get hM hW zc4 hq rfl 2 (by decide) lf_X4_20 (v := .int (gi S 4 (q) (2))) rfl dX4_repeat_10 ?_
  refine z_puti hM hW hS zc4 hj rfl 2 (by decide) rfl lf_X4_20 (Or.inl rfl) (tyX4 2) (tyX4_ok 2 (by decide)) rfl rfl dX4_repeat_13 (fun H locs hW hS => ?_)
  refine lv_aload_n hM.1 hM.2.1 dX4_repeat_16 rfl (lv_at hl 0 rfl) ?_
  refine lv_aload_n hM.1 hM.2.1 dX4_repeat_17 rfl (lv_at hl 1 rfl) ?_
  refine z_get hM hW zc4 hq rfl 3 (by decide) lf_X4_24 (v := .int (gi S 4 (q) (3))) rfl dX4_repeat_18 ?_
  refine z_puti hM hW hS zc4 hj rfl 3 (by decide) rfl lf_X4_24 (Or.inl rfl) (tyX4 3) (tyX4_ok 3 (by decide)) rfl rfl dX4_repeat_21 (fun H locs hW hS => ?_)
  refine lv_aload_n hM.1 hM.2.1 dX4_repeat_24 rfl (lv_at hl 0 rfl) ?_
  refine lv_aload_n hM.1 hM.2.1 dX4_repeat_25 rfl (lv_at hl 1 rfl) ?_
  refine z_get hM hW zc4 hq rfl 4 (by decide) lf_X4_27 (v := .int (gi S 4 (q) (4))) rfl dX4_repeat_26 ?_
  refine z_puti hM hW hS zc4 hj rfl 4 (by decide) rfl lf_X4_27 (Or.inl rfl) (tyX4 4) (tyX4_ok 4 (by decide)) rfl rfl dX4_repeat_29 (fun H locs hW hS => ?_)
  refine lv_aload_n hM.1 hM.2.1 dX4_repeat_32 rfl (lv_at hl 0 rfl) ?_
  refine lv_aload_n hM.1 hM.2.1 dX4_repeat_33 rfl (lv_at hl 1 rfl) ?_
  refine z_get hM hW zc4 hq rfl 5 (by decide) lf_X4_30 (v := .int (gi S 4 (q) (5))) rfl dX4_repeat_34 ?_
  refine z_puti hM hW hS zc4 hj rfl 5 (by decide) rfl lf_X4_30 (Or.inl rfl) (tyX4 5) (tyX4_ok 5 (by decide)) rfl rfl dX4_repeat_37 (fun H locs hW hS => ?_)
  refine lv_aload_n hM.1 hM.2.1 dX4_repeat_40 rfl (lv_at hl 0 rfl) ?_
  refine lv_aload_n hM.1 hM.2.1 dX4_repeat_41 rfl (lv_at hl 1 rfl) ?_
  refine z_get hM hW zc4 hq rfl 6 (by decide) lf_X4_33 (v := .int (gi S 4 (q) (6))) rfl dX4_repeat_42 ?_
  refine z_puti hM hW hS zc4 hj rfl 6 (by decide) rfl lf_X4_33 (Or.inl rfl) (tyX4 6) (tyX4_ok 6 (by decide)) rfl rfl dX4_repeat_45 (fun H locs hW hS => ?_)
  refine lv_aload_n hM.1 hM.2.1 dX4_repeat_48 rfl (lv_at hl 0 rfl) ?_
  refine lv_aload_n hM.1 hM.2.1 dX4_repeat_49 rfl (lv_at hl 1 rfl) ?_
  refine z_get hM hW zc4 hq rfl 7 (by decide) lf_X4_36 (v := .int (gi S 4 (q) (7))) rfl dX4_repeat_50 ?_
  refine z_puti hM hW hS zc4 hj rfl 7 (by decide) rfl lf_X4_36 (Or.inl rfl) (tyX4 7) (tyX4_ok 7 (by decide)) rfl rfl dX4_repeat_53 (fun H locs hW hS => ?_)
  refine lv_aload_n hM.1 hM.2.1 dX4_repeat_56 rfl (lv_at hl 0 rfl) ?_
  refine lv_aload_n hM.1 hM.2.1 dX4_repeat_57 rfl (lv_at hl 1 rfl) ?_
  refine z_get hM hW zc4 hq rfl 8 (by decide) lf_X4_39 (v := .int (gi S 4 (q) (8))) rfl dX4_repeat_58 ?_
  refine z_puti hM hW hS zc4 hj rfl 8 (by decide) rfl lf_X4_39 (Or.inl rfl) (tyX4 8) (tyX4_ok 8 (by decide)) rfl rfl dX4_repeat_61 (fun H locs hW hS => ?_)
  refine lv_aload_n hM.1 hM.2.1 dX4_repeat_64 rfl (lv_at hl 0 rfl) ?_
  refine z_getr hM hW zc4 hj rfl 0 (by decide) lf_X4_10 (t := 6) (j := 20 + j) rfl hvj dX4_repeat_65 (fun hd1_65 => ?_)
  refine lv_aload_n hM.1 hM.2.1 dX4_repeat_68 rfl (lv_at hl 1 rfl) ?_
  refine z_getr hM hW zc4 hq rfl 0 (by decide) lf_X4_10 (t := 6) (j := 20 + q) rfl hvq dX4_repeat_69 (fun hd2_69 => ?_)
  refine z_Vv hM (hml.trans hl.1.symm) hW hS hlo zc6 hd1_65 rfl zyX6_set lm_X4_42 li_yX6_set le_yX6_set (As := [.ref (Z.1 6 (20 + q))]) (rest := []) (c_X6_set hd1_65 hd2_69) rfl rfl (Nat.le_of_ble_eq_true rfl) ⟨Nat.le_of_ble_eq_true rfl, Nat.le_of_ble_eq_true rfl⟩ ⟨Nat.le_of_ble_eq_true rfl, Nat.le_of_ble_eq_true rfl⟩ dX4_repeat_72 (fun H locs hW hS => ?_)
  exact z_vret hM hlk hr hW hS (zF.of rfl (by unfold s_X4_repeat; rfl)) dX4_repeat_75

noncomputable def r_X1_at (S : zS) (pm : Nat → Nat) (k : Int32) : Option Nat := 
  (pif ((k) < (0)) (none) 
    (pif ((gi S 1 (0) (2)) ≤ (k)) (none) 
      (pif ((300) ≤ (k)) (none) (some (pm (ix (k)))))))
set_option maxHeartbeats 4000000 in
set_option maxRecDepth 100000 in
theorem c_X1_at {l : Launch} {D : va_G} {ar : Nat → ClassId} {A : Nat → Prop} {Z : zZ} {S : zS} {pm : Nat → Nat} {k : Int32} (hi : Z.2.1 1 0) (hrw : gr S 1 0 0 = some 0) (hz : Z.2.2 15 0 = 300) (hpm : ∀ j, j < 300 → gr S 15 0 j = some (pm j)) : zMet l yX1_at prog_3_method_2_code 2 (some (.object "VotedFile$Message")) ({ frames := 0, cells := 0, slots := 0, locals := 0 } : Room) D ar A Z S [.ref (Z.1 1 (0)), .int (k)] (rvR 4) (zF (r_X1_at S pm k) Z S) := by
  refine z_body (by decide +kernel) (Nat.le_of_ble_eq_true rfl) ?_
  intro pX eX sX mX bX methX cX ls hM hr hlk hml hin hl hW hlo
  have hM : zM pX cX mX _ sX prog_3_method_2_code RX1 D ar := hM
  have hS : va_S A sX.heap sX.heap [] := va_S.rf
  have hl : lv_has ls 2 [(0, .ref (Z.1 1 (0))), (1, .int (k))] := hl
  refine lv_iload_n hM.1 hM.2.1 dX1_at_0 rfl (lv_at hl 1 rfl) ?_
  refine lv_if_lt hM.1 hM.2.1 dX1_at_1 (tgt := 30) (by decide) (fun h_1 => ?_) (fun h_1 => ?_)
  ·
    refine lv_null hM.1 hM.2.1 dX1_at_30 ?_
    exact z_aret hM hlk hr (none) rfl hW hS (zF.of (by unfold r_X1_at; rw [pif_pos h_1]; first | done | rfl) rfl) dX1_at_31
  ·
    refine lv_iload_n hM.1 hM.2.1 dX1_at_4 rfl (lv_at hl 1 rfl) ?_
    refine lv_aload_n hM.1 hM.2.1 dX1_at_5 rfl (lv_at hl 0 rfl) ?_
    refine z_get hM hW zc1 hi rfl 2 (by decide) lf_X1_22 (v := .int (gi S 1 (0) (2))) rfl dX1_at_6 ?_
    refine lv_icmp_ge hM.1 hM.2.1 dX1_at_9 (tgt := 30) (by decide) (fun h_9 => ?_) (fun h_9 => ?_)
    ·
      refine lv_null hM.1 hM.2.1 dX1_at_30 ?_
      exact z_aret hM hlk hr (none) rfl hW hS (zF.of (by unfold r_X1_at; rw [pif_neg h_1, pif_pos h_9]; first | done | rfl) rfl) dX1_at_31
    ·
      refine lv_iload_n hM.1 hM.2.1 dX1_at_12 rfl (lv_at hl 1 rfl) ?_
      refine lv_aload_n hM.1 hM.2.1 dX1_at_13 rfl (lv_at hl 0 rfl) ?_
      refine z_getr hM hW zc1 hi rfl 0 (by decide) lf_X1_11 (t := 15) (j := 0) rfl hrw dX1_at_14 (fun hd1_14 => ?_)
      refine z_alen hM hW hd1_14 (by decide) rfl 6 rfl (v := 300) (by rw [hz]; rfl) dX1_at_17 ?_
      refine lv_icmp_ge hM.1 hM.2.1 dX1_at_18 (tgt := 30) (by decide) (fun h_18 => ?_) (fun h_18 => ?_)
      ·
        refine lv_null hM.1 hM.2.1 dX1_at_30 ?_
        exact z_aret hM hlk hr (none) rfl hW hS (zF.of (by unfold r_X1_at; rw [pif_neg h_1, pif_neg h_9, pif_pos h_18]; first | done | rfl) rfl) dX1_at_31
      ·
        refine lv_aload_n hM.1 hM.2.1 dX1_at_21 rfl (lv_at hl 0 rfl) ?_
        refine z_getr hM hW zc1 hi rfl 0 (by decide) lf_X1_11 (t := 15) (j := 0) rfl hrw dX1_at_22 (fun hd2_22 => ?_)
        refine lv_iload_n hM.1 hM.2.1 dX1_at_25 rfl (lv_at hl 1 rfl) ?_
        refine z_aaldr hM hW hd2_22 (by decide) rfl 6 rfl (vin_of h_1 (N := 300) h_18 (by decide) hz) (t := 4) (q := pm (ix (k))) rfl (hpm _ (vin_lt (vin_of h_1 (N := 300) h_18 (by decide) hz) hz)) dX1_at_26 (fun hd3_26 => ?_)
        refine lv_goto hM.1 hM.2.1 dX1_at_27 (tgt := 31) (by decide) ?_
        exact z_aret hM hlk hr (some (pm (ix (k)))) rfl hW hS (zF.of (by unfold r_X1_at; rw [pif_neg h_1, pif_neg h_9, pif_neg h_18]; first | done | rfl) rfl) dX1_at_31

noncomputable def r_X1_next (S : zS) (pm : Nat → Nat) : Option Nat := 
  (pif ((gi S 1 (0) (2)) < (300)) (some (pm (ix (gi S 1 (0) (2))))) (none))
noncomputable def s_X1_next (S : zS) (pm : Nat → Nat) : zS := 
  (pif ((gi S 1 (0) (2)) < (300)) ((si S 1 (0) (2) ((gi S 1 (0) (2)) + (1)))) ((si S 1 (0) (3) ((gi S 1 (0) (3)) + (1)))))
set_option maxHeartbeats 4000000 in
set_option maxRecDepth 100000 in
theorem c_X1_next {l : Launch} {D : va_G} {ar : Nat → ClassId} {A : Nat → Prop} {Z : zZ} {S : zS} {pm : Nat → Nat} (hi : Z.2.1 1 0) (hrw : gr S 1 0 0 = some 0) (hz : Z.2.2 15 0 = 300) (hpm : ∀ j, j < 300 → gr S 15 0 j = some (pm j)) (hc0 : ¬ gi S 1 0 2 < 0) : zMet l yX1_next prog_3_method_3_code 2 (some (.object "VotedFile$Message")) ({ frames := 0, cells := 0, slots := 0, locals := 0 } : Room) D ar A Z S [.ref (Z.1 1 (0))] (rvR 4) (zF (r_X1_next S pm) Z (s_X1_next S pm)) := by
  refine z_body (by decide +kernel) (Nat.le_of_ble_eq_true rfl) ?_
  intro pX eX sX mX bX methX cX ls hM hr hlk hml hin hl hW hlo
  have hM : zM pX cX mX _ sX prog_3_method_3_code RX1 D ar := hM
  have hS : va_S A sX.heap sX.heap [] := va_S.rf
  have hl : lv_has ls 2 [(0, .ref (Z.1 1 (0)))] := hl
  refine lv_aload_n hM.1 hM.2.1 dX1_next_0 rfl (lv_at hl 0 rfl) ?_
  refine z_get hM hW zc1 hi rfl 2 (by decide) lf_X1_22 (v := .int (gi S 1 (0) (2))) rfl dX1_next_1 ?_
  refine lv_aload_n hM.1 hM.2.1 dX1_next_4 rfl (lv_at hl 0 rfl) ?_
  refine z_getr hM hW zc1 hi rfl 0 (by decide) lf_X1_11 (t := 15) (j := 0) rfl hrw dX1_next_5 (fun hd1_5 => ?_)
  refine z_alen hM hW hd1_5 (by decide) rfl 6 rfl (v := 300) (by rw [hz]; rfl) dX1_next_8 ?_
  refine lv_icmp_lt hM.1 hM.2.1 dX1_next_9 (tgt := 24) (by decide) (fun h_9 => ?_) (fun h_9 => ?_)
  ·
    refine lv_aload_n hM.1 hM.2.1 dX1_next_24 rfl (lv_at hl 0 rfl) ?_
    refine z_getr hM hW zc1 hi rfl 0 (by decide) lf_X1_11 (t := 15) (j := 0) rfl hrw dX1_next_25 (fun hd2_25 => ?_)
    refine lv_aload_n hM.1 hM.2.1 dX1_next_28 rfl (lv_at hl 0 rfl) ?_
    refine z_get hM hW zc1 hi rfl 2 (by decide) lf_X1_22 (v := .int (gi S 1 (0) (2))) rfl dX1_next_29 ?_
    refine z_aaldr hM hW hd2_25 (by decide) rfl 6 rfl (vin_of2 hc0 (N := 300) h_9 (by decide) hz) (t := 4) (q := pm (ix (gi S 1 (0) (2)))) rfl (hpm _ (vin_lt (vin_of2 hc0 (N := 300) h_9 (by decide) hz) hz)) dX1_next_32 (fun hd3_32 => ?_)
    refine lv_astore_n hM.1 hM.2.1 dX1_next_33 rfl hl (by decide) (lv' := [(1, .ref (Z.1 4 (pm (ix (gi S 1 (0) (2)))))), (0, .ref (Z.1 1 (0)))]) rfl (fun ls hl => ?_)
    refine lv_aload_n hM.1 hM.2.1 dX1_next_34 rfl (lv_at hl 1 rfl) ?_
    refine lv_dup hM.1 hM.2.1 dX1_next_35 rfl ?_
    refine z_get hM hW zc1 hi rfl 2 (by decide) lf_X1_22 (v := .int (gi S 1 (0) (2))) rfl dX1_next_36 ?_
    refine lv_iconst (v := 1) hM.1 hM.2.1 dX1_next_39 (by decide) ?_
    refine lv_iadd hM.1 hM.2.1 dX1_next_40 ?_
    refine z_puti hM hW hS zc1 hi rfl 2 (by decide) rfl lf_X1_22 (Or.inl rfl) (tyX1 2) (tyX1_ok 2 (by decide)) rfl rfl dX1_next_41 (fun H locs hW hS => ?_)
    refine lv_aload_n hM.1 hM.2.1 dX1_next_44 rfl (lv_at hl 0 rfl) ?_
    exact z_aret hM hlk hr (some (pm (ix (gi S 1 (0) (2))))) rfl hW hS (zF.of (by unfold r_X1_next; rw [pif_pos h_9]; first | done | rfl) (by unfold s_X1_next; rw [pif_pos h_9]; first | done | rfl)) dX1_next_45
  ·
    refine lv_aload_n hM.1 hM.2.1 dX1_next_12 rfl (lv_at hl 0 rfl) ?_
    refine lv_dup hM.1 hM.2.1 dX1_next_13 rfl ?_
    refine z_get hM hW zc1 hi rfl 3 (by decide) lf_X1_26 (v := .int (gi S 1 (0) (3))) rfl dX1_next_14 ?_
    refine lv_iconst (v := 1) hM.1 hM.2.1 dX1_next_17 (by decide) ?_
    refine lv_iadd hM.1 hM.2.1 dX1_next_18 ?_
    refine z_puti hM hW hS zc1 hi rfl 3 (by decide) rfl lf_X1_26 (Or.inl rfl) (tyX1 3) (tyX1_ok 3 (by decide)) rfl rfl dX1_next_19 (fun H locs hW hS => ?_)
    refine lv_null hM.1 hM.2.1 dX1_next_22 ?_
    exact z_aret hM hlk hr (none) rfl hW hS (zF.of (by unfold r_X1_next; rw [pif_neg h_9]; first | done | rfl) (by unfold s_X1_next; rw [pif_neg h_9]; first | done | rfl)) dX1_next_23
end
section
/-! the class's shape: which cells there are and how they hang together (Z the layout, R the references) -/
abbrev zR : Type := Nat → Nat → Nat → Option Nat
def zV1 (Z : zZ) (R : zR) : Prop := (Z.2.1 7 0 ∧ R 7 0 0 = some 0 ∧ R 7 0 1 = some 0 ∧ R 7 0 2 = some 0 ∧ R 7 0 3 = some 0 ∧ R 7 0 4 = some 0 ∧ R 7 0 5 = some 0) ∧ Z.2.1 1 0 ∧ R 1 0 0 = some 0 ∧ Z.2.2 13 0 = 4 ∧ Z.2.2 16 0 = 16 ∧ Z.2.2 12 0 = 200 ∧ Z.2.2 15 0 = 300
def zV2 (n : Nat) (Z : zZ) (R : zR) : Prop := (1 ≤ n ∧ n ≤ 7) ∧ Z.2.2 14 0 = n ∧ Z.2.2 9 0 = n ∧ ∀ c, c < n → Z.2.1 3 c ∧ R 14 0 c = some c ∧ R 3 c 0 = some c
def zV3 (Z : zZ) (R : zR) : Prop := ∀ c, c < 4 → Z.2.1 2 c ∧ R 13 0 c = some c ∧ R 2 c 1 = some (10 + c)
def pmR (R : zR) (j : Nat) : Nat := (R 15 0 j).getD 0
def tkR (R : zR) : Nat := (R 1 0 1).getD 0
def zV4 (Z : zZ) (R : zR) : Prop := (∀ j, j < 301 → Z.2.1 4 j ∧ R 4 j 0 = some (20 + j)) ∧ (∀ j, j < 300 → R 15 0 j = some (pmR R j) ∧ pmR R j < 301) ∧ R 1 0 1 = some (tkR R) ∧ tkR R < 301 ∧ (∀ i j, i < 300 → j < 300 → pmR R i = pmR R j → i = j) ∧ ∀ j, j < 300 → pmR R j ≠ tkR R
def zV5 (n : Nat) (Z : zZ) (R : zR) : Prop := ∀ t, t < 16 → R 16 0 t = none ∨ (R 16 0 t = some t ∧ Z.2.1 5 t ∧ R 5 t 0 = some (1 + t) ∧ Z.2.2 9 (1 + t) = n)
def zV6 (Z : zZ) (R : zR) : Prop := ∀ a, a < 200 → R 12 0 a = none ∨ (R 12 0 a = some a ∧ Z.2.1 0 a)
def zV7 (R : zR) : Prop := ∀ c, c < 4 → R 2 c 2 = none ∨ ∃ a, a < 200 ∧ R 2 c 2 = some a ∧ R 12 0 a = some a
def zV (n : Nat) (Z : zZ) (R : zR) : Prop := zV1 Z R ∧ zV2 n Z R ∧ zV3 Z R ∧ zV4 Z R ∧ zV5 n Z R ∧ zV6 Z R ∧ zV7 R
theorem zV.d7 {n : Nat} {Z : zZ} {R : zR} (h : zV n Z R) : Z.2.1 7 0 := h.1.1.1
theorem zV.r70 {n : Nat} {Z : zZ} {R : zR} (h : zV n Z R) : R 7 0 0 = some 0 := h.1.1.2.1
theorem zV.r71 {n : Nat} {Z : zZ} {R : zR} (h : zV n Z R) : R 7 0 1 = some 0 := h.1.1.2.2.1
theorem zV.r72 {n : Nat} {Z : zZ} {R : zR} (h : zV n Z R) : R 7 0 2 = some 0 := h.1.1.2.2.2.1
theorem zV.r73 {n : Nat} {Z : zZ} {R : zR} (h : zV n Z R) : R 7 0 3 = some 0 := h.1.1.2.2.2.2.1
theorem zV.r74 {n : Nat} {Z : zZ} {R : zR} (h : zV n Z R) : R 7 0 4 = some 0 := h.1.1.2.2.2.2.2.1
theorem zV.r75 {n : Nat} {Z : zZ} {R : zR} (h : zV n Z R) : R 7 0 5 = some 0 := h.1.1.2.2.2.2.2.2
theorem zV.d1 {n : Nat} {Z : zZ} {R : zR} (h : zV n Z R) : Z.2.1 1 0 := h.1.2.1
theorem zV.r10 {n : Nat} {Z : zZ} {R : zR} (h : zV n Z R) : R 1 0 0 = some 0 := h.1.2.2.1
theorem zV.l13 {n : Nat} {Z : zZ} {R : zR} (h : zV n Z R) : Z.2.2 13 0 = 4 := h.1.2.2.2.1
theorem zV.l16 {n : Nat} {Z : zZ} {R : zR} (h : zV n Z R) : Z.2.2 16 0 = 16 := h.1.2.2.2.2.1
theorem zV.l12 {n : Nat} {Z : zZ} {R : zR} (h : zV n Z R) : Z.2.2 12 0 = 200 := h.1.2.2.2.2.2.1
theorem zV.l15 {n : Nat} {Z : zZ} {R : zR} (h : zV n Z R) : Z.2.2 15 0 = 300 := h.1.2.2.2.2.2.2
theorem zV.n1 {n : Nat} {Z : zZ} {R : zR} (h : zV n Z R) : 1 ≤ n := h.2.1.1.1
theorem zV.n7 {n : Nat} {Z : zZ} {R : zR} (h : zV n Z R) : n ≤ 7 := h.2.1.1.2
theorem zV.l14 {n : Nat} {Z : zZ} {R : zR} (h : zV n Z R) : Z.2.2 14 0 = n := h.2.1.2.1
theorem zV.l9 {n : Nat} {Z : zZ} {R : zR} (h : zV n Z R) : Z.2.2 9 0 = n := h.2.1.2.2.1
theorem zV.d3 {n : Nat} {Z : zZ} {R : zR} (h : zV n Z R) {c : Nat} (hc : c < n) : Z.2.1 3 c := (h.2.1.2.2.2 c hc).1
theorem zV.r14 {n : Nat} {Z : zZ} {R : zR} (h : zV n Z R) {c : Nat} (hc : c < n) : R 14 0 c = some c := (h.2.1.2.2.2 c hc).2.1
theorem zV.r3 {n : Nat} {Z : zZ} {R : zR} (h : zV n Z R) {c : Nat} (hc : c < n) : R 3 c 0 = some c := (h.2.1.2.2.2 c hc).2.2
theorem zV.d2 {n : Nat} {Z : zZ} {R : zR} (h : zV n Z R) {c : Nat} (hc : c < 4) : Z.2.1 2 c := (h.2.2.1 c hc).1
theorem zV.r13 {n : Nat} {Z : zZ} {R : zR} (h : zV n Z R) {c : Nat} (hc : c < 4) : R 13 0 c = some c := (h.2.2.1 c hc).2.1
theorem zV.r2 {n : Nat} {Z : zZ} {R : zR} (h : zV n Z R) {c : Nat} (hc : c < 4) : R 2 c 1 = some (10 + c) := (h.2.2.1 c hc).2.2
theorem zV.d4 {n : Nat} {Z : zZ} {R : zR} (h : zV n Z R) {j : Nat} (hj : j < 301) : Z.2.1 4 j := (h.2.2.2.1.1 j hj).1
theorem zV.r4 {n : Nat} {Z : zZ} {R : zR} (h : zV n Z R) {j : Nat} (hj : j < 301) : R 4 j 0 = some (20 + j) := (h.2.2.2.1.1 j hj).2
theorem zV.pm {n : Nat} {Z : zZ} {R : zR} (h : zV n Z R) (j : Nat) (hj : j < 300) : R 15 0 j = some (pmR R j) := (h.2.2.2.1.2.1 j hj).1
theorem zV.pmlt {n : Nat} {Z : zZ} {R : zR} (h : zV n Z R) {j : Nat} (hj : j < 300) : pmR R j < 301 := (h.2.2.2.1.2.1 j hj).2
theorem zV.tk {n : Nat} {Z : zZ} {R : zR} (h : zV n Z R) : R 1 0 1 = some (tkR R) := h.2.2.2.1.2.2.1
theorem zV.tklt {n : Nat} {Z : zZ} {R : zR} (h : zV n Z R) : tkR R < 301 := h.2.2.2.1.2.2.2.1
theorem zV.tab {n : Nat} {Z : zZ} {R : zR} (h : zV n Z R) {t : Nat} (ht : t < 16) {q : Nat} (hq : R 16 0 t = some q) : q = t ∧ Z.2.1 5 q ∧ R 5 q 0 = some (1 + q) ∧ Z.2.2 9 (1 + q) = n := by
  rcases h.2.2.2.2.1 t ht with e | ⟨e, r⟩
  · rw [e] at hq; cases hq
  · rw [e] at hq; cases hq; exact ⟨rfl, r⟩
theorem zV.act {n : Nat} {Z : zZ} {R : zR} (h : zV n Z R) {a : Nat} (ha : a < 200) {q : Nat} (hq : R 12 0 a = some q) : q = a ∧ Z.2.1 0 q := by
  rcases h.2.2.2.2.2.1 a ha with e | ⟨e, r⟩
  · rw [e] at hq; cases hq
  · rw [e] at hq; cases hq; exact ⟨rfl, r⟩
theorem zV.doing {n : Nat} {Z : zZ} {R : zR} (h : zV n Z R) {c : Nat} (hc : c < 4) {q : Nat} (hq : R 2 c 2 = some q) : q < 200 ∧ Z.2.1 0 q ∧ R 12 0 q = some q := by
  rcases h.2.2.2.2.2.2 c hc with e | ⟨a, ha, e, r⟩
  · rw [e] at hq; cases hq
  · rw [e] at hq; cases hq; exact ⟨ha, (h.act ha r).2, r⟩
/-- a number as a place of n -/
noncomputable def atI (n : Nat) (x : Int32) : Option Nat := pif (x < 0) none (pif (nI n ≤ x) none (some (ix x)))
theorem atI_some {n : Nat} {x : Int32} {q : Nat} (hn : n < 2 ^ 31) (h : atI n x = some q) : q = ix x ∧ q < n ∧ ¬ x < 0 ∧ ¬ nI n ≤ x := by
  unfold atI at h
  by_cases h0 : x < 0
  · rw [pif_pos h0] at h; cases h
  · rw [pif_neg h0] at h
    by_cases h1 : nI n ≤ x
    · rw [pif_pos h1] at h; cases h
    · rw [pif_neg h1] at h
      cases h
      exact ⟨rfl, vin_lt (vin_of h0 h1 hn rfl) rfl, h0, h1⟩
theorem atI_in {n : Nat} {x : Int32} (h0 : ¬ x < 0) (h1 : ¬ nI n ≤ x) : atI n x = some (ix x) := by unfold atI; rw [pif_neg h0, pif_neg h1]
noncomputable def tbAt (S : zS) (x : Int32) : Option Nat := pif (x < 0) none (pif (16 ≤ x) none (gr S 16 0 (ix x)))
theorem tbAt_some {S : zS} {n : Nat} {Z : zZ} {x : Int32} {q : Nat} (hV : zV n Z S.2.2) (h : tbAt S x = some q) : q = ix x ∧ q < 16 ∧ Z.2.1 5 q ∧ gr S 5 q 0 = some (1 + q) ∧ Z.2.2 9 (1 + q) = n := by
  unfold tbAt at h
  by_cases h0 : x < 0
  · rw [pif_pos h0] at h; cases h
  · rw [pif_neg h0] at h
    by_cases h1 : 16 ≤ x
    · rw [pif_pos h1] at h; cases h
    · rw [pif_neg h1] at h
      have hl : ix x < 16 := vin_lt (vin_of h0 (N := 16) h1 (by decide) rfl) rfl
      obtain ⟨e, r⟩ := hV.tab hl h
      exact ⟨e, by omega, r⟩
noncomputable def acAt (S : zS) (x : Int32) : Option Nat := pif (x < 1) none (pif (200 < x) none (gr S 12 0 (ix (x - 1))))
end
section
theorem gr_of {S T : zS} {k i f : Nat} (e : T.2.2 = S.2.2) : gr T k i f = gr S k i f := by unfold gr; rw [e]
theorem zV.of {n : Nat} {Z : zZ} {S T : zS} (h : zV n Z S.2.2) (e : T.2.2 = S.2.2) : zV n Z T.2.2 := by rw [e]; exact h
theorem ix_pred {x : Int32} (h1 : ¬ x < 1) : ix (x - 1) + 1 = ix x ∧ ¬ x - 1 < 0 := by
  rw [Int32.lt_iff_toInt_lt] at h1
  have e1 : (1 : Int32).toInt = 1 := rfl
  rw [e1] at h1
  have hx := Int32.toInt_lt x
  have e : (x - 1).toInt = x.toInt - 1 := by
    rw [Int32.toInt_sub, e1]
    exact Int.bmod_eq_of_le (by omega) (by omega)
  refine ⟨?_, ?_⟩
  · show (x - 1).toInt.toNat + 1 = x.toInt.toNat
    rw [e]; omega
  · rw [Int32.lt_iff_toInt_lt, e, Int32.toInt_zero]; omega
theorem ix_le {x : Int32} {N : Nat} (hN : N < 2 ^ 31) (h : ¬ Int32.ofNat N < x) : ix x ≤ N := by
  rw [Int32.lt_iff_toInt_lt, Int32.toInt_ofNat_of_lt hN] at h
  show x.toInt.toNat ≤ N
  omega
theorem vin_act {x : Int32} {L : Nat} (h1 : ¬ x < 1) (h2 : ¬ 200 < x) (hL : L = 200) : vp_in (x - 1) L := by
  subst hL
  obtain ⟨e, e0⟩ := ix_pred h1
  have := ix_le (N := 200) (by decide) h2
  rintro (q | q)
  · exact e0 q
  · have : 200 ≤ ix (x - 1) := q
    omega
theorem acAt_some {S : zS} {n : Nat} {Z : zZ} {x : Int32} {q : Nat} (hV : zV n Z S.2.2) (h : acAt S x = some q) : q + 1 = ix x ∧ q < 200 ∧ Z.2.1 0 q := by
  unfold acAt at h
  by_cases h0 : x < 1
  · rw [pif_pos h0] at h; cases h
  · rw [pif_neg h0] at h
    by_cases h1 : 200 < x
    · rw [pif_pos h1] at h; cases h
    · rw [pif_neg h1] at h
      have hl : ix (x - 1) < 200 := vin_lt (vin_act h0 h1 rfl) rfl
      obtain ⟨e, r⟩ := hV.act hl h
      have := (ix_pred h0).1
      exact ⟨by omega, by omega, r⟩
theorem acAt_dom {S : zS} {n : Nat} {Z : zZ} {x : Int32} {q : Nat} (hV : zV n Z S.2.2) (h : acAt S x = some q) : Z.2.1 0 q := (acAt_some hV h).2.2
theorem rAt_some {S : zS} {n : Nat} {Z : zZ} {x : Int32} {q : Nat} (hV : zV n Z S.2.2) (h : r_X1_at S (pmR S.2.2) x = some q) : q = pmR S.2.2 (ix x) ∧ q < 301 := by
  unfold r_X1_at at h
  by_cases h0 : x < 0
  · rw [pif_pos h0] at h; cases h
  · rw [pif_neg h0] at h
    by_cases h1 : gi S 1 0 2 ≤ x
    · rw [pif_pos h1] at h; cases h
    · rw [pif_neg h1] at h
      by_cases h2 : 300 ≤ x
      · rw [pif_pos h2] at h; cases h
      · rw [pif_neg h2] at h
        cases h
        exact ⟨rfl, hV.pmlt (vin_lt (vin_of h0 (N := 300) h2 (by decide) rfl) rfl)⟩
set_option maxHeartbeats 4000000 in
set_option maxRecDepth 100000 in
theorem c_X7_copyAt {l : Launch} {D : va_G} {ar : Nat → ClassId} {A : Nat → Prop} {Z : zZ} {S : zS} {n : Nat} {x : Int32} (hV : zV n Z S.2.2) : zMet l yX7_copyAt prog_1_method_23_code 2 (some (.object "VotedFile$Copy")) ({ frames := 0, cells := 0, slots := 0, locals := 0 } : Room) D ar A Z S [.ref (Z.1 7 (0)), .int (x)] (rvR 3) (zF (atI n x) Z S) := by
  refine z_body (by decide +kernel) (Nat.le_of_ble_eq_true rfl) ?_
  intro pX eX sX mX bX methX cX ls hM hr hlk hml hin hl hW hlo
  have hM : zM pX cX mX _ sX prog_1_method_23_code RX7 D ar := hM
  have hS : va_S A sX.heap sX.heap [] := va_S.rf
  have hl : lv_has ls 2 [(0, .ref (Z.1 7 (0))), (1, .int (x))] := hl
  refine lv_iload_n hM.1 hM.2.1 dX7_copyAt_0 rfl (lv_at hl 1 rfl) ?_
  refine lv_if_lt hM.1 hM.2.1 dX7_copyAt_1 (tgt := 22) (by decide) (fun h_1 => ?_) (fun h_1 => ?_)
  ·
    refine lv_null hM.1 hM.2.1 dX7_copyAt_22 ?_
    exact z_aret hM hlk hr (none) rfl hW hS (zF.of (by unfold atI; rw [pif_pos h_1]) rfl) dX7_copyAt_23
  ·
    refine lv_iload_n hM.1 hM.2.1 dX7_copyAt_4 rfl (lv_at hl 1 rfl) ?_
    refine lv_aload_n hM.1 hM.2.1 dX7_copyAt_5 rfl (lv_at hl 0 rfl) ?_
    refine z_getr hM hW zc7 hV.d7 rfl 0 (by decide) lf_X7_20 (t := 14) (j := 0) rfl hV.r70 dX7_copyAt_6 (fun hd1_6 => ?_)
    refine z_alen hM hW hd1_6 (by decide) rfl 5 rfl (v := nI n) (by rw [hV.l14]; rfl) dX7_copyAt_9 ?_
    refine lv_icmp_ge hM.1 hM.2.1 dX7_copyAt_10 (tgt := 22) (by decide) (fun h_10 => ?_) (fun h_10 => ?_)
    ·
      refine lv_null hM.1 hM.2.1 dX7_copyAt_22 ?_
      exact z_aret hM hlk hr (none) rfl hW hS (zF.of (by unfold atI; rw [pif_neg h_1, pif_pos h_10]) rfl) dX7_copyAt_23
    ·
      refine lv_aload_n hM.1 hM.2.1 dX7_copyAt_13 rfl (lv_at hl 0 rfl) ?_
      refine z_getr hM hW zc7 hV.d7 rfl 0 (by decide) lf_X7_20 (t := 14) (j := 0) rfl hV.r70 dX7_copyAt_14 (fun hd2_14 => ?_)
      refine lv_iload_n hM.1 hM.2.1 dX7_copyAt_17 rfl (lv_at hl 1 rfl) ?_
      refine z_aaldr hM hW hd2_14 (by decide) rfl 5 rfl (vin_of h_1 h_10 (by have := hV.n7; omega) hV.l14) (t := 3) (q := ix (x)) rfl (hV.r14 (vin_lt (vin_of h_1 h_10 (by have := hV.n7; omega) hV.l14) hV.l14)) dX7_copyAt_18 (fun hd3_18 => ?_)
      refine lv_goto hM.1 hM.2.1 dX7_copyAt_19 (tgt := 23) (by decide) ?_
      exact z_aret hM hlk hr (some (ix (x))) rfl hW hS (zF.of (by unfold atI; rw [pif_neg h_1, pif_neg h_10]) rfl) dX7_copyAt_23

set_option maxHeartbeats 4000000 in
set_option maxRecDepth 100000 in
theorem c_X7_clientAt {l : Launch} {D : va_G} {ar : Nat → ClassId} {A : Nat → Prop} {Z : zZ} {S : zS} {n : Nat} {x : Int32} (hV : zV n Z S.2.2) : zMet l yX7_clientAt prog_1_method_24_code 2 (some (.object "VotedFile$Client")) ({ frames := 0, cells := 0, slots := 0, locals := 0 } : Room) D ar A Z S [.ref (Z.1 7 (0)), .int (x)] (rvR 2) (zF (atI 4 x) Z S) := by
  refine z_body (by decide +kernel) (Nat.le_of_ble_eq_true rfl) ?_
  intro pX eX sX mX bX methX cX ls hM hr hlk hml hin hl hW hlo
  have hM : zM pX cX mX _ sX prog_1_method_24_code RX7 D ar := hM
  have hS : va_S A sX.heap sX.heap [] := va_S.rf
  have hl : lv_has ls 2 [(0, .ref (Z.1 7 (0))), (1, .int (x))] := hl
  refine lv_iload_n hM.1 hM.2.1 dX7_clientAt_0 rfl (lv_at hl 1 rfl) ?_
  refine lv_if_lt hM.1 hM.2.1 dX7_clientAt_1 (tgt := 22) (by decide) (fun h_1 => ?_) (fun h_1 => ?_)
  ·
    refine lv_null hM.1 hM.2.1 dX7_clientAt_22 ?_
    exact z_aret hM hlk hr (none) rfl hW hS (zF.of (by unfold atI; rw [pif_pos h_1]) rfl) dX7_clientAt_23
  ·
    refine lv_iload_n hM.1 hM.2.1 dX7_clientAt_4 rfl (lv_at hl 1 rfl) ?_
    refine lv_aload_n hM.1 hM.2.1 dX7_clientAt_5 rfl (lv_at hl 0 rfl) ?_
    refine z_getr hM hW zc7 hV.d7 rfl 1 (by decide) lf_X7_31 (t := 13) (j := 0) rfl hV.r71 dX7_clientAt_6 (fun hd1_6 => ?_)
    refine z_alen hM hW hd1_6 (by decide) rfl 4 rfl (v := nI 4) (by rw [hV.l13]; rfl) dX7_clientAt_9 ?_
    refine lv_icmp_ge hM.1 hM.2.1 dX7_clientAt_10 (tgt := 22) (by decide) (fun h_10 => ?_) (fun h_10 => ?_)
    ·
      refine lv_null hM.1 hM.2.1 dX7_clientAt_22 ?_
      exact z_aret hM hlk hr (none) rfl hW hS (zF.of (by unfold atI; rw [pif_neg h_1, pif_pos h_10]) rfl) dX7_clientAt_23
    ·
      refine lv_aload_n hM.1 hM.2.1 dX7_clientAt_13 rfl (lv_at hl 0 rfl) ?_
      refine z_getr hM hW zc7 hV.d7 rfl 1 (by decide) lf_X7_31 (t := 13) (j := 0) rfl hV.r71 dX7_clientAt_14 (fun hd2_14 => ?_)
      refine lv_iload_n hM.1 hM.2.1 dX7_clientAt_17 rfl (lv_at hl 1 rfl) ?_
      refine z_aaldr hM hW hd2_14 (by decide) rfl 4 rfl (vin_of h_1 (N := 4) h_10 (by decide) hV.l13) (t := 2) (q := ix (x)) rfl (hV.r13 (vin_lt (vin_of h_1 (N := 4) h_10 (by decide) hV.l13) hV.l13)) dX7_clientAt_18 (fun hd3_18 => ?_)
      refine lv_goto hM.1 hM.2.1 dX7_clientAt_19 (tgt := 23) (by decide) ?_
      exact z_aret hM hlk hr (some (ix (x))) rfl hW hS (zF.of (by unfold atI; rw [pif_neg h_1, pif_neg h_10]) rfl) dX7_clientAt_23

set_option maxHeartbeats 4000000 in
set_option maxRecDepth 100000 in
theorem c_X7_tableAt {l : Launch} {D : va_G} {ar : Nat → ClassId} {A : Nat → Prop} {Z : zZ} {S : zS} {n : Nat} {x : Int32} (hV : zV n Z S.2.2) : zMet l yX7_tableAt prog_1_method_25_code 2 (some (.object "VotedFile$Table")) ({ frames := 0, cells := 0, slots := 0, locals := 0 } : Room) D ar A Z S [.ref (Z.1 7 (0)), .int (x)] (rvR 5) (zF (tbAt S x) Z S) := by
  refine z_body (by decide +kernel) (Nat.le_of_ble_eq_true rfl) ?_
  intro pX eX sX mX bX methX cX ls hM hr hlk hml hin hl hW hlo
  have hM : zM pX cX mX _ sX prog_1_method_25_code RX7 D ar := hM
  have hS : va_S A sX.heap sX.heap [] := va_S.rf
  have hl : lv_has ls 2 [(0, .ref (Z.1 7 (0))), (1, .int (x))] := hl
  refine lv_iload_n hM.1 hM.2.1 dX7_tableAt_0 rfl (lv_at hl 1 rfl) ?_
  refine lv_if_lt hM.1 hM.2.1 dX7_tableAt_1 (tgt := 22) (by decide) (fun h_1 => ?_) (fun h_1 => ?_)
  ·
    refine lv_null hM.1 hM.2.1 dX7_tableAt_22 ?_
    exact z_aret hM hlk hr (none) rfl hW hS (zF.of (by unfold tbAt; rw [pif_pos h_1]) rfl) dX7_tableAt_23
  ·
    refine lv_iload_n hM.1 hM.2.1 dX7_tableAt_4 rfl (lv_at hl 1 rfl) ?_
    refine lv_aload_n hM.1 hM.2.1 dX7_tableAt_5 rfl (lv_at hl 0 rfl) ?_
    refine z_getr hM hW zc7 hV.d7 rfl 2 (by decide) lf_X7_40 (t := 16) (j := 0) rfl hV.r72 dX7_tableAt_6 (fun hd1_6 => ?_)
    refine z_alen hM hW hd1_6 (by decide) rfl 7 rfl (v := 16) (by rw [hV.l16]; rfl) dX7_tableAt_9 ?_
    refine lv_icmp_ge hM.1 hM.2.1 dX7_tableAt_10 (tgt := 22) (by decide) (fun h_10 => ?_) (fun h_10 => ?_)
    ·
      refine lv_null hM.1 hM.2.1 dX7_tableAt_22 ?_
      exact z_aret hM hlk hr (none) rfl hW hS (zF.of (by unfold tbAt; rw [pif_neg h_1, pif_pos h_10]) rfl) dX7_tableAt_23
    ·
      refine lv_aload_n hM.1 hM.2.1 dX7_tableAt_13 rfl (lv_at hl 0 rfl) ?_
      refine z_getr hM hW zc7 hV.d7 rfl 2 (by decide) lf_X7_40 (t := 16) (j := 0) rfl hV.r72 dX7_tableAt_14 (fun hd2_14 => ?_)
      refine lv_iload_n hM.1 hM.2.1 dX7_tableAt_17 rfl (lv_at hl 1 rfl) ?_
      rcases hq_18 : gr S 16 0 (ix x) with _ | q
      ·
        refine z_aald hM hW hd2_14 (by decide) rfl 7 rfl (vin_of h_1 (N := 16) h_10 (by decide) hV.l16) (v := .null) (by simp [zv, zvt, zk, zrv, hq_18]) dX7_tableAt_18 ?_
        refine lv_goto hM.1 hM.2.1 dX7_tableAt_19 (tgt := 23) (by decide) ?_
        exact z_aret hM hlk hr (none) rfl hW hS (zF.of (by unfold tbAt; rw [pif_neg h_1, pif_neg h_10, hq_18]) rfl) dX7_tableAt_23
      ·
        refine z_aaldr hM hW hd2_14 (by decide) rfl 7 rfl (vin_of h_1 (N := 16) h_10 (by decide) hV.l16) (t := 5) (q := q) rfl hq_18 dX7_tableAt_18 (fun hd_18 => ?_)
        refine lv_goto hM.1 hM.2.1 dX7_tableAt_19 (tgt := 23) (by decide) ?_
        exact z_aret hM hlk hr (some (q)) rfl hW hS (zF.of (by unfold tbAt; rw [pif_neg h_1, pif_neg h_10, hq_18]) rfl) dX7_tableAt_23

set_option maxHeartbeats 4000000 in
set_option maxRecDepth 100000 in
theorem c_X7_actAt {l : Launch} {D : va_G} {ar : Nat → ClassId} {A : Nat → Prop} {Z : zZ} {S : zS} {n : Nat} {x : Int32} (hV : zV n Z S.2.2) : zMet l yX7_actAt prog_1_method_26_code 2 (some (.object "VotedFile$Act")) ({ frames := 0, cells := 0, slots := 0, locals := 0 } : Room) D ar A Z S [.ref (Z.1 7 (0)), .int (x)] (rvR 0) (zF (acAt S x) Z S) := by
  refine z_body (by decide +kernel) (Nat.le_of_ble_eq_true rfl) ?_
  intro pX eX sX mX bX methX cX ls hM hr hlk hml hin hl hW hlo
  have hM : zM pX cX mX _ sX prog_1_method_26_code RX7 D ar := hM
  have hS : va_S A sX.heap sX.heap [] := va_S.rf
  have hl : lv_has ls 2 [(0, .ref (Z.1 7 (0))), (1, .int (x))] := hl
  refine lv_iload_n hM.1 hM.2.1 dX7_actAt_0 rfl (lv_at hl 1 rfl) ?_
  refine lv_iconst (v := 1) hM.1 hM.2.1 dX7_actAt_1 (by decide) ?_
  refine lv_icmp_lt hM.1 hM.2.1 dX7_actAt_2 (tgt := 25) (by decide) (fun h_2 => ?_) (fun h_2 => ?_)
  ·
    refine lv_null hM.1 hM.2.1 dX7_actAt_25 ?_
    exact z_aret hM hlk hr (none) rfl hW hS (zF.of (by unfold acAt; rw [pif_pos h_2]) rfl) dX7_actAt_26
  ·
    refine lv_iload_n hM.1 hM.2.1 dX7_actAt_5 rfl (lv_at hl 1 rfl) ?_
    refine lv_aload_n hM.1 hM.2.1 dX7_actAt_6 rfl (lv_at hl 0 rfl) ?_
    refine z_getr hM hW zc7 hV.d7 rfl 3 (by decide) lf_X7_58 (t := 12) (j := 0) rfl hV.r73 dX7_actAt_7 (fun hd1_7 => ?_)
    refine z_alen hM hW hd1_7 (by decide) rfl 3 rfl (v := 200) (by rw [hV.l12]; rfl) dX7_actAt_10 ?_
    refine lv_icmp_gt hM.1 hM.2.1 dX7_actAt_11 (tgt := 25) (by decide) (fun h_11 => ?_) (fun h_11 => ?_)
    ·
      refine lv_null hM.1 hM.2.1 dX7_actAt_25 ?_
      exact z_aret hM hlk hr (none) rfl hW hS (zF.of (by unfold acAt; rw [pif_neg h_2, pif_pos h_11]) rfl) dX7_actAt_26
    ·
      refine lv_aload_n hM.1 hM.2.1 dX7_actAt_14 rfl (lv_at hl 0 rfl) ?_
      refine z_getr hM hW zc7 hV.d7 rfl 3 (by decide) lf_X7_58 (t := 12) (j := 0) rfl hV.r73 dX7_actAt_15 (fun hd2_15 => ?_)
      refine lv_iload_n hM.1 hM.2.1 dX7_actAt_18 rfl (lv_at hl 1 rfl) ?_
      refine lv_iconst (v := 1) hM.1 hM.2.1 dX7_actAt_19 (by decide) ?_
      refine lv_isub hM.1 hM.2.1 dX7_actAt_20 ?_
      rcases hq_21 : gr S 12 0 (ix (x - 1)) with _ | q
      ·
        refine z_aald hM hW hd2_15 (by decide) rfl 3 rfl (vin_act h_2 h_11 hV.l12) (v := .null) (by simp [zv, zvt, zk, zrv, hq_21]) dX7_actAt_21 ?_
        refine lv_goto hM.1 hM.2.1 dX7_actAt_22 (tgt := 26) (by decide) ?_
        exact z_aret hM hlk hr (none) rfl hW hS (zF.of (by unfold acAt; rw [pif_neg h_2, pif_neg h_11, hq_21]) rfl) dX7_actAt_26
      ·
        refine z_aaldr hM hW hd2_15 (by decide) rfl 3 rfl (vin_act h_2 h_11 hV.l12) (t := 0) (q := q) rfl hq_21 dX7_actAt_21 (fun hd_21 => ?_)
        refine lv_goto hM.1 hM.2.1 dX7_actAt_22 (tgt := 26) (by decide) ?_
        exact z_aret hM hlk hr (some (q)) rfl hW hS (zF.of (by unfold acAt; rw [pif_neg h_2, pif_neg h_11, hq_21]) rfl) dX7_actAt_26

noncomputable def r_X7_canBegin (S : zS) (n : Nat) (c : Nat) : Int32 := 
  (oel (gr S 2 c 2) 
    (pif ((200) ≤ (gi S 7 (0) (7))) (0) (1)) (fun a => (0)))
set_option maxHeartbeats 4000000 in
set_option maxRecDepth 100000 in
theorem c_X7_canBegin {l : Launch} {D : va_G} {ar : Nat → ClassId} {A : Nat → Prop} {Z : zZ} {S : zS} {n : Nat} {c : Nat} (hV : zV n Z S.2.2) (hc : Z.2.1 2 c) : zMet l yX7_canBegin prog_1_method_27_code 2 (some .boolean) ({ frames := 0, cells := 0, slots := 0, locals := 0 } : Room) D ar A Z S [.ref (Z.1 7 (0)), .ref (Z.1 2 (c))] rvI (zF (r_X7_canBegin S n c) Z S) := by
  refine z_body (by decide +kernel) (Nat.le_of_ble_eq_true rfl) ?_
  intro pX eX sX mX bX methX cX ls hM hr hlk hml hin hl hW hlo
  have hM : zM pX cX mX _ sX prog_1_method_27_code RX7 D ar := hM
  have hS : va_S A sX.heap sX.heap [] := va_S.rf
  have hl : lv_has ls 2 [(0, .ref (Z.1 7 (0))), (1, .ref (Z.1 2 (c)))] := hl
  refine lv_aload_n hM.1 hM.2.1 dX7_canBegin_0 rfl (lv_at hl 1 rfl) ?_
  rcases hq_1 : gr S 2 c 2 with _ | a
  ·
    refine z_get hM hW zc2 hc rfl 2 (by decide) lf_X7_105 (v := .null) (by simp [zv, zvt, zk, zrv, hq_1]) dX7_canBegin_1 ?_
    refine lv_ifnonnullN hM.1 hM.2.1 dX7_canBegin_4 ?_
    refine lv_aload_n hM.1 hM.2.1 dX7_canBegin_7 rfl (lv_at hl 0 rfl) ?_
    refine z_get hM hW zc7 hV.d7 rfl 7 (by decide) lf_X7_91 (v := .int (gi S 7 (0) (7))) rfl dX7_canBegin_8 ?_
    refine lv_aload_n hM.1 hM.2.1 dX7_canBegin_11 rfl (lv_at hl 0 rfl) ?_
    refine z_getr hM hW zc7 hV.d7 rfl 3 (by decide) lf_X7_58 (t := 12) (j := 0) rfl hV.r73 dX7_canBegin_12 (fun hd1_12 => ?_)
    refine z_alen hM hW hd1_12 (by decide) rfl 3 rfl (v := 200) (by rw [hV.l12]; rfl) dX7_canBegin_15 ?_
    refine lv_icmp_ge hM.1 hM.2.1 dX7_canBegin_16 (tgt := 23) (by decide) (fun h_16 => ?_) (fun h_16 => ?_)
    ·
      refine lv_iconst (v := 0) hM.1 hM.2.1 dX7_canBegin_23 (by decide) ?_
      exact z_iret hM hlk hr rfl hW hS (zF.of (by unfold r_X7_canBegin; rw [oel_n hq_1, pif_pos h_16]; first | done | rfl) rfl) dX7_canBegin_24
    ·
      refine lv_iconst (v := 1) hM.1 hM.2.1 dX7_canBegin_19 (by decide) ?_
      refine lv_goto hM.1 hM.2.1 dX7_canBegin_20 (tgt := 24) (by decide) ?_
      exact z_iret hM hlk hr rfl hW hS (zF.of (by unfold r_X7_canBegin; rw [oel_n hq_1, pif_neg h_16]; first | done | rfl) rfl) dX7_canBegin_24
  ·
    refine z_getr hM hW zc2 hc rfl 2 (by decide) lf_X7_105 (t := 0) (j := a) rfl hq_1 dX7_canBegin_1 (fun hd_1 => ?_)
    refine lv_ifnonnull hM.1 hM.2.1 dX7_canBegin_4 (tgt := 23) (by decide) ?_
    refine lv_iconst (v := 0) hM.1 hM.2.1 dX7_canBegin_23 (by decide) ?_
    exact z_iret hM hlk hr rfl hW hS (zF.of (by unfold r_X7_canBegin; rw [oel_s hq_1]; first | done | rfl) rfl) dX7_canBegin_24

noncomputable def r_X7_votes (S : zS) (n : Nat) (x y : Int32) : Int32 := 
  (pif ((x) < (0)) (0) 
    (pif ((nI n) ≤ (x)) (0) 
      (pif ((y) < (0)) (0) 
        (pif ((y) ≤ (9)) (1) (0)))))
noncomputable def s_X7_votes (S : zS) (n : Nat) (x y : Int32) : zS := 
  (pif ((x) < (0)) (S) 
    (pif ((nI n) ≤ (x)) (S) 
      (pif ((y) < (0)) (S) 
        (pif ((y) ≤ (9)) ((si S 9 (0) (ix (x)) (y))) (S)))))
set_option maxHeartbeats 4000000 in
set_option maxRecDepth 100000 in
theorem c_X7_votes {l : Launch} {D : va_G} {ar : Nat → ClassId} {A : Nat → Prop} {Z : zZ} {S : zS} {n : Nat} {x y : Int32} (hV : zV n Z S.2.2)  : zMet l yX7_votes prog_1_method_2_code 3 (some .boolean) ({ frames := 0, cells := 0, slots := 0, locals := 0 } : Room) D ar A Z S [.ref (Z.1 7 (0)), .int (x), .int (y)] rvI (zF (r_X7_votes S n x y) Z (s_X7_votes S n x y)) := by
  refine z_body (by decide +kernel) (Nat.le_of_ble_eq_true rfl) ?_
  intro pX eX sX mX bX methX cX ls hM hr hlk hml hin hl hW hlo
  have hM : zM pX cX mX _ sX prog_1_method_2_code RX7 D ar := hM
  have hS : va_S A sX.heap sX.heap [] := va_S.rf
  have hl : lv_has ls 3 [(0, .ref (Z.1 7 (0))), (1, .int (x)), (2, .int (y))] := hl
  refine lv_iload_n hM.1 hM.2.1 dX7_votes_0 rfl (lv_at hl 1 rfl) ?_
  refine lv_if_lt hM.1 hM.2.1 dX7_votes_1 (tgt := 23) (by decide) (fun h_1 => ?_) (fun h_1 => ?_)
  ·
    refine lv_iconst (v := 0) hM.1 hM.2.1 dX7_votes_23 (by decide) ?_
    exact z_iret hM hlk hr rfl hW hS (zF.of (by unfold r_X7_votes; rw [pif_pos h_1]; first | done | rfl) (by unfold s_X7_votes; rw [pif_pos h_1]; first | done | rfl)) dX7_votes_24
  ·
    refine lv_iload_n hM.1 hM.2.1 dX7_votes_4 rfl (lv_at hl 1 rfl) ?_
    refine lv_aload_n hM.1 hM.2.1 dX7_votes_5 rfl (lv_at hl 0 rfl) ?_
    refine z_getr hM hW zc7 hV.d7 rfl 5 (by decide) lf_X7_24 (t := 9) (j := 0) rfl hV.r75 dX7_votes_6 (fun hd1_6 => ?_)
    refine z_alen hM hW hd1_6 (by decide) rfl 0 rfl (v := nI n) (by rw [hV.l9]; rfl) dX7_votes_9 ?_
    refine lv_icmp_ge hM.1 hM.2.1 dX7_votes_10 (tgt := 23) (by decide) (fun h_10 => ?_) (fun h_10 => ?_)
    ·
      refine lv_iconst (v := 0) hM.1 hM.2.1 dX7_votes_23 (by decide) ?_
      exact z_iret hM hlk hr rfl hW hS (zF.of (by unfold r_X7_votes; rw [pif_neg h_1, pif_pos h_10]; first | done | rfl) (by unfold s_X7_votes; rw [pif_neg h_1, pif_pos h_10]; first | done | rfl)) dX7_votes_24
    ·
      refine lv_iload_n hM.1 hM.2.1 dX7_votes_13 rfl (lv_at hl 2 rfl) ?_
      refine lv_if_lt hM.1 hM.2.1 dX7_votes_14 (tgt := 23) (by decide) (fun h_14 => ?_) (fun h_14 => ?_)
      ·
        refine lv_iconst (v := 0) hM.1 hM.2.1 dX7_votes_23 (by decide) ?_
        exact z_iret hM hlk hr rfl hW hS (zF.of (by unfold r_X7_votes; rw [pif_neg h_1, pif_neg h_10, pif_pos h_14]; first | done | rfl) (by unfold s_X7_votes; rw [pif_neg h_1, pif_neg h_10, pif_pos h_14]; first | done | rfl)) dX7_votes_24
      ·
        refine lv_iload_n hM.1 hM.2.1 dX7_votes_17 rfl (lv_at hl 2 rfl) ?_
        refine lv_bipush (v := 9) hM.1 hM.2.1 dX7_votes_18 (by decide) ?_
        refine lv_icmp_le hM.1 hM.2.1 dX7_votes_20 (tgt := 25) (by decide) (fun h_20 => ?_) (fun h_20 => ?_)
        ·
          refine lv_aload_n hM.1 hM.2.1 dX7_votes_25 rfl (lv_at hl 0 rfl) ?_
          refine z_getr hM hW zc7 hV.d7 rfl 5 (by decide) lf_X7_24 (t := 9) (j := 0) rfl hV.r75 dX7_votes_26 (fun hd2_26 => ?_)
          refine lv_iload_n hM.1 hM.2.1 dX7_votes_29 rfl (lv_at hl 1 rfl) ?_
          refine lv_iload_n hM.1 hM.2.1 dX7_votes_30 rfl (lv_at hl 2 rfl) ?_
          refine z_iast hM hW hS hd2_26 rfl (vin_of h_1 h_10 (by have := hV.n7; omega) hV.l9) dX7_votes_31 (fun H locs hW hS => ?_)
          refine lv_iconst (v := 1) hM.1 hM.2.1 dX7_votes_32 (by decide) ?_
          exact z_iret hM hlk hr rfl hW hS (zF.of (by unfold r_X7_votes; rw [pif_neg h_1, pif_neg h_10, pif_neg h_14, pif_pos h_20]; first | done | rfl) (by unfold s_X7_votes; rw [pif_neg h_1, pif_neg h_10, pif_neg h_14, pif_pos h_20]; first | done | rfl)) dX7_votes_33
        ·
          refine lv_iconst (v := 0) hM.1 hM.2.1 dX7_votes_23 (by decide) ?_
          exact z_iret hM hlk hr rfl hW hS (zF.of (by unfold r_X7_votes; rw [pif_neg h_1, pif_neg h_10, pif_neg h_14, pif_neg h_20]; first | done | rfl) (by unfold s_X7_votes; rw [pif_neg h_1, pif_neg h_10, pif_neg h_14, pif_neg h_20]; first | done | rfl)) dX7_votes_24

noncomputable def r_X7_silent (S : zS) (n : Nat) (x y : Int32) : Int32 := 
  (oel (atI n (x)) (0) (fun q2 => (1)))
noncomputable def s_X7_silent (S : zS) (n : Nat) (x y : Int32) : zS := 
  (oel (atI n (x)) (S) (fun q2 => ((si S 3 (q2) (3) (y)))))
set_option maxHeartbeats 4000000 in
set_option maxRecDepth 100000 in
theorem c_X7_silent {l : Launch} {D : va_G} {ar : Nat → ClassId} {A : Nat → Prop} {Z : zZ} {S : zS} {n : Nat} {x y : Int32} (hV : zV n Z S.2.2) (hy : isB y) : zMet l yX7_silent prog_1_method_13_code 4 (some .boolean) ({ frames := 1, cells := 0, slots := 0, locals := 21 } : Room) D ar A Z S [.ref (Z.1 7 (0)), .int (x), .int (y)] rvI (zF (r_X7_silent S n x y) Z (s_X7_silent S n x y)) := by
  refine z_body (by decide +kernel) (Nat.le_of_ble_eq_true rfl) ?_
  intro pX eX sX mX bX methX cX ls hM hr hlk hml hin hl hW hlo
  have hM : zM pX cX mX _ sX prog_1_method_13_code RX7 D ar := hM
  have hS : va_S A sX.heap sX.heap [] := va_S.rf
  have hl : lv_has ls 4 [(0, .ref (Z.1 7 (0))), (1, .int (x)), (2, .int (y))] := hl
  refine lv_aload_n hM.1 hM.2.1 dX7_silent_0 rfl (lv_at hl 0 rfl) ?_
  refine lv_iload_n hM.1 hM.2.1 dX7_silent_1 rfl (lv_at hl 1 rfl) ?_
  refine z_Vr hM (hml.trans hl.1.symm) hW hS hlo zc7 hV.d7 rfl zyX7_copyAt lm_X7_161 li_yX7_copyAt le_yX7_copyAt (As := [.int (x)]) (rest := []) (c_X7_copyAt hV) rfl rfl (Nat.le_of_ble_eq_true rfl) ⟨Nat.le_of_ble_eq_true rfl, Nat.le_of_ble_eq_true rfl⟩ ⟨Nat.le_of_ble_eq_true rfl, Nat.le_of_ble_eq_true rfl⟩ dX7_silent_2 (fun H locs hW hS => ?_)
  rcases hq_2 : atI n (x) with _ | q2
  ·
    refine lv_astore_nN hM.1 hM.2.1 dX7_silent_5 rfl hl (by decide) (lv' := [(3, .null), (0, .ref (Z.1 7 (0))), (1, .int (x)), (2, .int (y))]) rfl (fun ls hl => ?_)
    refine lv_aload_nN hM.1 hM.2.1 dX7_silent_6 rfl (lv_at hl 0 rfl) ?_
    refine lv_ifnonnullN hM.1 hM.2.1 dX7_silent_7 ?_
    refine lv_iconst (v := 0) hM.1 hM.2.1 dX7_silent_10 (by decide) ?_
    exact z_iret hM hlk hr rfl hW hS (zF.of (by unfold r_X7_silent; rw [oel_n hq_2]; first | done | rfl) (by unfold s_X7_silent; rw [oel_n hq_2]; first | done | rfl)) dX7_silent_11
  ·
    obtain ⟨he_2, hb_2, hn0_2, hn1_2⟩ := atI_some (by have := hV.n7; omega) hq_2
    have hd_2 := hV.d3 hb_2
    refine lv_astore_n hM.1 hM.2.1 dX7_silent_5 rfl hl (by decide) (lv' := [(3, .ref (Z.1 3 (q2))), (0, .ref (Z.1 7 (0))), (1, .int (x)), (2, .int (y))]) rfl (fun ls hl => ?_)
    refine lv_aload_n hM.1 hM.2.1 dX7_silent_6 rfl (lv_at hl 0 rfl) ?_
    refine lv_ifnonnull hM.1 hM.2.1 dX7_silent_7 (tgt := 12) (by decide) ?_
    refine lv_aload_n hM.1 hM.2.1 dX7_silent_12 rfl (lv_at hl 0 rfl) ?_
    refine lv_iload_n hM.1 hM.2.1 dX7_silent_13 rfl (lv_at hl 3 rfl) ?_
    refine z_puti hM hW hS zc3 hd_2 rfl 3 (by decide) rfl lf_X7_165 (Or.inl rfl) (tyX3 3) (tyX3_ok 3 (by decide)) (narrow_isB hy) (fits_isB hy) dX7_silent_14 (fun H locs hW hS => ?_)
    refine lv_iconst (v := 1) hM.1 hM.2.1 dX7_silent_17 (by decide) ?_
    exact z_iret hM hlk hr rfl hW hS (zF.of (by unfold r_X7_silent; rw [oel_s hq_2]; first | done | rfl) (by unfold s_X7_silent; rw [oel_s hq_2]; first | done | rfl)) dX7_silent_18

noncomputable def r_X7_side (S : zS) (n : Nat) (x y : Int32) : Int32 := 
  (pif ((y) < (0)) (0) 
    (pif ((y) < (4)) 
      (oel (atI n (x)) 
        (pif ((10) ≤ (x)) 
          (oel (atI 4 ((x) - (10))) (0) (fun q41 => (1))) (0)) (fun q13 => (1))) (0)))
noncomputable def s_X7_side (S : zS) (n : Nat) (x y : Int32) : zS := 
  (pif ((y) < (0)) (S) 
    (pif ((y) < (4)) 
      (oel (atI n (x)) 
        (pif ((10) ≤ (x)) 
          (oel (atI 4 ((x) - (10))) (S) (fun q41 => ((si S 2 (q41) (8) (y))))) (S)) (fun q13 => ((si S 3 (q13) (4) (y))))) (S)))
set_option maxHeartbeats 4000000 in
set_option maxRecDepth 100000 in
theorem c_X7_side {l : Launch} {D : va_G} {ar : Nat → ClassId} {A : Nat → Prop} {Z : zZ} {S : zS} {n : Nat} {x y : Int32} (hV : zV n Z S.2.2)  : zMet l yX7_side prog_1_method_14_code 5 (some .boolean) ({ frames := 1, cells := 0, slots := 0, locals := 21 } : Room) D ar A Z S [.ref (Z.1 7 (0)), .int (x), .int (y)] rvI (zF (r_X7_side S n x y) Z (s_X7_side S n x y)) := by
  refine z_body (by decide +kernel) (Nat.le_of_ble_eq_true rfl) ?_
  intro pX eX sX mX bX methX cX ls hM hr hlk hml hin hl hW hlo
  have hM : zM pX cX mX _ sX prog_1_method_14_code RX7 D ar := hM
  have hS : va_S A sX.heap sX.heap [] := va_S.rf
  have hl : lv_has ls 5 [(0, .ref (Z.1 7 (0))), (1, .int (x)), (2, .int (y))] := hl
  refine lv_iload_n hM.1 hM.2.1 dX7_side_0 rfl (lv_at hl 2 rfl) ?_
  refine lv_if_lt hM.1 hM.2.1 dX7_side_1 (tgt := 9) (by decide) (fun h_1 => ?_) (fun h_1 => ?_)
  ·
    refine lv_iconst (v := 0) hM.1 hM.2.1 dX7_side_9 (by decide) ?_
    exact z_iret hM hlk hr rfl hW hS (zF.of (by unfold r_X7_side; rw [pif_pos h_1]; first | done | rfl) (by unfold s_X7_side; rw [pif_pos h_1]; first | done | rfl)) dX7_side_10
  ·
    refine lv_iload_n hM.1 hM.2.1 dX7_side_4 rfl (lv_at hl 2 rfl) ?_
    refine lv_iconst (v := 4) hM.1 hM.2.1 dX7_side_5 (by decide) ?_
    refine lv_icmp_lt hM.1 hM.2.1 dX7_side_6 (tgt := 11) (by decide) (fun h_6 => ?_) (fun h_6 => ?_)
    ·
      refine lv_aload_n hM.1 hM.2.1 dX7_side_11 rfl (lv_at hl 0 rfl) ?_
      refine lv_iload_n hM.1 hM.2.1 dX7_side_12 rfl (lv_at hl 1 rfl) ?_
      refine z_Vr hM (hml.trans hl.1.symm) hW hS hlo zc7 hV.d7 rfl zyX7_copyAt lm_X7_161 li_yX7_copyAt le_yX7_copyAt (As := [.int (x)]) (rest := []) (c_X7_copyAt hV) rfl rfl (Nat.le_of_ble_eq_true rfl) ⟨Nat.le_of_ble_eq_true rfl, Nat.le_of_ble_eq_true rfl⟩ ⟨Nat.le_of_ble_eq_true rfl, Nat.le_of_ble_eq_true rfl⟩ dX7_side_13 (fun H locs hW hS => ?_)
      rcases hq_13 : atI n (x) with _ | q13
      ·
        refine lv_astore_nN hM.1 hM.2.1 dX7_side_16 rfl hl (by decide) (lv' := [(3, .null), (0, .ref (Z.1 7 (0))), (1, .int (x)), (2, .int (y))]) rfl (fun ls hl => ?_)
        refine lv_aload_nN hM.1 hM.2.1 dX7_side_17 rfl (lv_at hl 0 rfl) ?_
        refine lv_ifnullN hM.1 hM.2.1 dX7_side_18 (tgt := 28) (by decide) ?_
        refine lv_iload_n hM.1 hM.2.1 dX7_side_28 rfl (lv_at hl 2 rfl) ?_
        refine lv_bipush (v := 10) hM.1 hM.2.1 dX7_side_29 (by decide) ?_
        refine lv_icmp_ge hM.1 hM.2.1 dX7_side_31 (tgt := 36) (by decide) (fun h_31 => ?_) (fun h_31 => ?_)
        ·
          refine lv_aload_n hM.1 hM.2.1 dX7_side_36 rfl (lv_at hl 1 rfl) ?_
          refine lv_iload_n hM.1 hM.2.1 dX7_side_37 rfl (lv_at hl 2 rfl) ?_
          refine lv_bipush (v := 10) hM.1 hM.2.1 dX7_side_38 (by decide) ?_
          refine lv_isub hM.1 hM.2.1 dX7_side_40 ?_
          refine z_Vr hM (hml.trans hl.1.symm) hW hS hlo zc7 hV.d7 rfl zyX7_clientAt lm_X7_69 li_yX7_clientAt le_yX7_clientAt (As := [.int ((x) - (10))]) (rest := []) (c_X7_clientAt hV) rfl rfl (Nat.le_of_ble_eq_true rfl) ⟨Nat.le_of_ble_eq_true rfl, Nat.le_of_ble_eq_true rfl⟩ ⟨Nat.le_of_ble_eq_true rfl, Nat.le_of_ble_eq_true rfl⟩ dX7_side_41 (fun H locs hW hS => ?_)
          rcases hq_41 : atI 4 ((x) - (10)) with _ | q41
          ·
            refine lv_astoreN hM.1 hM.2.1 dX7_side_44 hl (by decide) (lv' := [(4, .null), (3, .null), (0, .ref (Z.1 7 (0))), (1, .int (x)), (2, .int (y))]) rfl (fun ls hl => ?_)
            refine lv_aloadN hM.1 hM.2.1 dX7_side_46 (lv_at hl 0 rfl) ?_
            refine lv_ifnonnullN hM.1 hM.2.1 dX7_side_48 ?_
            refine lv_iconst (v := 0) hM.1 hM.2.1 dX7_side_51 (by decide) ?_
            exact z_iret hM hlk hr rfl hW hS (zF.of (by unfold r_X7_side; rw [pif_neg h_1, pif_pos h_6, oel_n hq_13, pif_pos h_31, oel_n hq_41]; first | done | rfl) (by unfold s_X7_side; rw [pif_neg h_1, pif_pos h_6, oel_n hq_13, pif_pos h_31, oel_n hq_41]; first | done | rfl)) dX7_side_52
          ·
            obtain ⟨he_41, hb_41, hn0_41, hn1_41⟩ := atI_some (by decide) hq_41
            have hd_41 := hV.d2 hb_41
            refine lv_astore hM.1 hM.2.1 dX7_side_44 hl (by decide) (lv' := [(4, .ref (Z.1 2 (q41))), (3, .null), (0, .ref (Z.1 7 (0))), (1, .int (x)), (2, .int (y))]) rfl (fun ls hl => ?_)
            refine lv_aload hM.1 hM.2.1 dX7_side_46 (lv_at hl 0 rfl) ?_
            refine lv_ifnonnull hM.1 hM.2.1 dX7_side_48 (tgt := 53) (by decide) ?_
            refine lv_aload hM.1 hM.2.1 dX7_side_53 (lv_at hl 0 rfl) ?_
            refine lv_iload_n hM.1 hM.2.1 dX7_side_55 rfl (lv_at hl 4 rfl) ?_
            refine z_puti hM hW hS zc2 hd_41 rfl 8 (by decide) rfl lf_X7_171 (Or.inl rfl) (tyX2 8) (tyX2_ok 8 (by decide)) rfl rfl dX7_side_56 (fun H locs hW hS => ?_)
            refine lv_iconst (v := 1) hM.1 hM.2.1 dX7_side_59 (by decide) ?_
            exact z_iret hM hlk hr rfl hW hS (zF.of (by unfold r_X7_side; rw [pif_neg h_1, pif_pos h_6, oel_n hq_13, pif_pos h_31, oel_s hq_41]; first | done | rfl) (by unfold s_X7_side; rw [pif_neg h_1, pif_pos h_6, oel_n hq_13, pif_pos h_31, oel_s hq_41]; first | done | rfl)) dX7_side_60
        ·
          refine lv_iconst (v := 0) hM.1 hM.2.1 dX7_side_34 (by decide) ?_
          exact z_iret hM hlk hr rfl hW hS (zF.of (by unfold r_X7_side; rw [pif_neg h_1, pif_pos h_6, oel_n hq_13, pif_neg h_31]; first | done | rfl) (by unfold s_X7_side; rw [pif_neg h_1, pif_pos h_6, oel_n hq_13, pif_neg h_31]; first | done | rfl)) dX7_side_35
      ·
        obtain ⟨he_13, hb_13, hn0_13, hn1_13⟩ := atI_some (by have := hV.n7; omega) hq_13
        have hd_13 := hV.d3 hb_13
        refine lv_astore_n hM.1 hM.2.1 dX7_side_16 rfl hl (by decide) (lv' := [(3, .ref (Z.1 3 (q13))), (0, .ref (Z.1 7 (0))), (1, .int (x)), (2, .int (y))]) rfl (fun ls hl => ?_)
        refine lv_aload_n hM.1 hM.2.1 dX7_side_17 rfl (lv_at hl 0 rfl) ?_
        refine lv_ifnull hM.1 hM.2.1 dX7_side_18 ?_
        refine lv_aload_n hM.1 hM.2.1 dX7_side_21 rfl (lv_at hl 0 rfl) ?_
        refine lv_iload_n hM.1 hM.2.1 dX7_side_22 rfl (lv_at hl 3 rfl) ?_
        refine z_puti hM hW hS zc3 hd_13 rfl 4 (by decide) rfl lf_X7_168 (Or.inl rfl) (tyX3 4) (tyX3_ok 4 (by decide)) rfl rfl dX7_side_23 (fun H locs hW hS => ?_)
        refine lv_iconst (v := 1) hM.1 hM.2.1 dX7_side_26 (by decide) ?_
        exact z_iret hM hlk hr rfl hW hS (zF.of (by unfold r_X7_side; rw [pif_neg h_1, pif_pos h_6, oel_s hq_13]; first | done | rfl) (by unfold s_X7_side; rw [pif_neg h_1, pif_pos h_6, oel_s hq_13]; first | done | rfl)) dX7_side_27
    ·
      refine lv_iconst (v := 0) hM.1 hM.2.1 dX7_side_9 (by decide) ?_
      exact z_iret hM hlk hr rfl hW hS (zF.of (by unfold r_X7_side; rw [pif_neg h_1, pif_neg h_6]; first | done | rfl) (by unfold s_X7_side; rw [pif_neg h_1, pif_neg h_6]; first | done | rfl)) dX7_side_10

noncomputable def r_X7_canPass (S : zS) (n : Nat) (j : Nat) : Int32 := 
  (oel (atI n (gi S 4 (j) (2))) 
    (oel (atI 4 (gi S 4 (j) (3))) (0) (fun q14 => (0))) (fun q5 => 
    (oel (atI 4 (gi S 4 (j) (3))) (0) (fun q14 => 
      (pif ((gi S 3 (q5) (3)) = (0)) 
        (pif ((gi S 3 (q5) (4)) = (gi S 2 (q14) (8))) (1) (0)) (0))))))
set_option maxHeartbeats 4000000 in
set_option maxRecDepth 100000 in
theorem c_X7_canPass {l : Launch} {D : va_G} {ar : Nat → ClassId} {A : Nat → Prop} {Z : zZ} {S : zS} {n : Nat} {j : Nat} (hV : zV n Z S.2.2) (hj : Z.2.1 4 j) : zMet l yX7_canPass prog_1_method_33_code 4 (some .boolean) ({ frames := 1, cells := 0, slots := 0, locals := 21 } : Room) D ar A Z S [.ref (Z.1 7 (0)), .ref (Z.1 4 (j))] rvI (zF (r_X7_canPass S n j) Z S) := by
  refine z_body (by decide +kernel) (Nat.le_of_ble_eq_true rfl) ?_
  intro pX eX sX mX bX methX cX ls hM hr hlk hml hin hl hW hlo
  have hM : zM pX cX mX _ sX prog_1_method_33_code RX7 D ar := hM
  have hS : va_S A sX.heap sX.heap [] := va_S.rf
  have hl : lv_has ls 4 [(0, .ref (Z.1 7 (0))), (1, .ref (Z.1 4 (j)))] := hl
  refine lv_aload_n hM.1 hM.2.1 dX7_canPass_0 rfl (lv_at hl 0 rfl) ?_
  refine lv_aload_n hM.1 hM.2.1 dX7_canPass_1 rfl (lv_at hl 1 rfl) ?_
  refine z_get hM hW zc4 hj rfl 2 (by decide) lf_X7_195 (v := .int (gi S 4 (j) (2))) rfl dX7_canPass_2 ?_
  refine z_Vr hM (hml.trans hl.1.symm) hW hS hlo zc7 hV.d7 rfl zyX7_copyAt lm_X7_161 li_yX7_copyAt le_yX7_copyAt (As := [.int (gi S 4 (j) (2))]) (rest := []) (c_X7_copyAt hV) rfl rfl (Nat.le_of_ble_eq_true rfl) ⟨Nat.le_of_ble_eq_true rfl, Nat.le_of_ble_eq_true rfl⟩ ⟨Nat.le_of_ble_eq_true rfl, Nat.le_of_ble_eq_true rfl⟩ dX7_canPass_5 (fun H locs hW hS => ?_)
  rcases hq_5 : atI n (gi S 4 (j) (2)) with _ | q5
  ·
    refine lv_astore_nN hM.1 hM.2.1 dX7_canPass_8 rfl hl (by decide) (lv' := [(2, .null), (0, .ref (Z.1 7 (0))), (1, .ref (Z.1 4 (j)))]) rfl (fun ls hl => ?_)
    refine lv_aload_n hM.1 hM.2.1 dX7_canPass_9 rfl (lv_at hl 1 rfl) ?_
    refine lv_aload_n hM.1 hM.2.1 dX7_canPass_10 rfl (lv_at hl 2 rfl) ?_
    refine z_get hM hW zc4 hj rfl 3 (by decide) lf_X7_198 (v := .int (gi S 4 (j) (3))) rfl dX7_canPass_11 ?_
    refine z_Vr hM (hml.trans hl.1.symm) hW hS hlo zc7 hV.d7 rfl zyX7_clientAt lm_X7_69 li_yX7_clientAt le_yX7_clientAt (As := [.int (gi S 4 (j) (3))]) (rest := []) (c_X7_clientAt hV) rfl rfl (Nat.le_of_ble_eq_true rfl) ⟨Nat.le_of_ble_eq_true rfl, Nat.le_of_ble_eq_true rfl⟩ ⟨Nat.le_of_ble_eq_true rfl, Nat.le_of_ble_eq_true rfl⟩ dX7_canPass_14 (fun H locs hW hS => ?_)
    rcases hq_14 : atI 4 (gi S 4 (j) (3)) with _ | q14
    ·
      refine lv_astore_nN hM.1 hM.2.1 dX7_canPass_17 rfl hl (by decide) (lv' := [(3, .null), (2, .null), (0, .ref (Z.1 7 (0))), (1, .ref (Z.1 4 (j)))]) rfl (fun ls hl => ?_)
      refine lv_aload_nN hM.1 hM.2.1 dX7_canPass_18 rfl (lv_at hl 1 rfl) ?_
      refine lv_ifnullN hM.1 hM.2.1 dX7_canPass_19 (tgt := 48) (by decide) ?_
      refine lv_iconst (v := 0) hM.1 hM.2.1 dX7_canPass_48 (by decide) ?_
      exact z_iret hM hlk hr rfl hW hS (zF.of (by unfold r_X7_canPass; rw [oel_n hq_5, oel_n hq_14]; first | done | rfl) rfl) dX7_canPass_49
    ·
      obtain ⟨he_14, hb_14, hn0_14, hn1_14⟩ := atI_some (by decide) hq_14
      have hd_14 := hV.d2 hb_14
      refine lv_astore_n hM.1 hM.2.1 dX7_canPass_17 rfl hl (by decide) (lv' := [(3, .ref (Z.1 2 (q14))), (2, .null), (0, .ref (Z.1 7 (0))), (1, .ref (Z.1 4 (j)))]) rfl (fun ls hl => ?_)
      refine lv_aload_nN hM.1 hM.2.1 dX7_canPass_18 rfl (lv_at hl 1 rfl) ?_
      refine lv_ifnullN hM.1 hM.2.1 dX7_canPass_19 (tgt := 48) (by decide) ?_
      refine lv_iconst (v := 0) hM.1 hM.2.1 dX7_canPass_48 (by decide) ?_
      exact z_iret hM hlk hr rfl hW hS (zF.of (by unfold r_X7_canPass; rw [oel_n hq_5, oel_s hq_14]; first | done | rfl) rfl) dX7_canPass_49
  ·
    obtain ⟨he_5, hb_5, hn0_5, hn1_5⟩ := atI_some (by have := hV.n7; omega) hq_5
    have hd_5 := hV.d3 hb_5
    refine lv_astore_n hM.1 hM.2.1 dX7_canPass_8 rfl hl (by decide) (lv' := [(2, .ref (Z.1 3 (q5))), (0, .ref (Z.1 7 (0))), (1, .ref (Z.1 4 (j)))]) rfl (fun ls hl => ?_)
    refine lv_aload_n hM.1 hM.2.1 dX7_canPass_9 rfl (lv_at hl 1 rfl) ?_
    refine lv_aload_n hM.1 hM.2.1 dX7_canPass_10 rfl (lv_at hl 2 rfl) ?_
    refine z_get hM hW zc4 hj rfl 3 (by decide) lf_X7_198 (v := .int (gi S 4 (j) (3))) rfl dX7_canPass_11 ?_
    refine z_Vr hM (hml.trans hl.1.symm) hW hS hlo zc7 hV.d7 rfl zyX7_clientAt lm_X7_69 li_yX7_clientAt le_yX7_clientAt (As := [.int (gi S 4 (j) (3))]) (rest := []) (c_X7_clientAt hV) rfl rfl (Nat.le_of_ble_eq_true rfl) ⟨Nat.le_of_ble_eq_true rfl, Nat.le_of_ble_eq_true rfl⟩ ⟨Nat.le_of_ble_eq_true rfl, Nat.le_of_ble_eq_true rfl⟩ dX7_canPass_14 (fun H locs hW hS => ?_)
    rcases hq_14 : atI 4 (gi S 4 (j) (3)) with _ | q14
    ·
      refine lv_astore_nN hM.1 hM.2.1 dX7_canPass_17 rfl hl (by decide) (lv' := [(3, .null), (2, .ref (Z.1 3 (q5))), (0, .ref (Z.1 7 (0))), (1, .ref (Z.1 4 (j)))]) rfl (fun ls hl => ?_)
      refine lv_aload_n hM.1 hM.2.1 dX7_canPass_18 rfl (lv_at hl 1 rfl) ?_
      refine lv_ifnull hM.1 hM.2.1 dX7_canPass_19 ?_
      refine lv_aload_nN hM.1 hM.2.1 dX7_canPass_22 rfl (lv_at hl 0 rfl) ?_
      refine lv_ifnullN hM.1 hM.2.1 dX7_canPass_23 (tgt := 48) (by decide) ?_
      refine lv_iconst (v := 0) hM.1 hM.2.1 dX7_canPass_48 (by decide) ?_
      exact z_iret hM hlk hr rfl hW hS (zF.of (by unfold r_X7_canPass; rw [oel_s hq_5, oel_n hq_14]; first | done | rfl) rfl) dX7_canPass_49
    ·
      obtain ⟨he_14, hb_14, hn0_14, hn1_14⟩ := atI_some (by decide) hq_14
      have hd_14 := hV.d2 hb_14
      refine lv_astore_n hM.1 hM.2.1 dX7_canPass_17 rfl hl (by decide) (lv' := [(3, .ref (Z.1 2 (q14))), (2, .ref (Z.1 3 (q5))), (0, .ref (Z.1 7 (0))), (1, .ref (Z.1 4 (j)))]) rfl (fun ls hl => ?_)
      refine lv_aload_n hM.1 hM.2.1 dX7_canPass_18 rfl (lv_at hl 1 rfl) ?_
      refine lv_ifnull hM.1 hM.2.1 dX7_canPass_19 ?_
      refine lv_aload_n hM.1 hM.2.1 dX7_canPass_22 rfl (lv_at hl 0 rfl) ?_
      refine lv_ifnull hM.1 hM.2.1 dX7_canPass_23 ?_
      refine lv_aload_n hM.1 hM.2.1 dX7_canPass_26 rfl (lv_at hl 1 rfl) ?_
      refine z_get hM hW zc3 hd_5 rfl 3 (by decide) lf_X7_165 (v := .int (gi S 3 (q5) (3))) rfl dX7_canPass_27 ?_
      refine lv_if_ne hM.1 hM.2.1 dX7_canPass_30 (tgt := 48) (by decide) (fun h_30 => ?_) (fun h_30 => ?_)
      ·
        refine lv_iconst (v := 0) hM.1 hM.2.1 dX7_canPass_48 (by decide) ?_
        exact z_iret hM hlk hr rfl hW hS (zF.of (by unfold r_X7_canPass; rw [oel_s hq_5, oel_s hq_14, pif_neg h_30]; first | done | rfl) rfl) dX7_canPass_49
      ·
        refine lv_aload_n hM.1 hM.2.1 dX7_canPass_33 rfl (lv_at hl 1 rfl) ?_
        refine z_get hM hW zc3 hd_5 rfl 4 (by decide) lf_X7_168 (v := .int (gi S 3 (q5) (4))) rfl dX7_canPass_34 ?_
        refine lv_aload_n hM.1 hM.2.1 dX7_canPass_37 rfl (lv_at hl 0 rfl) ?_
        refine z_get hM hW zc2 hd_14 rfl 8 (by decide) lf_X7_171 (v := .int (gi S 2 (q14) (8))) rfl dX7_canPass_38 ?_
        refine lv_icmp_ne hM.1 hM.2.1 dX7_canPass_41 (tgt := 48) (by decide) (fun h_41 => ?_) (fun h_41 => ?_)
        ·
          refine lv_iconst (v := 0) hM.1 hM.2.1 dX7_canPass_48 (by decide) ?_
          exact z_iret hM hlk hr rfl hW hS (zF.of (by unfold r_X7_canPass; rw [oel_s hq_5, oel_s hq_14, pif_pos h_30, pif_neg h_41]; first | done | rfl) rfl) dX7_canPass_49
        ·
          refine lv_iconst (v := 1) hM.1 hM.2.1 dX7_canPass_44 (by decide) ?_
          refine lv_goto hM.1 hM.2.1 dX7_canPass_45 (tgt := 49) (by decide) ?_
          exact z_iret hM hlk hr rfl hW hS (zF.of (by unfold r_X7_canPass; rw [oel_s hq_5, oel_s hq_14, pif_pos h_30, pif_pos h_41]; first | done | rfl) rfl) dX7_canPass_49

noncomputable def r_X7_copy (S : zS) (n : Nat) (x y : Int32) : Int32 := 
  (oel (atI n (x)) ((-1)) (fun q2 => 
    (pif ((y) = (0)) (gi S 6 (q2) (0)) 
      (pif ((y) = (1)) (gi S 6 (q2) (1)) 
        (pif ((y) = (2)) (gi S 3 (q2) (1)) 
          (pif ((y) = (3)) (gi S 3 (q2) (2)) 
            (pif ((y) = (4)) 
              (pif ((gi S 3 (q2) (3)) = (0)) (0) (1)) 
              (pif ((y) = (5)) (gi S 3 (q2) (4)) ((-1))))))))))
set_option maxHeartbeats 4000000 in
set_option maxRecDepth 100000 in
theorem c_X7_copy {l : Launch} {D : va_G} {ar : Nat → ClassId} {A : Nat → Prop} {Z : zZ} {S : zS} {n : Nat} {x y : Int32} (hV : zV n Z S.2.2)  : zMet l yX7_copy prog_1_method_15_code 4 (some .int) ({ frames := 1, cells := 0, slots := 0, locals := 21 } : Room) D ar A Z S [.ref (Z.1 7 (0)), .int (x), .int (y)] rvI (zF (r_X7_copy S n x y) Z S) := by
  refine z_body (by decide +kernel) (Nat.le_of_ble_eq_true rfl) ?_
  intro pX eX sX mX bX methX cX ls hM hr hlk hml hin hl hW hlo
  have hM : zM pX cX mX _ sX prog_1_method_15_code RX7 D ar := hM
  have hS : va_S A sX.heap sX.heap [] := va_S.rf
  have hl : lv_has ls 4 [(0, .ref (Z.1 7 (0))), (1, .int (x)), (2, .int (y))] := hl
  refine lv_aload_n hM.1 hM.2.1 dX7_copy_0 rfl (lv_at hl 0 rfl) ?_
  refine lv_iload_n hM.1 hM.2.1 dX7_copy_1 rfl (lv_at hl 1 rfl) ?_
  refine z_Vr hM (hml.trans hl.1.symm) hW hS hlo zc7 hV.d7 rfl zyX7_copyAt lm_X7_161 li_yX7_copyAt le_yX7_copyAt (As := [.int (x)]) (rest := []) (c_X7_copyAt hV) rfl rfl (Nat.le_of_ble_eq_true rfl) ⟨Nat.le_of_ble_eq_true rfl, Nat.le_of_ble_eq_true rfl⟩ ⟨Nat.le_of_ble_eq_true rfl, Nat.le_of_ble_eq_true rfl⟩ dX7_copy_2 (fun H locs hW hS => ?_)
  rcases hq_2 : atI n (x) with _ | q2
  ·
    refine lv_astore_nN hM.1 hM.2.1 dX7_copy_5 rfl hl (by decide) (lv' := [(3, .null), (0, .ref (Z.1 7 (0))), (1, .int (x)), (2, .int (y))]) rfl (fun ls hl => ?_)
    refine lv_aload_nN hM.1 hM.2.1 dX7_copy_6 rfl (lv_at hl 0 rfl) ?_
    refine lv_ifnonnullN hM.1 hM.2.1 dX7_copy_7 ?_
    refine lv_iconst (v := (-1)) hM.1 hM.2.1 dX7_copy_10 (by decide) ?_
    exact z_iret hM hlk hr rfl hW hS (zF.of (by unfold r_X7_copy; rw [oel_n hq_2]; first | done | rfl) rfl) dX7_copy_11
  ·
    obtain ⟨he_2, hb_2, hn0_2, hn1_2⟩ := atI_some (by have := hV.n7; omega) hq_2
    have hd_2 := hV.d3 hb_2
    refine lv_astore_n hM.1 hM.2.1 dX7_copy_5 rfl hl (by decide) (lv' := [(3, .ref (Z.1 3 (q2))), (0, .ref (Z.1 7 (0))), (1, .int (x)), (2, .int (y))]) rfl (fun ls hl => ?_)
    refine lv_aload_n hM.1 hM.2.1 dX7_copy_6 rfl (lv_at hl 0 rfl) ?_
    refine lv_ifnonnull hM.1 hM.2.1 dX7_copy_7 (tgt := 12) (by decide) ?_
    refine lv_iload_n hM.1 hM.2.1 dX7_copy_12 rfl (lv_at hl 3 rfl) ?_
    by_cases h_13_0 : (y) = (0)
    ·
      refine lv_tableIn hM.1 hM.2.1 dX7_copy_13 (by rw [h_13_0]; decide) (by rw [h_13_0]; decide) (off := 39) (by rw [h_13_0]; rfl) (tgt := 52) (by decide) ?_
      refine lv_aload_n hM.1 hM.2.1 dX7_copy_52 rfl (lv_at hl 0 rfl) ?_
      refine z_getr hM hW zc3 hd_2 rfl 0 (by decide) lf_X7_172 (t := 6) (j := q2) rfl (hV.r3 hb_2) dX7_copy_53 (fun hd1_53 => ?_)
      refine z_get hM hW zc6 hd1_53 rfl 0 (by decide) lf_X7_176 (v := .int (gi S 6 (q2) (0))) rfl dX7_copy_56 ?_
      exact z_iret hM hlk hr rfl hW hS (zF.of (by unfold r_X7_copy; rw [oel_s hq_2, pif_pos h_13_0]; first | done | rfl) rfl) dX7_copy_59
    by_cases h_13_1 : (y) = (1)
    ·
      refine lv_tableIn hM.1 hM.2.1 dX7_copy_13 (by rw [h_13_1]; decide) (by rw [h_13_1]; decide) (off := 47) (by rw [h_13_1]; rfl) (tgt := 60) (by decide) ?_
      refine lv_aload_n hM.1 hM.2.1 dX7_copy_60 rfl (lv_at hl 0 rfl) ?_
      refine z_getr hM hW zc3 hd_2 rfl 0 (by decide) lf_X7_172 (t := 6) (j := q2) rfl (hV.r3 hb_2) dX7_copy_61 (fun hd2_61 => ?_)
      refine z_get hM hW zc6 hd2_61 rfl 1 (by decide) lf_X7_181 (v := .int (gi S 6 (q2) (1))) rfl dX7_copy_64 ?_
      exact z_iret hM hlk hr rfl hW hS (zF.of (by unfold r_X7_copy; rw [oel_s hq_2, pif_neg h_13_0, pif_pos h_13_1]; first | done | rfl) rfl) dX7_copy_67
    by_cases h_13_2 : (y) = (2)
    ·
      refine lv_tableIn hM.1 hM.2.1 dX7_copy_13 (by rw [h_13_2]; decide) (by rw [h_13_2]; decide) (off := 55) (by rw [h_13_2]; rfl) (tgt := 68) (by decide) ?_
      refine lv_aload_n hM.1 hM.2.1 dX7_copy_68 rfl (lv_at hl 0 rfl) ?_
      refine z_get hM hW zc3 hd_2 rfl 1 (by decide) lf_X7_184 (v := .int (gi S 3 (q2) (1))) rfl dX7_copy_69 ?_
      exact z_iret hM hlk hr rfl hW hS (zF.of (by unfold r_X7_copy; rw [oel_s hq_2, pif_neg h_13_0, pif_neg h_13_1, pif_pos h_13_2]; first | done | rfl) rfl) dX7_copy_72
    by_cases h_13_3 : (y) = (3)
    ·
      refine lv_tableIn hM.1 hM.2.1 dX7_copy_13 (by rw [h_13_3]; decide) (by rw [h_13_3]; decide) (off := 60) (by rw [h_13_3]; rfl) (tgt := 73) (by decide) ?_
      refine lv_aload_n hM.1 hM.2.1 dX7_copy_73 rfl (lv_at hl 0 rfl) ?_
      refine z_get hM hW zc3 hd_2 rfl 2 (by decide) lf_X7_185 (v := .int (gi S 3 (q2) (2))) rfl dX7_copy_74 ?_
      exact z_iret hM hlk hr rfl hW hS (zF.of (by unfold r_X7_copy; rw [oel_s hq_2, pif_neg h_13_0, pif_neg h_13_1, pif_neg h_13_2, pif_pos h_13_3]; first | done | rfl) rfl) dX7_copy_77
    by_cases h_13_4 : (y) = (4)
    ·
      refine lv_tableIn hM.1 hM.2.1 dX7_copy_13 (by rw [h_13_4]; decide) (by rw [h_13_4]; decide) (off := 65) (by rw [h_13_4]; rfl) (tgt := 78) (by decide) ?_
      refine lv_aload_n hM.1 hM.2.1 dX7_copy_78 rfl (lv_at hl 0 rfl) ?_
      refine z_get hM hW zc3 hd_2 rfl 3 (by decide) lf_X7_165 (v := .int (gi S 3 (q2) (3))) rfl dX7_copy_79 ?_
      refine lv_if_eq hM.1 hM.2.1 dX7_copy_82 (tgt := 89) (by decide) (fun h_82 => ?_) (fun h_82 => ?_)
      ·
        refine lv_iconst (v := 0) hM.1 hM.2.1 dX7_copy_89 (by decide) ?_
        exact z_iret hM hlk hr rfl hW hS (zF.of (by unfold r_X7_copy; rw [oel_s hq_2, pif_neg h_13_0, pif_neg h_13_1, pif_neg h_13_2, pif_neg h_13_3, pif_pos h_13_4, pif_pos h_82]; first | done | rfl) rfl) dX7_copy_90
      ·
        refine lv_iconst (v := 1) hM.1 hM.2.1 dX7_copy_85 (by decide) ?_
        refine lv_goto hM.1 hM.2.1 dX7_copy_86 (tgt := 90) (by decide) ?_
        exact z_iret hM hlk hr rfl hW hS (zF.of (by unfold r_X7_copy; rw [oel_s hq_2, pif_neg h_13_0, pif_neg h_13_1, pif_neg h_13_2, pif_neg h_13_3, pif_pos h_13_4, pif_neg h_82]; first | done | rfl) rfl) dX7_copy_90
    by_cases h_13_5 : (y) = (5)
    ·
      refine lv_tableIn hM.1 hM.2.1 dX7_copy_13 (by rw [h_13_5]; decide) (by rw [h_13_5]; decide) (off := 78) (by rw [h_13_5]; rfl) (tgt := 91) (by decide) ?_
      refine lv_aload_n hM.1 hM.2.1 dX7_copy_91 rfl (lv_at hl 0 rfl) ?_
      refine z_get hM hW zc3 hd_2 rfl 4 (by decide) lf_X7_168 (v := .int (gi S 3 (q2) (4))) rfl dX7_copy_92 ?_
      exact z_iret hM hlk hr rfl hW hS (zF.of (by unfold r_X7_copy; rw [oel_s hq_2, pif_neg h_13_0, pif_neg h_13_1, pif_neg h_13_2, pif_neg h_13_3, pif_neg h_13_4, pif_pos h_13_5]; first | done | rfl) rfl) dX7_copy_95
    refine lv_tableOut hM.1 hM.2.1 dX7_copy_13 (by have n0 : Int32.toInt (y) ≠ 0 := fun q => h_13_0 (Int32.toInt_inj.mp (by rw [q]; rfl)); have n1 : Int32.toInt (y) ≠ 1 := fun q => h_13_1 (Int32.toInt_inj.mp (by rw [q]; rfl)); have n2 : Int32.toInt (y) ≠ 2 := fun q => h_13_2 (Int32.toInt_inj.mp (by rw [q]; rfl)); have n3 : Int32.toInt (y) ≠ 3 := fun q => h_13_3 (Int32.toInt_inj.mp (by rw [q]; rfl)); have n4 : Int32.toInt (y) ≠ 4 := fun q => h_13_4 (Int32.toInt_inj.mp (by rw [q]; rfl)); have n5 : Int32.toInt (y) ≠ 5 := fun q => h_13_5 (Int32.toInt_inj.mp (by rw [q]; rfl)); omega) (tgt := 96) (by decide) ?_
    refine lv_iconst (v := (-1)) hM.1 hM.2.1 dX7_copy_96 (by decide) ?_
    exact z_iret hM hlk hr rfl hW hS (zF.of (by unfold r_X7_copy; rw [oel_s hq_2, pif_neg h_13_0, pif_neg h_13_1, pif_neg h_13_2, pif_neg h_13_3, pif_neg h_13_4, pif_neg h_13_5]; first | done | rfl) rfl) dX7_copy_97

noncomputable def r_X7_kept (S : zS) (n : Nat) (x : Int32) : Int64 := 
  (oel (atI n (x)) (0) (fun q2 => (gj S 6 (q2) (2))))
set_option maxHeartbeats 4000000 in
set_option maxRecDepth 100000 in
theorem c_X7_kept {l : Launch} {D : va_G} {ar : Nat → ClassId} {A : Nat → Prop} {Z : zZ} {S : zS} {n : Nat} {x : Int32} (hV : zV n Z S.2.2)  : zMet l yX7_kept prog_1_method_16_code 3 (some .long) ({ frames := 1, cells := 0, slots := 0, locals := 21 } : Room) D ar A Z S [.ref (Z.1 7 (0)), .int (x)] rvL (zF (r_X7_kept S n x) Z S) := by
  refine z_body (by decide +kernel) (Nat.le_of_ble_eq_true rfl) ?_
  intro pX eX sX mX bX methX cX ls hM hr hlk hml hin hl hW hlo
  have hM : zM pX cX mX _ sX prog_1_method_16_code RX7 D ar := hM
  have hS : va_S A sX.heap sX.heap [] := va_S.rf
  have hl : lv_has ls 3 [(0, .ref (Z.1 7 (0))), (1, .int (x))] := hl
  refine lv_aload_n hM.1 hM.2.1 dX7_kept_0 rfl (lv_at hl 0 rfl) ?_
  refine lv_iload_n hM.1 hM.2.1 dX7_kept_1 rfl (lv_at hl 1 rfl) ?_
  refine z_Vr hM (hml.trans hl.1.symm) hW hS hlo zc7 hV.d7 rfl zyX7_copyAt lm_X7_161 li_yX7_copyAt le_yX7_copyAt (As := [.int (x)]) (rest := []) (c_X7_copyAt hV) rfl rfl (Nat.le_of_ble_eq_true rfl) ⟨Nat.le_of_ble_eq_true rfl, Nat.le_of_ble_eq_true rfl⟩ ⟨Nat.le_of_ble_eq_true rfl, Nat.le_of_ble_eq_true rfl⟩ dX7_kept_2 (fun H locs hW hS => ?_)
  rcases hq_2 : atI n (x) with _ | q2
  ·
    refine lv_astore_nN hM.1 hM.2.1 dX7_kept_5 rfl hl (by decide) (lv' := [(2, .null), (0, .ref (Z.1 7 (0))), (1, .int (x))]) rfl (fun ls hl => ?_)
    refine lv_aload_nN hM.1 hM.2.1 dX7_kept_6 rfl (lv_at hl 0 rfl) ?_
    refine lv_ifnonnullN hM.1 hM.2.1 dX7_kept_7 ?_
    refine lv_lconst (v := 0) hM.1 hM.2.1 dX7_kept_10 (by decide) ?_
    refine lv_goto hM.1 hM.2.1 dX7_kept_11 (tgt := 21) (by decide) ?_
    exact z_lret hM hlk hr hW hS (zF.of (by unfold r_X7_kept; rw [oel_n hq_2]; first | done | rfl) rfl) dX7_kept_21
  ·
    obtain ⟨he_2, hb_2, hn0_2, hn1_2⟩ := atI_some (by have := hV.n7; omega) hq_2
    have hd_2 := hV.d3 hb_2
    refine lv_astore_n hM.1 hM.2.1 dX7_kept_5 rfl hl (by decide) (lv' := [(2, .ref (Z.1 3 (q2))), (0, .ref (Z.1 7 (0))), (1, .int (x))]) rfl (fun ls hl => ?_)
    refine lv_aload_n hM.1 hM.2.1 dX7_kept_6 rfl (lv_at hl 0 rfl) ?_
    refine lv_ifnonnull hM.1 hM.2.1 dX7_kept_7 (tgt := 14) (by decide) ?_
    refine lv_aload_n hM.1 hM.2.1 dX7_kept_14 rfl (lv_at hl 0 rfl) ?_
    refine z_getr hM hW zc3 hd_2 rfl 0 (by decide) lf_X7_172 (t := 6) (j := q2) rfl (hV.r3 hb_2) dX7_kept_15 (fun hd1_15 => ?_)
    refine z_get hM hW zc6 hd1_15 rfl 2 (by decide) lf_X7_186 (v := .long (gj S 6 (q2) (2))) rfl dX7_kept_18 ?_
    exact z_lret hM hlk hr hW hS (zF.of (by unfold r_X7_kept; rw [oel_s hq_2]; first | done | rfl) rfl) dX7_kept_21

noncomputable def r_X7_client (S : zS) (n : Nat) (x y : Int32) : Int32 := 
  (oel (atI 4 (x)) ((-1)) (fun q2 => 
    (oel (gr S 2 q2 2) 
      (pif ((y) = (0)) ((-1)) 
        (pif ((y) = (1)) (gi S 2 (q2) (3)) 
          (pif ((y) = (2)) (gi S 2 (q2) (6)) 
            (pif ((y) = (3)) (gi S 2 (q2) (7)) 
              (pif ((y) = (4)) (gi S 2 (q2) (8)) 
                (pif ((y) = (5)) (gi S 2 (q2) (5)) ((-1)))))))) (fun a => 
      (pif ((y) = (0)) (gi S 0 (a) (0)) 
        (pif ((y) = (1)) (gi S 2 (q2) (3)) 
          (pif ((y) = (2)) (gi S 2 (q2) (6)) 
            (pif ((y) = (3)) (gi S 2 (q2) (7)) 
              (pif ((y) = (4)) (gi S 2 (q2) (8)) 
                (pif ((y) = (5)) (gi S 2 (q2) (5)) ((-1))))))))))))
set_option maxHeartbeats 4000000 in
set_option maxRecDepth 100000 in
theorem c_X7_client {l : Launch} {D : va_G} {ar : Nat → ClassId} {A : Nat → Prop} {Z : zZ} {S : zS} {n : Nat} {x y : Int32} (hV : zV n Z S.2.2)  : zMet l yX7_client prog_1_method_17_code 5 (some .int) ({ frames := 1, cells := 0, slots := 0, locals := 21 } : Room) D ar A Z S [.ref (Z.1 7 (0)), .int (x), .int (y)] rvI (zF (r_X7_client S n x y) Z S) := by
  refine z_body (by decide +kernel) (Nat.le_of_ble_eq_true rfl) ?_
  intro pX eX sX mX bX methX cX ls hM hr hlk hml hin hl hW hlo
  have hM : zM pX cX mX _ sX prog_1_method_17_code RX7 D ar := hM
  have hS : va_S A sX.heap sX.heap [] := va_S.rf
  have hl : lv_has ls 5 [(0, .ref (Z.1 7 (0))), (1, .int (x)), (2, .int (y))] := hl
  refine lv_aload_n hM.1 hM.2.1 dX7_client_0 rfl (lv_at hl 0 rfl) ?_
  refine lv_iload_n hM.1 hM.2.1 dX7_client_1 rfl (lv_at hl 1 rfl) ?_
  refine z_Vr hM (hml.trans hl.1.symm) hW hS hlo zc7 hV.d7 rfl zyX7_clientAt lm_X7_69 li_yX7_clientAt le_yX7_clientAt (As := [.int (x)]) (rest := []) (c_X7_clientAt hV) rfl rfl (Nat.le_of_ble_eq_true rfl) ⟨Nat.le_of_ble_eq_true rfl, Nat.le_of_ble_eq_true rfl⟩ ⟨Nat.le_of_ble_eq_true rfl, Nat.le_of_ble_eq_true rfl⟩ dX7_client_2 (fun H locs hW hS => ?_)
  rcases hq_2 : atI 4 (x) with _ | q2
  ·
    refine lv_astore_nN hM.1 hM.2.1 dX7_client_5 rfl hl (by decide) (lv' := [(3, .null), (0, .ref (Z.1 7 (0))), (1, .int (x)), (2, .int (y))]) rfl (fun ls hl => ?_)
    refine lv_aload_nN hM.1 hM.2.1 dX7_client_6 rfl (lv_at hl 0 rfl) ?_
    refine lv_ifnonnullN hM.1 hM.2.1 dX7_client_7 ?_
    refine lv_iconst (v := (-1)) hM.1 hM.2.1 dX7_client_10 (by decide) ?_
    exact z_iret hM hlk hr rfl hW hS (zF.of (by unfold r_X7_client; rw [oel_n hq_2]; first | done | rfl) rfl) dX7_client_11
  ·
    obtain ⟨he_2, hb_2, hn0_2, hn1_2⟩ := atI_some (by decide) hq_2
    have hd_2 := hV.d2 hb_2
    refine lv_astore_n hM.1 hM.2.1 dX7_client_5 rfl hl (by decide) (lv' := [(3, .ref (Z.1 2 (q2))), (0, .ref (Z.1 7 (0))), (1, .int (x)), (2, .int (y))]) rfl (fun ls hl => ?_)
    refine lv_aload_n hM.1 hM.2.1 dX7_client_6 rfl (lv_at hl 0 rfl) ?_
    refine lv_ifnonnull hM.1 hM.2.1 dX7_client_7 (tgt := 12) (by decide) ?_
    refine lv_aload_n hM.1 hM.2.1 dX7_client_12 rfl (lv_at hl 0 rfl) ?_
    rcases hq_13 : gr S 2 q2 2 with _ | a
    ·
      refine z_get hM hW zc2 hd_2 rfl 2 (by decide) lf_X7_105 (v := .null) (by simp [zv, zvt, zk, zrv, hq_13]) dX7_client_13 ?_
      refine lv_astoreN hM.1 hM.2.1 dX7_client_16 hl (by decide) (lv' := [(4, .null), (3, .ref (Z.1 2 (q2))), (0, .ref (Z.1 7 (0))), (1, .int (x)), (2, .int (y))]) rfl (fun ls hl => ?_)
      refine lv_iload_n hM.1 hM.2.1 dX7_client_18 rfl (lv_at hl 4 rfl) ?_
      by_cases h_19_0 : (y) = (0)
      ·
        refine lv_tableIn hM.1 hM.2.1 dX7_client_19 (by rw [h_19_0]; decide) (by rw [h_19_0]; decide) (off := 37) (by rw [h_19_0]; rfl) (tgt := 56) (by decide) ?_
        refine lv_aloadN hM.1 hM.2.1 dX7_client_56 (lv_at hl 0 rfl) ?_
        refine lv_ifnonnullN hM.1 hM.2.1 dX7_client_58 ?_
        refine lv_iconst (v := (-1)) hM.1 hM.2.1 dX7_client_61 (by decide) ?_
        refine lv_goto hM.1 hM.2.1 dX7_client_62 (tgt := 70) (by decide) ?_
        exact z_iret hM hlk hr rfl hW hS (zF.of (by unfold r_X7_client; rw [oel_s hq_2, oel_n hq_13, pif_pos h_19_0]; first | done | rfl) rfl) dX7_client_70
      by_cases h_19_1 : (y) = (1)
      ·
        refine lv_tableIn hM.1 hM.2.1 dX7_client_19 (by rw [h_19_1]; decide) (by rw [h_19_1]; decide) (off := 52) (by rw [h_19_1]; rfl) (tgt := 71) (by decide) ?_
        refine lv_aload_n hM.1 hM.2.1 dX7_client_71 rfl (lv_at hl 1 rfl) ?_
        refine z_get hM hW zc2 hd_2 rfl 3 (by decide) lf_X7_189 (v := .int (gi S 2 (q2) (3))) rfl dX7_client_72 ?_
        exact z_iret hM hlk hr rfl hW hS (zF.of (by unfold r_X7_client; rw [oel_s hq_2, oel_n hq_13, pif_neg h_19_0, pif_pos h_19_1]; first | done | rfl) rfl) dX7_client_75
      by_cases h_19_2 : (y) = (2)
      ·
        refine lv_tableIn hM.1 hM.2.1 dX7_client_19 (by rw [h_19_2]; decide) (by rw [h_19_2]; decide) (off := 57) (by rw [h_19_2]; rfl) (tgt := 76) (by decide) ?_
        refine lv_aload_n hM.1 hM.2.1 dX7_client_76 rfl (lv_at hl 1 rfl) ?_
        refine z_get hM hW zc2 hd_2 rfl 6 (by decide) lf_X7_77 (v := .int (gi S 2 (q2) (6))) rfl dX7_client_77 ?_
        exact z_iret hM hlk hr rfl hW hS (zF.of (by unfold r_X7_client; rw [oel_s hq_2, oel_n hq_13, pif_neg h_19_0, pif_neg h_19_1, pif_pos h_19_2]; first | done | rfl) rfl) dX7_client_80
      by_cases h_19_3 : (y) = (3)
      ·
        refine lv_tableIn hM.1 hM.2.1 dX7_client_19 (by rw [h_19_3]; decide) (by rw [h_19_3]; decide) (off := 62) (by rw [h_19_3]; rfl) (tgt := 81) (by decide) ?_
        refine lv_aload_n hM.1 hM.2.1 dX7_client_81 rfl (lv_at hl 1 rfl) ?_
        refine z_get hM hW zc2 hd_2 rfl 7 (by decide) lf_X7_80 (v := .int (gi S 2 (q2) (7))) rfl dX7_client_82 ?_
        exact z_iret hM hlk hr rfl hW hS (zF.of (by unfold r_X7_client; rw [oel_s hq_2, oel_n hq_13, pif_neg h_19_0, pif_neg h_19_1, pif_neg h_19_2, pif_pos h_19_3]; first | done | rfl) rfl) dX7_client_85
      by_cases h_19_4 : (y) = (4)
      ·
        refine lv_tableIn hM.1 hM.2.1 dX7_client_19 (by rw [h_19_4]; decide) (by rw [h_19_4]; decide) (off := 67) (by rw [h_19_4]; rfl) (tgt := 86) (by decide) ?_
        refine lv_aload_n hM.1 hM.2.1 dX7_client_86 rfl (lv_at hl 1 rfl) ?_
        refine z_get hM hW zc2 hd_2 rfl 8 (by decide) lf_X7_171 (v := .int (gi S 2 (q2) (8))) rfl dX7_client_87 ?_
        exact z_iret hM hlk hr rfl hW hS (zF.of (by unfold r_X7_client; rw [oel_s hq_2, oel_n hq_13, pif_neg h_19_0, pif_neg h_19_1, pif_neg h_19_2, pif_neg h_19_3, pif_pos h_19_4]; first | done | rfl) rfl) dX7_client_90
      by_cases h_19_5 : (y) = (5)
      ·
        refine lv_tableIn hM.1 hM.2.1 dX7_client_19 (by rw [h_19_5]; decide) (by rw [h_19_5]; decide) (off := 72) (by rw [h_19_5]; rfl) (tgt := 91) (by decide) ?_
        refine lv_aload_n hM.1 hM.2.1 dX7_client_91 rfl (lv_at hl 1 rfl) ?_
        refine z_get hM hW zc2 hd_2 rfl 5 (by decide) lf_X7_192 (v := .int (gi S 2 (q2) (5))) rfl dX7_client_92 ?_
        exact z_iret hM hlk hr rfl hW hS (zF.of (by unfold r_X7_client; rw [oel_s hq_2, oel_n hq_13, pif_neg h_19_0, pif_neg h_19_1, pif_neg h_19_2, pif_neg h_19_3, pif_neg h_19_4, pif_pos h_19_5]; first | done | rfl) rfl) dX7_client_95
      refine lv_tableOut hM.1 hM.2.1 dX7_client_19 (by have n0 : Int32.toInt (y) ≠ 0 := fun q => h_19_0 (Int32.toInt_inj.mp (by rw [q]; rfl)); have n1 : Int32.toInt (y) ≠ 1 := fun q => h_19_1 (Int32.toInt_inj.mp (by rw [q]; rfl)); have n2 : Int32.toInt (y) ≠ 2 := fun q => h_19_2 (Int32.toInt_inj.mp (by rw [q]; rfl)); have n3 : Int32.toInt (y) ≠ 3 := fun q => h_19_3 (Int32.toInt_inj.mp (by rw [q]; rfl)); have n4 : Int32.toInt (y) ≠ 4 := fun q => h_19_4 (Int32.toInt_inj.mp (by rw [q]; rfl)); have n5 : Int32.toInt (y) ≠ 5 := fun q => h_19_5 (Int32.toInt_inj.mp (by rw [q]; rfl)); omega) (tgt := 96) (by decide) ?_
      refine lv_iconst (v := (-1)) hM.1 hM.2.1 dX7_client_96 (by decide) ?_
      exact z_iret hM hlk hr rfl hW hS (zF.of (by unfold r_X7_client; rw [oel_s hq_2, oel_n hq_13, pif_neg h_19_0, pif_neg h_19_1, pif_neg h_19_2, pif_neg h_19_3, pif_neg h_19_4, pif_neg h_19_5]; first | done | rfl) rfl) dX7_client_97
    ·
      refine z_getr hM hW zc2 hd_2 rfl 2 (by decide) lf_X7_105 (t := 0) (j := a) rfl hq_13 dX7_client_13 (fun hd_13 => ?_)
      refine lv_astore hM.1 hM.2.1 dX7_client_16 hl (by decide) (lv' := [(4, .ref (Z.1 0 (a))), (3, .ref (Z.1 2 (q2))), (0, .ref (Z.1 7 (0))), (1, .int (x)), (2, .int (y))]) rfl (fun ls hl => ?_)
      refine lv_iload_n hM.1 hM.2.1 dX7_client_18 rfl (lv_at hl 4 rfl) ?_
      by_cases h_19_0 : (y) = (0)
      ·
        refine lv_tableIn hM.1 hM.2.1 dX7_client_19 (by rw [h_19_0]; decide) (by rw [h_19_0]; decide) (off := 37) (by rw [h_19_0]; rfl) (tgt := 56) (by decide) ?_
        refine lv_aload hM.1 hM.2.1 dX7_client_56 (lv_at hl 0 rfl) ?_
        refine lv_ifnonnull hM.1 hM.2.1 dX7_client_58 (tgt := 65) (by decide) ?_
        refine lv_aload hM.1 hM.2.1 dX7_client_65 (lv_at hl 0 rfl) ?_
        refine z_get hM hW zc0 hd_13 rfl 0 (by decide) lf_X7_119 (v := .int (gi S 0 (a) (0))) rfl dX7_client_67 ?_
        exact z_iret hM hlk hr rfl hW hS (zF.of (by unfold r_X7_client; rw [oel_s hq_2, oel_s hq_13, pif_pos h_19_0]; first | done | rfl) rfl) dX7_client_70
      by_cases h_19_1 : (y) = (1)
      ·
        refine lv_tableIn hM.1 hM.2.1 dX7_client_19 (by rw [h_19_1]; decide) (by rw [h_19_1]; decide) (off := 52) (by rw [h_19_1]; rfl) (tgt := 71) (by decide) ?_
        refine lv_aload_n hM.1 hM.2.1 dX7_client_71 rfl (lv_at hl 1 rfl) ?_
        refine z_get hM hW zc2 hd_2 rfl 3 (by decide) lf_X7_189 (v := .int (gi S 2 (q2) (3))) rfl dX7_client_72 ?_
        exact z_iret hM hlk hr rfl hW hS (zF.of (by unfold r_X7_client; rw [oel_s hq_2, oel_s hq_13, pif_neg h_19_0, pif_pos h_19_1]; first | done | rfl) rfl) dX7_client_75
      by_cases h_19_2 : (y) = (2)
      ·
        refine lv_tableIn hM.1 hM.2.1 dX7_client_19 (by rw [h_19_2]; decide) (by rw [h_19_2]; decide) (off := 57) (by rw [h_19_2]; rfl) (tgt := 76) (by decide) ?_
        refine lv_aload_n hM.1 hM.2.1 dX7_client_76 rfl (lv_at hl 1 rfl) ?_
        refine z_get hM hW zc2 hd_2 rfl 6 (by decide) lf_X7_77 (v := .int (gi S 2 (q2) (6))) rfl dX7_client_77 ?_
        exact z_iret hM hlk hr rfl hW hS (zF.of (by unfold r_X7_client; rw [oel_s hq_2, oel_s hq_13, pif_neg h_19_0, pif_neg h_19_1, pif_pos h_19_2]; first | done | rfl) rfl) dX7_client_80
      by_cases h_19_3 : (y) = (3)
      ·
        refine lv_tableIn hM.1 hM.2.1 dX7_client_19 (by rw [h_19_3]; decide) (by rw [h_19_3]; decide) (off := 62) (by rw [h_19_3]; rfl) (tgt := 81) (by decide) ?_
        refine lv_aload_n hM.1 hM.2.1 dX7_client_81 rfl (lv_at hl 1 rfl) ?_
        refine z_get hM hW zc2 hd_2 rfl 7 (by decide) lf_X7_80 (v := .int (gi S 2 (q2) (7))) rfl dX7_client_82 ?_
        exact z_iret hM hlk hr rfl hW hS (zF.of (by unfold r_X7_client; rw [oel_s hq_2, oel_s hq_13, pif_neg h_19_0, pif_neg h_19_1, pif_neg h_19_2, pif_pos h_19_3]; first | done | rfl) rfl) dX7_client_85
      by_cases h_19_4 : (y) = (4)
      ·
        refine lv_tableIn hM.1 hM.2.1 dX7_client_19 (by rw [h_19_4]; decide) (by rw [h_19_4]; decide) (off := 67) (by rw [h_19_4]; rfl) (tgt := 86) (by decide) ?_
        refine lv_aload_n hM.1 hM.2.1 dX7_client_86 rfl (lv_at hl 1 rfl) ?_
        refine z_get hM hW zc2 hd_2 rfl 8 (by decide) lf_X7_171 (v := .int (gi S 2 (q2) (8))) rfl dX7_client_87 ?_
        exact z_iret hM hlk hr rfl hW hS (zF.of (by unfold r_X7_client; rw [oel_s hq_2, oel_s hq_13, pif_neg h_19_0, pif_neg h_19_1, pif_neg h_19_2, pif_neg h_19_3, pif_pos h_19_4]; first | done | rfl) rfl) dX7_client_90
      by_cases h_19_5 : (y) = (5)
      ·
        refine lv_tableIn hM.1 hM.2.1 dX7_client_19 (by rw [h_19_5]; decide) (by rw [h_19_5]; decide) (off := 72) (by rw [h_19_5]; rfl) (tgt := 91) (by decide) ?_
        refine lv_aload_n hM.1 hM.2.1 dX7_client_91 rfl (lv_at hl 1 rfl) ?_
        refine z_get hM hW zc2 hd_2 rfl 5 (by decide) lf_X7_192 (v := .int (gi S 2 (q2) (5))) rfl dX7_client_92 ?_
        exact z_iret hM hlk hr rfl hW hS (zF.of (by unfold r_X7_client; rw [oel_s hq_2, oel_s hq_13, pif_neg h_19_0, pif_neg h_19_1, pif_neg h_19_2, pif_neg h_19_3, pif_neg h_19_4, pif_pos h_19_5]; first | done | rfl) rfl) dX7_client_95
      refine lv_tableOut hM.1 hM.2.1 dX7_client_19 (by have n0 : Int32.toInt (y) ≠ 0 := fun q => h_19_0 (Int32.toInt_inj.mp (by rw [q]; rfl)); have n1 : Int32.toInt (y) ≠ 1 := fun q => h_19_1 (Int32.toInt_inj.mp (by rw [q]; rfl)); have n2 : Int32.toInt (y) ≠ 2 := fun q => h_19_2 (Int32.toInt_inj.mp (by rw [q]; rfl)); have n3 : Int32.toInt (y) ≠ 3 := fun q => h_19_3 (Int32.toInt_inj.mp (by rw [q]; rfl)); have n4 : Int32.toInt (y) ≠ 4 := fun q => h_19_4 (Int32.toInt_inj.mp (by rw [q]; rfl)); have n5 : Int32.toInt (y) ≠ 5 := fun q => h_19_5 (Int32.toInt_inj.mp (by rw [q]; rfl)); omega) (tgt := 96) (by decide) ?_
      refine lv_iconst (v := (-1)) hM.1 hM.2.1 dX7_client_96 (by decide) ?_
      exact z_iret hM hlk hr rfl hW hS (zF.of (by unfold r_X7_client; rw [oel_s hq_2, oel_s hq_13, pif_neg h_19_0, pif_neg h_19_1, pif_neg h_19_2, pif_neg h_19_3, pif_neg h_19_4, pif_neg h_19_5]; first | done | rfl) rfl) dX7_client_97

noncomputable def r_X7_air (S : zS) (n : Nat) (x y : Int32) : Int32 := 
  (oel (r_X1_at S (pmR S.2.2) (x)) ((-1)) (fun q5 => 
    (pif ((y) = (0)) 
      (pif ((gi S 4 (q5) (1)) = (0)) (0) (1)) 
      (pif ((y) = (1)) (gi S 4 (q5) (2)) 
        (pif ((y) = (2)) (gi S 4 (q5) (3)) 
          (pif ((y) = (3)) (gi S 4 (q5) (4)) 
            (pif ((y) = (4)) (gi S 4 (q5) (5)) 
              (pif ((y) = (5)) (gi S 6 (20 + q5) (0)) 
                (pif ((y) = (6)) (gi S 6 (20 + q5) (1)) 
                  (pif ((y) = (7)) (gi S 4 (q5) (8)) 
                    (pif ((y) = (8)) (gi S 4 (q5) (6)) ((-1)))))))))))))
set_option maxHeartbeats 4000000 in
set_option maxRecDepth 100000 in
theorem c_X7_air {l : Launch} {D : va_G} {ar : Nat → ClassId} {A : Nat → Prop} {Z : zZ} {S : zS} {n : Nat} {x y : Int32} (hV : zV n Z S.2.2)  : zMet l yX7_air prog_1_method_18_code 4 (some .int) ({ frames := 1, cells := 0, slots := 0, locals := 21 } : Room) D ar A Z S [.ref (Z.1 7 (0)), .int (x), .int (y)] rvI (zF (r_X7_air S n x y) Z S) := by
  refine z_body (by decide +kernel) (Nat.le_of_ble_eq_true rfl) ?_
  intro pX eX sX mX bX methX cX ls hM hr hlk hml hin hl hW hlo
  have hM : zM pX cX mX _ sX prog_1_method_18_code RX7 D ar := hM
  have hS : va_S A sX.heap sX.heap [] := va_S.rf
  have hl : lv_has ls 4 [(0, .ref (Z.1 7 (0))), (1, .int (x)), (2, .int (y))] := hl
  refine lv_aload_n hM.1 hM.2.1 dX7_air_0 rfl (lv_at hl 0 rfl) ?_
  refine z_getr hM hW zc7 hV.d7 rfl 4 (by decide) lf_X7_65 (t := 1) (j := 0) rfl hV.r74 dX7_air_1 (fun hd1_1 => ?_)
  refine lv_iload_n hM.1 hM.2.1 dX7_air_4 rfl (lv_at hl 1 rfl) ?_
  refine z_Vr hM (hml.trans hl.1.symm) hW hS hlo zc1 hd1_1 rfl zyX1_at lm_X7_122 li_yX1_at le_yX1_at (As := [.int (x)]) (rest := []) (c_X1_at hV.d1 hV.r10 hV.l15 hV.pm) rfl rfl (Nat.le_of_ble_eq_true rfl) ⟨Nat.le_of_ble_eq_true rfl, Nat.le_of_ble_eq_true rfl⟩ ⟨Nat.le_of_ble_eq_true rfl, Nat.le_of_ble_eq_true rfl⟩ dX7_air_5 (fun H locs hW hS => ?_)
  rcases hq_5 : r_X1_at S (pmR S.2.2) (x) with _ | q5
  ·
    refine lv_astore_nN hM.1 hM.2.1 dX7_air_8 rfl hl (by decide) (lv' := [(3, .null), (0, .ref (Z.1 7 (0))), (1, .int (x)), (2, .int (y))]) rfl (fun ls hl => ?_)
    refine lv_aload_nN hM.1 hM.2.1 dX7_air_9 rfl (lv_at hl 0 rfl) ?_
    refine lv_ifnonnullN hM.1 hM.2.1 dX7_air_10 ?_
    refine lv_iconst (v := (-1)) hM.1 hM.2.1 dX7_air_13 (by decide) ?_
    exact z_iret hM hlk hr rfl hW hS (zF.of (by unfold r_X7_air; rw [oel_n hq_5]; first | done | rfl) rfl) dX7_air_14
  ·
    obtain ⟨he_5, hb_5⟩ := rAt_some hV hq_5
    have hd_5 := hV.d4 hb_5
    refine lv_astore_n hM.1 hM.2.1 dX7_air_8 rfl hl (by decide) (lv' := [(3, .ref (Z.1 4 (q5))), (0, .ref (Z.1 7 (0))), (1, .int (x)), (2, .int (y))]) rfl (fun ls hl => ?_)
    refine lv_aload_n hM.1 hM.2.1 dX7_air_9 rfl (lv_at hl 0 rfl) ?_
    refine lv_ifnonnull hM.1 hM.2.1 dX7_air_10 (tgt := 15) (by decide) ?_
    refine lv_iload_n hM.1 hM.2.1 dX7_air_15 rfl (lv_at hl 3 rfl) ?_
    by_cases h_16_0 : (y) = (0)
    ·
      refine lv_tableIn hM.1 hM.2.1 dX7_air_16 (by rw [h_16_0]; decide) (by rw [h_16_0]; decide) (off := 52) (by rw [h_16_0]; rfl) (tgt := 68) (by decide) ?_
      refine lv_aload_n hM.1 hM.2.1 dX7_air_68 rfl (lv_at hl 0 rfl) ?_
      refine z_get hM hW zc4 hd_5 rfl 1 (by decide) lf_X7_134 (v := .int (gi S 4 (q5) (1))) rfl dX7_air_69 ?_
      refine lv_if_eq hM.1 hM.2.1 dX7_air_72 (tgt := 79) (by decide) (fun h_72 => ?_) (fun h_72 => ?_)
      ·
        refine lv_iconst (v := 0) hM.1 hM.2.1 dX7_air_79 (by decide) ?_
        exact z_iret hM hlk hr rfl hW hS (zF.of (by unfold r_X7_air; rw [oel_s hq_5, pif_pos h_16_0, pif_pos h_72]; first | done | rfl) rfl) dX7_air_80
      ·
        refine lv_iconst (v := 1) hM.1 hM.2.1 dX7_air_75 (by decide) ?_
        refine lv_goto hM.1 hM.2.1 dX7_air_76 (tgt := 80) (by decide) ?_
        exact z_iret hM hlk hr rfl hW hS (zF.of (by unfold r_X7_air; rw [oel_s hq_5, pif_pos h_16_0, pif_neg h_72]; first | done | rfl) rfl) dX7_air_80
    by_cases h_16_1 : (y) = (1)
    ·
      refine lv_tableIn hM.1 hM.2.1 dX7_air_16 (by rw [h_16_1]; decide) (by rw [h_16_1]; decide) (off := 65) (by rw [h_16_1]; rfl) (tgt := 81) (by decide) ?_
      refine lv_aload_n hM.1 hM.2.1 dX7_air_81 rfl (lv_at hl 0 rfl) ?_
      refine z_get hM hW zc4 hd_5 rfl 2 (by decide) lf_X7_195 (v := .int (gi S 4 (q5) (2))) rfl dX7_air_82 ?_
      exact z_iret hM hlk hr rfl hW hS (zF.of (by unfold r_X7_air; rw [oel_s hq_5, pif_neg h_16_0, pif_pos h_16_1]; first | done | rfl) rfl) dX7_air_85
    by_cases h_16_2 : (y) = (2)
    ·
      refine lv_tableIn hM.1 hM.2.1 dX7_air_16 (by rw [h_16_2]; decide) (by rw [h_16_2]; decide) (off := 70) (by rw [h_16_2]; rfl) (tgt := 86) (by decide) ?_
      refine lv_aload_n hM.1 hM.2.1 dX7_air_86 rfl (lv_at hl 0 rfl) ?_
      refine z_get hM hW zc4 hd_5 rfl 3 (by decide) lf_X7_198 (v := .int (gi S 4 (q5) (3))) rfl dX7_air_87 ?_
      exact z_iret hM hlk hr rfl hW hS (zF.of (by unfold r_X7_air; rw [oel_s hq_5, pif_neg h_16_0, pif_neg h_16_1, pif_pos h_16_2]; first | done | rfl) rfl) dX7_air_90
    by_cases h_16_3 : (y) = (3)
    ·
      refine lv_tableIn hM.1 hM.2.1 dX7_air_16 (by rw [h_16_3]; decide) (by rw [h_16_3]; decide) (off := 75) (by rw [h_16_3]; rfl) (tgt := 91) (by decide) ?_
      refine lv_aload_n hM.1 hM.2.1 dX7_air_91 rfl (lv_at hl 0 rfl) ?_
      refine z_get hM hW zc4 hd_5 rfl 4 (by decide) lf_X7_201 (v := .int (gi S 4 (q5) (4))) rfl dX7_air_92 ?_
      exact z_iret hM hlk hr rfl hW hS (zF.of (by unfold r_X7_air; rw [oel_s hq_5, pif_neg h_16_0, pif_neg h_16_1, pif_neg h_16_2, pif_pos h_16_3]; first | done | rfl) rfl) dX7_air_95
    by_cases h_16_4 : (y) = (4)
    ·
      refine lv_tableIn hM.1 hM.2.1 dX7_air_16 (by rw [h_16_4]; decide) (by rw [h_16_4]; decide) (off := 80) (by rw [h_16_4]; rfl) (tgt := 96) (by decide) ?_
      refine lv_aload_n hM.1 hM.2.1 dX7_air_96 rfl (lv_at hl 0 rfl) ?_
      refine z_get hM hW zc4 hd_5 rfl 5 (by decide) lf_X7_204 (v := .int (gi S 4 (q5) (5))) rfl dX7_air_97 ?_
      exact z_iret hM hlk hr rfl hW hS (zF.of (by unfold r_X7_air; rw [oel_s hq_5, pif_neg h_16_0, pif_neg h_16_1, pif_neg h_16_2, pif_neg h_16_3, pif_pos h_16_4]; first | done | rfl) rfl) dX7_air_100
    by_cases h_16_5 : (y) = (5)
    ·
      refine lv_tableIn hM.1 hM.2.1 dX7_air_16 (by rw [h_16_5]; decide) (by rw [h_16_5]; decide) (off := 85) (by rw [h_16_5]; rfl) (tgt := 101) (by decide) ?_
      refine lv_aload_n hM.1 hM.2.1 dX7_air_101 rfl (lv_at hl 0 rfl) ?_
      refine z_getr hM hW zc4 hd_5 rfl 0 (by decide) lf_X7_205 (t := 6) (j := 20 + q5) rfl (hV.r4 hb_5) dX7_air_102 (fun hd2_102 => ?_)
      refine z_get hM hW zc6 hd2_102 rfl 0 (by decide) lf_X7_176 (v := .int (gi S 6 (20 + q5) (0))) rfl dX7_air_105 ?_
      exact z_iret hM hlk hr rfl hW hS (zF.of (by unfold r_X7_air; rw [oel_s hq_5, pif_neg h_16_0, pif_neg h_16_1, pif_neg h_16_2, pif_neg h_16_3, pif_neg h_16_4, pif_pos h_16_5]; first | done | rfl) rfl) dX7_air_108
    by_cases h_16_6 : (y) = (6)
    ·
      refine lv_tableIn hM.1 hM.2.1 dX7_air_16 (by rw [h_16_6]; decide) (by rw [h_16_6]; decide) (off := 93) (by rw [h_16_6]; rfl) (tgt := 109) (by decide) ?_
      refine lv_aload_n hM.1 hM.2.1 dX7_air_109 rfl (lv_at hl 0 rfl) ?_
      refine z_getr hM hW zc4 hd_5 rfl 0 (by decide) lf_X7_205 (t := 6) (j := 20 + q5) rfl (hV.r4 hb_5) dX7_air_110 (fun hd3_110 => ?_)
      refine z_get hM hW zc6 hd3_110 rfl 1 (by decide) lf_X7_181 (v := .int (gi S 6 (20 + q5) (1))) rfl dX7_air_113 ?_
      exact z_iret hM hlk hr rfl hW hS (zF.of (by unfold r_X7_air; rw [oel_s hq_5, pif_neg h_16_0, pif_neg h_16_1, pif_neg h_16_2, pif_neg h_16_3, pif_neg h_16_4, pif_neg h_16_5, pif_pos h_16_6]; first | done | rfl) rfl) dX7_air_116
    by_cases h_16_7 : (y) = (7)
    ·
      refine lv_tableIn hM.1 hM.2.1 dX7_air_16 (by rw [h_16_7]; decide) (by rw [h_16_7]; decide) (off := 101) (by rw [h_16_7]; rfl) (tgt := 117) (by decide) ?_
      refine lv_aload_n hM.1 hM.2.1 dX7_air_117 rfl (lv_at hl 0 rfl) ?_
      refine z_get hM hW zc4 hd_5 rfl 8 (by decide) lf_X7_206 (v := .int (gi S 4 (q5) (8))) rfl dX7_air_118 ?_
      exact z_iret hM hlk hr rfl hW hS (zF.of (by unfold r_X7_air; rw [oel_s hq_5, pif_neg h_16_0, pif_neg h_16_1, pif_neg h_16_2, pif_neg h_16_3, pif_neg h_16_4, pif_neg h_16_5, pif_neg h_16_6, pif_pos h_16_7]; first | done | rfl) rfl) dX7_air_121
    by_cases h_16_8 : (y) = (8)
    ·
      refine lv_tableIn hM.1 hM.2.1 dX7_air_16 (by rw [h_16_8]; decide) (by rw [h_16_8]; decide) (off := 106) (by rw [h_16_8]; rfl) (tgt := 122) (by decide) ?_
      refine lv_aload_n hM.1 hM.2.1 dX7_air_122 rfl (lv_at hl 0 rfl) ?_
      refine z_get hM hW zc4 hd_5 rfl 6 (by decide) lf_X7_207 (v := .int (gi S 4 (q5) (6))) rfl dX7_air_123 ?_
      exact z_iret hM hlk hr rfl hW hS (zF.of (by unfold r_X7_air; rw [oel_s hq_5, pif_neg h_16_0, pif_neg h_16_1, pif_neg h_16_2, pif_neg h_16_3, pif_neg h_16_4, pif_neg h_16_5, pif_neg h_16_6, pif_neg h_16_7, pif_pos h_16_8]; first | done | rfl) rfl) dX7_air_126
    refine lv_tableOut hM.1 hM.2.1 dX7_air_16 (by have n0 : Int32.toInt (y) ≠ 0 := fun q => h_16_0 (Int32.toInt_inj.mp (by rw [q]; rfl)); have n1 : Int32.toInt (y) ≠ 1 := fun q => h_16_1 (Int32.toInt_inj.mp (by rw [q]; rfl)); have n2 : Int32.toInt (y) ≠ 2 := fun q => h_16_2 (Int32.toInt_inj.mp (by rw [q]; rfl)); have n3 : Int32.toInt (y) ≠ 3 := fun q => h_16_3 (Int32.toInt_inj.mp (by rw [q]; rfl)); have n4 : Int32.toInt (y) ≠ 4 := fun q => h_16_4 (Int32.toInt_inj.mp (by rw [q]; rfl)); have n5 : Int32.toInt (y) ≠ 5 := fun q => h_16_5 (Int32.toInt_inj.mp (by rw [q]; rfl)); have n6 : Int32.toInt (y) ≠ 6 := fun q => h_16_6 (Int32.toInt_inj.mp (by rw [q]; rfl)); have n7 : Int32.toInt (y) ≠ 7 := fun q => h_16_7 (Int32.toInt_inj.mp (by rw [q]; rfl)); have n8 : Int32.toInt (y) ≠ 8 := fun q => h_16_8 (Int32.toInt_inj.mp (by rw [q]; rfl)); omega) (tgt := 127) (by decide) ?_
    refine lv_iconst (v := (-1)) hM.1 hM.2.1 dX7_air_127 (by decide) ?_
    exact z_iret hM hlk hr rfl hW hS (zF.of (by unfold r_X7_air; rw [oel_s hq_5, pif_neg h_16_0, pif_neg h_16_1, pif_neg h_16_2, pif_neg h_16_3, pif_neg h_16_4, pif_neg h_16_5, pif_neg h_16_6, pif_neg h_16_7, pif_neg h_16_8]; first | done | rfl) rfl) dX7_air_128

noncomputable def r_X7_act (S : zS) (n : Nat) (x y : Int32) : Int32 := 
  (oel (acAt S (x)) ((-1)) (fun q2 => 
    (pif ((y) = (0)) (gi S 0 (q2) (1)) 
      (pif ((y) = (1)) (gi S 0 (q2) (2)) 
        (pif ((y) = (2)) (gi S 0 (q2) (3)) 
          (pif ((y) = (3)) (gi S 0 (q2) (4)) 
            (pif ((y) = (4)) (gi S 0 (q2) (5)) 
              (pif ((y) = (5)) (gi S 0 (q2) (6)) 
                (pif ((y) = (6)) (gi S 0 (q2) (7)) ((-1)))))))))))
set_option maxHeartbeats 4000000 in
set_option maxRecDepth 100000 in
theorem c_X7_act {l : Launch} {D : va_G} {ar : Nat → ClassId} {A : Nat → Prop} {Z : zZ} {S : zS} {n : Nat} {x y : Int32} (hV : zV n Z S.2.2)  : zMet l yX7_act prog_1_method_19_code 4 (some .int) ({ frames := 1, cells := 0, slots := 0, locals := 21 } : Room) D ar A Z S [.ref (Z.1 7 (0)), .int (x), .int (y)] rvI (zF (r_X7_act S n x y) Z S) := by
  refine z_body (by decide +kernel) (Nat.le_of_ble_eq_true rfl) ?_
  intro pX eX sX mX bX methX cX ls hM hr hlk hml hin hl hW hlo
  have hM : zM pX cX mX _ sX prog_1_method_19_code RX7 D ar := hM
  have hS : va_S A sX.heap sX.heap [] := va_S.rf
  have hl : lv_has ls 4 [(0, .ref (Z.1 7 (0))), (1, .int (x)), (2, .int (y))] := hl
  refine lv_aload_n hM.1 hM.2.1 dX7_act_0 rfl (lv_at hl 0 rfl) ?_
  refine lv_iload_n hM.1 hM.2.1 dX7_act_1 rfl (lv_at hl 1 rfl) ?_
  refine z_Vr hM (hml.trans hl.1.symm) hW hS hlo zc7 hV.d7 rfl zyX7_actAt lm_X7_210 li_yX7_actAt le_yX7_actAt (As := [.int (x)]) (rest := []) (c_X7_actAt hV) rfl rfl (Nat.le_of_ble_eq_true rfl) ⟨Nat.le_of_ble_eq_true rfl, Nat.le_of_ble_eq_true rfl⟩ ⟨Nat.le_of_ble_eq_true rfl, Nat.le_of_ble_eq_true rfl⟩ dX7_act_2 (fun H locs hW hS => ?_)
  rcases hq_2 : acAt S (x) with _ | q2
  ·
    refine lv_astore_nN hM.1 hM.2.1 dX7_act_5 rfl hl (by decide) (lv' := [(3, .null), (0, .ref (Z.1 7 (0))), (1, .int (x)), (2, .int (y))]) rfl (fun ls hl => ?_)
    refine lv_aload_nN hM.1 hM.2.1 dX7_act_6 rfl (lv_at hl 0 rfl) ?_
    refine lv_ifnonnullN hM.1 hM.2.1 dX7_act_7 ?_
    refine lv_iconst (v := (-1)) hM.1 hM.2.1 dX7_act_10 (by decide) ?_
    exact z_iret hM hlk hr rfl hW hS (zF.of (by unfold r_X7_act; rw [oel_n hq_2]; first | done | rfl) rfl) dX7_act_11
  ·
    have hd_2 := acAt_dom hV hq_2
    refine lv_astore_n hM.1 hM.2.1 dX7_act_5 rfl hl (by decide) (lv' := [(3, .ref (Z.1 0 (q2))), (0, .ref (Z.1 7 (0))), (1, .int (x)), (2, .int (y))]) rfl (fun ls hl => ?_)
    refine lv_aload_n hM.1 hM.2.1 dX7_act_6 rfl (lv_at hl 0 rfl) ?_
    refine lv_ifnonnull hM.1 hM.2.1 dX7_act_7 (tgt := 12) (by decide) ?_
    refine lv_iload_n hM.1 hM.2.1 dX7_act_12 rfl (lv_at hl 3 rfl) ?_
    by_cases h_13_0 : (y) = (0)
    ·
      refine lv_tableIn hM.1 hM.2.1 dX7_act_13 (by rw [h_13_0]; decide) (by rw [h_13_0]; decide) (off := 43) (by rw [h_13_0]; rfl) (tgt := 56) (by decide) ?_
      refine lv_aload_n hM.1 hM.2.1 dX7_act_56 rfl (lv_at hl 0 rfl) ?_
      refine z_get hM hW zc0 hd_2 rfl 1 (by decide) lf_X7_214 (v := .int (gi S 0 (q2) (1))) rfl dX7_act_57 ?_
      exact z_iret hM hlk hr rfl hW hS (zF.of (by unfold r_X7_act; rw [oel_s hq_2, pif_pos h_13_0]; first | done | rfl) rfl) dX7_act_60
    by_cases h_13_1 : (y) = (1)
    ·
      refine lv_tableIn hM.1 hM.2.1 dX7_act_13 (by rw [h_13_1]; decide) (by rw [h_13_1]; decide) (off := 48) (by rw [h_13_1]; rfl) (tgt := 61) (by decide) ?_
      refine lv_aload_n hM.1 hM.2.1 dX7_act_61 rfl (lv_at hl 0 rfl) ?_
      refine z_get hM hW zc0 hd_2 rfl 2 (by decide) lf_X7_217 (v := .int (gi S 0 (q2) (2))) rfl dX7_act_62 ?_
      exact z_iret hM hlk hr rfl hW hS (zF.of (by unfold r_X7_act; rw [oel_s hq_2, pif_neg h_13_0, pif_pos h_13_1]; first | done | rfl) rfl) dX7_act_65
    by_cases h_13_2 : (y) = (2)
    ·
      refine lv_tableIn hM.1 hM.2.1 dX7_act_13 (by rw [h_13_2]; decide) (by rw [h_13_2]; decide) (off := 53) (by rw [h_13_2]; rfl) (tgt := 66) (by decide) ?_
      refine lv_aload_n hM.1 hM.2.1 dX7_act_66 rfl (lv_at hl 0 rfl) ?_
      refine z_get hM hW zc0 hd_2 rfl 3 (by decide) lf_X7_218 (v := .int (gi S 0 (q2) (3))) rfl dX7_act_67 ?_
      exact z_iret hM hlk hr rfl hW hS (zF.of (by unfold r_X7_act; rw [oel_s hq_2, pif_neg h_13_0, pif_neg h_13_1, pif_pos h_13_2]; first | done | rfl) rfl) dX7_act_70
    by_cases h_13_3 : (y) = (3)
    ·
      refine lv_tableIn hM.1 hM.2.1 dX7_act_13 (by rw [h_13_3]; decide) (by rw [h_13_3]; decide) (off := 58) (by rw [h_13_3]; rfl) (tgt := 71) (by decide) ?_
      refine lv_aload_n hM.1 hM.2.1 dX7_act_71 rfl (lv_at hl 0 rfl) ?_
      refine z_get hM hW zc0 hd_2 rfl 4 (by decide) lf_X7_221 (v := .int (gi S 0 (q2) (4))) rfl dX7_act_72 ?_
      exact z_iret hM hlk hr rfl hW hS (zF.of (by unfold r_X7_act; rw [oel_s hq_2, pif_neg h_13_0, pif_neg h_13_1, pif_neg h_13_2, pif_pos h_13_3]; first | done | rfl) rfl) dX7_act_75
    by_cases h_13_4 : (y) = (4)
    ·
      refine lv_tableIn hM.1 hM.2.1 dX7_act_13 (by rw [h_13_4]; decide) (by rw [h_13_4]; decide) (off := 63) (by rw [h_13_4]; rfl) (tgt := 76) (by decide) ?_
      refine lv_aload_n hM.1 hM.2.1 dX7_act_76 rfl (lv_at hl 0 rfl) ?_
      refine z_get hM hW zc0 hd_2 rfl 5 (by decide) lf_X7_224 (v := .int (gi S 0 (q2) (5))) rfl dX7_act_77 ?_
      exact z_iret hM hlk hr rfl hW hS (zF.of (by unfold r_X7_act; rw [oel_s hq_2, pif_neg h_13_0, pif_neg h_13_1, pif_neg h_13_2, pif_neg h_13_3, pif_pos h_13_4]; first | done | rfl) rfl) dX7_act_80
    by_cases h_13_5 : (y) = (5)
    ·
      refine lv_tableIn hM.1 hM.2.1 dX7_act_13 (by rw [h_13_5]; decide) (by rw [h_13_5]; decide) (off := 68) (by rw [h_13_5]; rfl) (tgt := 81) (by decide) ?_
      refine lv_aload_n hM.1 hM.2.1 dX7_act_81 rfl (lv_at hl 0 rfl) ?_
      refine z_get hM hW zc0 hd_2 rfl 6 (by decide) lf_X7_225 (v := .int (gi S 0 (q2) (6))) rfl dX7_act_82 ?_
      exact z_iret hM hlk hr rfl hW hS (zF.of (by unfold r_X7_act; rw [oel_s hq_2, pif_neg h_13_0, pif_neg h_13_1, pif_neg h_13_2, pif_neg h_13_3, pif_neg h_13_4, pif_pos h_13_5]; first | done | rfl) rfl) dX7_act_85
    by_cases h_13_6 : (y) = (6)
    ·
      refine lv_tableIn hM.1 hM.2.1 dX7_act_13 (by rw [h_13_6]; decide) (by rw [h_13_6]; decide) (off := 73) (by rw [h_13_6]; rfl) (tgt := 86) (by decide) ?_
      refine lv_aload_n hM.1 hM.2.1 dX7_act_86 rfl (lv_at hl 0 rfl) ?_
      refine z_get hM hW zc0 hd_2 rfl 7 (by decide) lf_X7_226 (v := .int (gi S 0 (q2) (7))) rfl dX7_act_87 ?_
      exact z_iret hM hlk hr rfl hW hS (zF.of (by unfold r_X7_act; rw [oel_s hq_2, pif_neg h_13_0, pif_neg h_13_1, pif_neg h_13_2, pif_neg h_13_3, pif_neg h_13_4, pif_neg h_13_5, pif_pos h_13_6]; first | done | rfl) rfl) dX7_act_90
    refine lv_tableOut hM.1 hM.2.1 dX7_act_13 (by have n0 : Int32.toInt (y) ≠ 0 := fun q => h_13_0 (Int32.toInt_inj.mp (by rw [q]; rfl)); have n1 : Int32.toInt (y) ≠ 1 := fun q => h_13_1 (Int32.toInt_inj.mp (by rw [q]; rfl)); have n2 : Int32.toInt (y) ≠ 2 := fun q => h_13_2 (Int32.toInt_inj.mp (by rw [q]; rfl)); have n3 : Int32.toInt (y) ≠ 3 := fun q => h_13_3 (Int32.toInt_inj.mp (by rw [q]; rfl)); have n4 : Int32.toInt (y) ≠ 4 := fun q => h_13_4 (Int32.toInt_inj.mp (by rw [q]; rfl)); have n5 : Int32.toInt (y) ≠ 5 := fun q => h_13_5 (Int32.toInt_inj.mp (by rw [q]; rfl)); have n6 : Int32.toInt (y) ≠ 6 := fun q => h_13_6 (Int32.toInt_inj.mp (by rw [q]; rfl)); omega) (tgt := 91) (by decide) ?_
    refine lv_iconst (v := (-1)) hM.1 hM.2.1 dX7_act_91 (by decide) ?_
    exact z_iret hM hlk hr rfl hW hS (zF.of (by unfold r_X7_act; rw [oel_s hq_2, pif_neg h_13_0, pif_neg h_13_1, pif_neg h_13_2, pif_neg h_13_3, pif_neg h_13_4, pif_neg h_13_5, pif_neg h_13_6]; first | done | rfl) rfl) dX7_act_92

noncomputable def r_X7_value (S : zS) (n : Nat) (x : Int32) : Int64 := 
  (oel (acAt S (x)) (0) (fun q2 => (gj S 0 (q2) (8))))
set_option maxHeartbeats 4000000 in
set_option maxRecDepth 100000 in
theorem c_X7_value {l : Launch} {D : va_G} {ar : Nat → ClassId} {A : Nat → Prop} {Z : zZ} {S : zS} {n : Nat} {x : Int32} (hV : zV n Z S.2.2)  : zMet l yX7_value prog_1_method_20_code 3 (some .long) ({ frames := 1, cells := 0, slots := 0, locals := 21 } : Room) D ar A Z S [.ref (Z.1 7 (0)), .int (x)] rvL (zF (r_X7_value S n x) Z S) := by
  refine z_body (by decide +kernel) (Nat.le_of_ble_eq_true rfl) ?_
  intro pX eX sX mX bX methX cX ls hM hr hlk hml hin hl hW hlo
  have hM : zM pX cX mX _ sX prog_1_method_20_code RX7 D ar := hM
  have hS : va_S A sX.heap sX.heap [] := va_S.rf
  have hl : lv_has ls 3 [(0, .ref (Z.1 7 (0))), (1, .int (x))] := hl
  refine lv_aload_n hM.1 hM.2.1 dX7_value_0 rfl (lv_at hl 0 rfl) ?_
  refine lv_iload_n hM.1 hM.2.1 dX7_value_1 rfl (lv_at hl 1 rfl) ?_
  refine z_Vr hM (hml.trans hl.1.symm) hW hS hlo zc7 hV.d7 rfl zyX7_actAt lm_X7_210 li_yX7_actAt le_yX7_actAt (As := [.int (x)]) (rest := []) (c_X7_actAt hV) rfl rfl (Nat.le_of_ble_eq_true rfl) ⟨Nat.le_of_ble_eq_true rfl, Nat.le_of_ble_eq_true rfl⟩ ⟨Nat.le_of_ble_eq_true rfl, Nat.le_of_ble_eq_true rfl⟩ dX7_value_2 (fun H locs hW hS => ?_)
  rcases hq_2 : acAt S (x) with _ | q2
  ·
    refine lv_astore_nN hM.1 hM.2.1 dX7_value_5 rfl hl (by decide) (lv' := [(2, .null), (0, .ref (Z.1 7 (0))), (1, .int (x))]) rfl (fun ls hl => ?_)
    refine lv_aload_nN hM.1 hM.2.1 dX7_value_6 rfl (lv_at hl 0 rfl) ?_
    refine lv_ifnonnullN hM.1 hM.2.1 dX7_value_7 ?_
    refine lv_lconst (v := 0) hM.1 hM.2.1 dX7_value_10 (by decide) ?_
    refine lv_goto hM.1 hM.2.1 dX7_value_11 (tgt := 18) (by decide) ?_
    exact z_lret hM hlk hr hW hS (zF.of (by unfold r_X7_value; rw [oel_n hq_2]; first | done | rfl) rfl) dX7_value_18
  ·
    have hd_2 := acAt_dom hV hq_2
    refine lv_astore_n hM.1 hM.2.1 dX7_value_5 rfl hl (by decide) (lv' := [(2, .ref (Z.1 0 (q2))), (0, .ref (Z.1 7 (0))), (1, .int (x))]) rfl (fun ls hl => ?_)
    refine lv_aload_n hM.1 hM.2.1 dX7_value_6 rfl (lv_at hl 0 rfl) ?_
    refine lv_ifnonnull hM.1 hM.2.1 dX7_value_7 (tgt := 14) (by decide) ?_
    refine lv_aload_n hM.1 hM.2.1 dX7_value_14 rfl (lv_at hl 0 rfl) ?_
    refine z_get hM hW zc0 hd_2 rfl 8 (by decide) lf_X7_101 (v := .long (gj S 0 (q2) (8))) rfl dX7_value_15 ?_
    exact z_lret hM hlk hr hW hS (zF.of (by unfold r_X7_value; rw [oel_s hq_2]; first | done | rfl) rfl) dX7_value_18

noncomputable def r_X7_table (S : zS) (n : Nat) (x y : Int32) : Int32 := 
  (oel (tbAt S (x)) ((-1)) (fun q2 => 
    (pif ((y) < (0)) 
      (pif ((y) = (7)) (gi S 5 (q2) (1)) 
        (pif ((y) = (8)) (gi S 5 (q2) (2)) ((-1)))) 
      (pif ((nI n) ≤ (y)) 
        (pif ((y) = (7)) (gi S 5 (q2) (1)) 
          (pif ((y) = (8)) (gi S 5 (q2) (2)) ((-1)))) (gi S 9 (1 + q2) (ix (y)))))))
set_option maxHeartbeats 4000000 in
set_option maxRecDepth 100000 in
theorem c_X7_table {l : Launch} {D : va_G} {ar : Nat → ClassId} {A : Nat → Prop} {Z : zZ} {S : zS} {n : Nat} {x y : Int32} (hV : zV n Z S.2.2)  : zMet l yX7_table prog_1_method_21_code 4 (some .int) ({ frames := 1, cells := 0, slots := 0, locals := 21 } : Room) D ar A Z S [.ref (Z.1 7 (0)), .int (x), .int (y)] rvI (zF (r_X7_table S n x y) Z S) := by
  refine z_body (by decide +kernel) (Nat.le_of_ble_eq_true rfl) ?_
  intro pX eX sX mX bX methX cX ls hM hr hlk hml hin hl hW hlo
  have hM : zM pX cX mX _ sX prog_1_method_21_code RX7 D ar := hM
  have hS : va_S A sX.heap sX.heap [] := va_S.rf
  have hl : lv_has ls 4 [(0, .ref (Z.1 7 (0))), (1, .int (x)), (2, .int (y))] := hl
  refine lv_aload_n hM.1 hM.2.1 dX7_table_0 rfl (lv_at hl 0 rfl) ?_
  refine lv_iload_n hM.1 hM.2.1 dX7_table_1 rfl (lv_at hl 1 rfl) ?_
  refine z_Vr hM (hml.trans hl.1.symm) hW hS hlo zc7 hV.d7 rfl zyX7_tableAt lm_X7_229 li_yX7_tableAt le_yX7_tableAt (As := [.int (x)]) (rest := []) (c_X7_tableAt hV) rfl rfl (Nat.le_of_ble_eq_true rfl) ⟨Nat.le_of_ble_eq_true rfl, Nat.le_of_ble_eq_true rfl⟩ ⟨Nat.le_of_ble_eq_true rfl, Nat.le_of_ble_eq_true rfl⟩ dX7_table_2 (fun H locs hW hS => ?_)
  rcases hq_2 : tbAt S (x) with _ | q2
  ·
    refine lv_astore_nN hM.1 hM.2.1 dX7_table_5 rfl hl (by decide) (lv' := [(3, .null), (0, .ref (Z.1 7 (0))), (1, .int (x)), (2, .int (y))]) rfl (fun ls hl => ?_)
    refine lv_aload_nN hM.1 hM.2.1 dX7_table_6 rfl (lv_at hl 0 rfl) ?_
    refine lv_ifnonnullN hM.1 hM.2.1 dX7_table_7 ?_
    refine lv_iconst (v := (-1)) hM.1 hM.2.1 dX7_table_10 (by decide) ?_
    exact z_iret hM hlk hr rfl hW hS (zF.of (by unfold r_X7_table; rw [oel_n hq_2]; first | done | rfl) rfl) dX7_table_11
  ·
    obtain ⟨he_2, hb_2, hd_2, hr5_2, hl9_2⟩ := tbAt_some hV hq_2
    refine lv_astore_n hM.1 hM.2.1 dX7_table_5 rfl hl (by decide) (lv' := [(3, .ref (Z.1 5 (q2))), (0, .ref (Z.1 7 (0))), (1, .int (x)), (2, .int (y))]) rfl (fun ls hl => ?_)
    refine lv_aload_n hM.1 hM.2.1 dX7_table_6 rfl (lv_at hl 0 rfl) ?_
    refine lv_ifnonnull hM.1 hM.2.1 dX7_table_7 (tgt := 12) (by decide) ?_
    refine lv_iload_n hM.1 hM.2.1 dX7_table_12 rfl (lv_at hl 3 rfl) ?_
    refine lv_if_lt hM.1 hM.2.1 dX7_table_13 (tgt := 32) (by decide) (fun h_13 => ?_) (fun h_13 => ?_)
    ·
      refine lv_iload_n hM.1 hM.2.1 dX7_table_32 rfl (lv_at hl 3 rfl) ?_
      by_cases h_33_7 : (y) = (7)
      ·
        refine lv_lookup hM.1 hM.2.1 dX7_table_33 (by decide) (off := 27) (by rw [h_33_7]; decide) (tgt := 60) (by decide) ?_
        refine lv_aload_n hM.1 hM.2.1 dX7_table_60 rfl (lv_at hl 0 rfl) ?_
        refine z_get hM hW zc5 hd_2 rfl 1 (by decide) lf_X7_236 (v := .int (gi S 5 (q2) (1))) rfl dX7_table_61 ?_
        exact z_iret hM hlk hr rfl hW hS (zF.of (by unfold r_X7_table; rw [oel_s hq_2, pif_pos h_13, pif_pos h_33_7]; first | done | rfl) rfl) dX7_table_64
      by_cases h_33_8 : (y) = (8)
      ·
        refine lv_lookup hM.1 hM.2.1 dX7_table_33 (by decide) (off := 32) (by rw [h_33_8]; decide) (tgt := 65) (by decide) ?_
        refine lv_aload_n hM.1 hM.2.1 dX7_table_65 rfl (lv_at hl 0 rfl) ?_
        refine z_get hM hW zc5 hd_2 rfl 2 (by decide) lf_X7_239 (v := .int (gi S 5 (q2) (2))) rfl dX7_table_66 ?_
        exact z_iret hM hlk hr rfl hW hS (zF.of (by unfold r_X7_table; rw [oel_s hq_2, pif_pos h_13, pif_neg h_33_7, pif_pos h_33_8]; first | done | rfl) rfl) dX7_table_69
      refine lv_lookup hM.1 hM.2.1 dX7_table_33 (by decide) (off := 37) (by have n7 : Int32.toInt (y) ≠ 7 := fun q => h_33_7 (Int32.toInt_inj.mp (by rw [q]; rfl)); have n8 : Int32.toInt (y) ≠ 8 := fun q => h_33_8 (Int32.toInt_inj.mp (by rw [q]; rfl)); simp [Op.lookupswitch.offset, Ne.symm n7, Ne.symm n8]) (tgt := 70) (by decide) ?_
      refine lv_iconst (v := (-1)) hM.1 hM.2.1 dX7_table_70 (by decide) ?_
      exact z_iret hM hlk hr rfl hW hS (zF.of (by unfold r_X7_table; rw [oel_s hq_2, pif_pos h_13, pif_neg h_33_7, pif_neg h_33_8]; first | done | rfl) rfl) dX7_table_71
    ·
      refine lv_iload_n hM.1 hM.2.1 dX7_table_16 rfl (lv_at hl 3 rfl) ?_
      refine lv_aload_n hM.1 hM.2.1 dX7_table_17 rfl (lv_at hl 0 rfl) ?_
      refine z_getr hM hW zc5 hd_2 rfl 0 (by decide) lf_X7_233 (t := 9) (j := 1 + q2) rfl hr5_2 dX7_table_18 (fun hd1_18 => ?_)
      refine z_alen hM hW hd1_18 (by decide) rfl 0 rfl (v := nI n) (by rw [hl9_2]; rfl) dX7_table_21 ?_
      refine lv_icmp_ge hM.1 hM.2.1 dX7_table_22 (tgt := 32) (by decide) (fun h_22 => ?_) (fun h_22 => ?_)
      ·
        refine lv_iload_n hM.1 hM.2.1 dX7_table_32 rfl (lv_at hl 3 rfl) ?_
        by_cases h_33_7 : (y) = (7)
        ·
          refine lv_lookup hM.1 hM.2.1 dX7_table_33 (by decide) (off := 27) (by rw [h_33_7]; decide) (tgt := 60) (by decide) ?_
          refine lv_aload_n hM.1 hM.2.1 dX7_table_60 rfl (lv_at hl 0 rfl) ?_
          refine z_get hM hW zc5 hd_2 rfl 1 (by decide) lf_X7_236 (v := .int (gi S 5 (q2) (1))) rfl dX7_table_61 ?_
          exact z_iret hM hlk hr rfl hW hS (zF.of (by unfold r_X7_table; rw [oel_s hq_2, pif_neg h_13, pif_pos h_22, pif_pos h_33_7]; first | done | rfl) rfl) dX7_table_64
        by_cases h_33_8 : (y) = (8)
        ·
          refine lv_lookup hM.1 hM.2.1 dX7_table_33 (by decide) (off := 32) (by rw [h_33_8]; decide) (tgt := 65) (by decide) ?_
          refine lv_aload_n hM.1 hM.2.1 dX7_table_65 rfl (lv_at hl 0 rfl) ?_
          refine z_get hM hW zc5 hd_2 rfl 2 (by decide) lf_X7_239 (v := .int (gi S 5 (q2) (2))) rfl dX7_table_66 ?_
          exact z_iret hM hlk hr rfl hW hS (zF.of (by unfold r_X7_table; rw [oel_s hq_2, pif_neg h_13, pif_pos h_22, pif_neg h_33_7, pif_pos h_33_8]; first | done | rfl) rfl) dX7_table_69
        refine lv_lookup hM.1 hM.2.1 dX7_table_33 (by decide) (off := 37) (by have n7 : Int32.toInt (y) ≠ 7 := fun q => h_33_7 (Int32.toInt_inj.mp (by rw [q]; rfl)); have n8 : Int32.toInt (y) ≠ 8 := fun q => h_33_8 (Int32.toInt_inj.mp (by rw [q]; rfl)); simp [Op.lookupswitch.offset, Ne.symm n7, Ne.symm n8]) (tgt := 70) (by decide) ?_
        refine lv_iconst (v := (-1)) hM.1 hM.2.1 dX7_table_70 (by decide) ?_
        exact z_iret hM hlk hr rfl hW hS (zF.of (by unfold r_X7_table; rw [oel_s hq_2, pif_neg h_13, pif_pos h_22, pif_neg h_33_7, pif_neg h_33_8]; first | done | rfl) rfl) dX7_table_71
      ·
        refine lv_aload_n hM.1 hM.2.1 dX7_table_25 rfl (lv_at hl 0 rfl) ?_
        refine z_getr hM hW zc5 hd_2 rfl 0 (by decide) lf_X7_233 (t := 9) (j := 1 + q2) rfl hr5_2 dX7_table_26 (fun hd2_26 => ?_)
        refine lv_iload_n hM.1 hM.2.1 dX7_table_29 rfl (lv_at hl 3 rfl) ?_
        refine z_iald hM hW hd2_26 rfl (vin_of h_13 h_22 (by have := hV.n7; omega) hl9_2) (v := gi S 9 (1 + q2) (ix (y))) rfl dX7_table_30 ?_
        exact z_iret hM hlk hr rfl hW hS (zF.of (by unfold r_X7_table; rw [oel_s hq_2, pif_neg h_13, pif_neg h_22]; first | done | rfl) rfl) dX7_table_31

noncomputable def r_X7_about (S : zS) (n : Nat) (x : Int32) : Int32 := 
  (pif ((x) = (0)) (nI n) 
    (pif ((x) = (1)) (gi S 7 (0) (6)) 
      (pif ((x) = (2)) (gi S 7 (0) (7)) 
        (pif ((x) = (3)) (gi S 1 (0) (2)) 
          (pif ((x) = (4)) (gi S 7 (0) (8)) 
            (pif ((x) = (5)) (gi S 1 (0) (3)) ((-1))))))))
set_option maxHeartbeats 4000000 in
set_option maxRecDepth 100000 in
theorem c_X7_about {l : Launch} {D : va_G} {ar : Nat → ClassId} {A : Nat → Prop} {Z : zZ} {S : zS} {n : Nat} {x : Int32} (hV : zV n Z S.2.2)  : zMet l yX7_about prog_1_method_22_code 2 (some .int) ({ frames := 0, cells := 0, slots := 0, locals := 0 } : Room) D ar A Z S [.ref (Z.1 7 (0)), .int (x)] rvI (zF (r_X7_about S n x) Z S) := by
  refine z_body (by decide +kernel) (Nat.le_of_ble_eq_true rfl) ?_
  intro pX eX sX mX bX methX cX ls hM hr hlk hml hin hl hW hlo
  have hM : zM pX cX mX _ sX prog_1_method_22_code RX7 D ar := hM
  have hS : va_S A sX.heap sX.heap [] := va_S.rf
  have hl : lv_has ls 2 [(0, .ref (Z.1 7 (0))), (1, .int (x))] := hl
  refine lv_iload_n hM.1 hM.2.1 dX7_about_0 rfl (lv_at hl 1 rfl) ?_
  by_cases h_1_0 : (x) = (0)
  ·
    refine lv_tableIn hM.1 hM.2.1 dX7_about_1 (by rw [h_1_0]; decide) (by rw [h_1_0]; decide) (off := 39) (by rw [h_1_0]; rfl) (tgt := 40) (by decide) ?_
    refine lv_aload_n hM.1 hM.2.1 dX7_about_40 rfl (lv_at hl 0 rfl) ?_
    refine z_getr hM hW zc7 hV.d7 rfl 0 (by decide) lf_X7_20 (t := 14) (j := 0) rfl hV.r70 dX7_about_41 (fun hd1_41 => ?_)
    refine z_alen hM hW hd1_41 (by decide) rfl 5 rfl (v := nI n) (by rw [hV.l14]; rfl) dX7_about_44 ?_
    exact z_iret hM hlk hr rfl hW hS (zF.of (by unfold r_X7_about; rw [pif_pos h_1_0]; first | done | rfl) rfl) dX7_about_45
  by_cases h_1_1 : (x) = (1)
  ·
    refine lv_tableIn hM.1 hM.2.1 dX7_about_1 (by rw [h_1_1]; decide) (by rw [h_1_1]; decide) (off := 45) (by rw [h_1_1]; rfl) (tgt := 46) (by decide) ?_
    refine lv_aload_n hM.1 hM.2.1 dX7_about_46 rfl (lv_at hl 0 rfl) ?_
    refine z_get hM hW zc7 hV.d7 rfl 6 (by decide) lf_X7_52 (v := .int (gi S 7 (0) (6))) rfl dX7_about_47 ?_
    exact z_iret hM hlk hr rfl hW hS (zF.of (by unfold r_X7_about; rw [pif_neg h_1_0, pif_pos h_1_1]; first | done | rfl) rfl) dX7_about_50
  by_cases h_1_2 : (x) = (2)
  ·
    refine lv_tableIn hM.1 hM.2.1 dX7_about_1 (by rw [h_1_2]; decide) (by rw [h_1_2]; decide) (off := 50) (by rw [h_1_2]; rfl) (tgt := 51) (by decide) ?_
    refine lv_aload_n hM.1 hM.2.1 dX7_about_51 rfl (lv_at hl 0 rfl) ?_
    refine z_get hM hW zc7 hV.d7 rfl 7 (by decide) lf_X7_91 (v := .int (gi S 7 (0) (7))) rfl dX7_about_52 ?_
    exact z_iret hM hlk hr rfl hW hS (zF.of (by unfold r_X7_about; rw [pif_neg h_1_0, pif_neg h_1_1, pif_pos h_1_2]; first | done | rfl) rfl) dX7_about_55
  by_cases h_1_3 : (x) = (3)
  ·
    refine lv_tableIn hM.1 hM.2.1 dX7_about_1 (by rw [h_1_3]; decide) (by rw [h_1_3]; decide) (off := 55) (by rw [h_1_3]; rfl) (tgt := 56) (by decide) ?_
    refine lv_aload_n hM.1 hM.2.1 dX7_about_56 rfl (lv_at hl 0 rfl) ?_
    refine z_getr hM hW zc7 hV.d7 rfl 4 (by decide) lf_X7_65 (t := 1) (j := 0) rfl hV.r74 dX7_about_57 (fun hd2_57 => ?_)
    refine z_get hM hW zc1 hd2_57 rfl 2 (by decide) lf_X7_148 (v := .int (gi S 1 (0) (2))) rfl dX7_about_60 ?_
    exact z_iret hM hlk hr rfl hW hS (zF.of (by unfold r_X7_about; rw [pif_neg h_1_0, pif_neg h_1_1, pif_neg h_1_2, pif_pos h_1_3]; first | done | rfl) rfl) dX7_about_63
  by_cases h_1_4 : (x) = (4)
  ·
    refine lv_tableIn hM.1 hM.2.1 dX7_about_1 (by rw [h_1_4]; decide) (by rw [h_1_4]; decide) (off := 63) (by rw [h_1_4]; rfl) (tgt := 64) (by decide) ?_
    refine lv_aload_n hM.1 hM.2.1 dX7_about_64 rfl (lv_at hl 0 rfl) ?_
    refine z_get hM hW zc7 hV.d7 rfl 8 (by decide) lf_X7_113 (v := .int (gi S 7 (0) (8))) rfl dX7_about_65 ?_
    exact z_iret hM hlk hr rfl hW hS (zF.of (by unfold r_X7_about; rw [pif_neg h_1_0, pif_neg h_1_1, pif_neg h_1_2, pif_neg h_1_3, pif_pos h_1_4]; first | done | rfl) rfl) dX7_about_68
  by_cases h_1_5 : (x) = (5)
  ·
    refine lv_tableIn hM.1 hM.2.1 dX7_about_1 (by rw [h_1_5]; decide) (by rw [h_1_5]; decide) (off := 68) (by rw [h_1_5]; rfl) (tgt := 69) (by decide) ?_
    refine lv_aload_n hM.1 hM.2.1 dX7_about_69 rfl (lv_at hl 0 rfl) ?_
    refine z_getr hM hW zc7 hV.d7 rfl 4 (by decide) lf_X7_65 (t := 1) (j := 0) rfl hV.r74 dX7_about_70 (fun hd3_70 => ?_)
    refine z_get hM hW zc1 hd3_70 rfl 3 (by decide) lf_X7_242 (v := .int (gi S 1 (0) (3))) rfl dX7_about_73 ?_
    exact z_iret hM hlk hr rfl hW hS (zF.of (by unfold r_X7_about; rw [pif_neg h_1_0, pif_neg h_1_1, pif_neg h_1_2, pif_neg h_1_3, pif_neg h_1_4, pif_pos h_1_5]; first | done | rfl) rfl) dX7_about_76
  refine lv_tableOut hM.1 hM.2.1 dX7_about_1 (by have n0 : Int32.toInt (x) ≠ 0 := fun q => h_1_0 (Int32.toInt_inj.mp (by rw [q]; rfl)); have n1 : Int32.toInt (x) ≠ 1 := fun q => h_1_1 (Int32.toInt_inj.mp (by rw [q]; rfl)); have n2 : Int32.toInt (x) ≠ 2 := fun q => h_1_2 (Int32.toInt_inj.mp (by rw [q]; rfl)); have n3 : Int32.toInt (x) ≠ 3 := fun q => h_1_3 (Int32.toInt_inj.mp (by rw [q]; rfl)); have n4 : Int32.toInt (x) ≠ 4 := fun q => h_1_4 (Int32.toInt_inj.mp (by rw [q]; rfl)); have n5 : Int32.toInt (x) ≠ 5 := fun q => h_1_5 (Int32.toInt_inj.mp (by rw [q]; rfl)); omega) (tgt := 77) (by decide) ?_
  refine lv_iconst (v := (-1)) hM.1 hM.2.1 dX7_about_77 (by decide) ?_
  exact z_iret hM hlk hr rfl hW hS (zF.of (by unfold r_X7_about; rw [pif_neg h_1_0, pif_neg h_1_1, pif_neg h_1_2, pif_neg h_1_3, pif_neg h_1_4, pif_neg h_1_5]; first | done | rfl) rfl) dX7_about_78

noncomputable def r_X7_halt (S : zS) (n : Nat) (x : Int32) : Int32 := 
  (oel (atI 4 (x)) ((-1)) (fun q2 => 
    (oel (gr S 2 q2 2) ((-1)) (fun a => (gi (s_X2_rest (si S 7 (0) (8) ((gi S 7 (0) (8)) + (1))) (q2)) 0 (a) (0))))))
noncomputable def s_X7_halt (S : zS) (n : Nat) (x : Int32) : zS := 
  (oel (atI 4 (x)) (S) (fun q2 => 
    (oel (gr S 2 q2 2) (S) (fun a => ((s_X2_rest (si S 7 (0) (8) ((gi S 7 (0) (8)) + (1))) (q2)))))))
set_option maxHeartbeats 4000000 in
set_option maxRecDepth 100000 in
theorem c_X7_halt {l : Launch} {D : va_G} {ar : Nat → ClassId} {A : Nat → Prop} {Z : zZ} {S : zS} {n : Nat} {x : Int32} (hV : zV n Z S.2.2)  : zMet l yX7_halt prog_1_method_8_code 4 (some .int) ({ frames := 1, cells := 0, slots := 0, locals := 21 } : Room) D ar A Z S [.ref (Z.1 7 (0)), .int (x)] rvI (zF (r_X7_halt S n x) Z (s_X7_halt S n x)) := by
  refine z_body (by decide +kernel) (Nat.le_of_ble_eq_true rfl) ?_
  intro pX eX sX mX bX methX cX ls hM hr hlk hml hin hl hW hlo
  have hM : zM pX cX mX _ sX prog_1_method_8_code RX7 D ar := hM
  have hS : va_S A sX.heap sX.heap [] := va_S.rf
  have hl : lv_has ls 4 [(0, .ref (Z.1 7 (0))), (1, .int (x))] := hl
  refine lv_aload_n hM.1 hM.2.1 dX7_halt_0 rfl (lv_at hl 0 rfl) ?_
  refine lv_iload_n hM.1 hM.2.1 dX7_halt_1 rfl (lv_at hl 1 rfl) ?_
  refine z_Vr hM (hml.trans hl.1.symm) hW hS hlo zc7 hV.d7 rfl zyX7_clientAt lm_X7_69 li_yX7_clientAt le_yX7_clientAt (As := [.int (x)]) (rest := []) (c_X7_clientAt hV) rfl rfl (Nat.le_of_ble_eq_true rfl) ⟨Nat.le_of_ble_eq_true rfl, Nat.le_of_ble_eq_true rfl⟩ ⟨Nat.le_of_ble_eq_true rfl, Nat.le_of_ble_eq_true rfl⟩ dX7_halt_2 (fun H locs hW hS => ?_)
  rcases hq_2 : atI 4 (x) with _ | q2
  ·
    refine lv_astore_nN hM.1 hM.2.1 dX7_halt_5 rfl hl (by decide) (lv' := [(2, .null), (0, .ref (Z.1 7 (0))), (1, .int (x))]) rfl (fun ls hl => ?_)
    refine lv_aload_nN hM.1 hM.2.1 dX7_halt_6 rfl (lv_at hl 0 rfl) ?_
    refine lv_ifnonnullN hM.1 hM.2.1 dX7_halt_7 ?_
    refine lv_iconst (v := (-1)) hM.1 hM.2.1 dX7_halt_10 (by decide) ?_
    exact z_iret hM hlk hr rfl hW hS (zF.of (by unfold r_X7_halt; rw [oel_n hq_2]; first | done | rfl) (by unfold s_X7_halt; rw [oel_n hq_2]; first | done | rfl)) dX7_halt_11
  ·
    obtain ⟨he_2, hb_2, hn0_2, hn1_2⟩ := atI_some (by decide) hq_2
    have hd_2 := hV.d2 hb_2
    refine lv_astore_n hM.1 hM.2.1 dX7_halt_5 rfl hl (by decide) (lv' := [(2, .ref (Z.1 2 (q2))), (0, .ref (Z.1 7 (0))), (1, .int (x))]) rfl (fun ls hl => ?_)
    refine lv_aload_n hM.1 hM.2.1 dX7_halt_6 rfl (lv_at hl 0 rfl) ?_
    refine lv_ifnonnull hM.1 hM.2.1 dX7_halt_7 (tgt := 12) (by decide) ?_
    refine lv_aload_n hM.1 hM.2.1 dX7_halt_12 rfl (lv_at hl 0 rfl) ?_
    rcases hq_13 : gr S 2 q2 2 with _ | a
    ·
      refine z_get hM hW zc2 hd_2 rfl 2 (by decide) lf_X7_105 (v := .null) (by simp [zv, zvt, zk, zrv, hq_13]) dX7_halt_13 ?_
      refine lv_astore_nN hM.1 hM.2.1 dX7_halt_16 rfl hl (by decide) (lv' := [(3, .null), (2, .ref (Z.1 2 (q2))), (0, .ref (Z.1 7 (0))), (1, .int (x))]) rfl (fun ls hl => ?_)
      refine lv_aload_nN hM.1 hM.2.1 dX7_halt_17 rfl (lv_at hl 0 rfl) ?_
      refine lv_ifnonnullN hM.1 hM.2.1 dX7_halt_18 ?_
      refine lv_iconst (v := (-1)) hM.1 hM.2.1 dX7_halt_21 (by decide) ?_
      exact z_iret hM hlk hr rfl hW hS (zF.of (by unfold r_X7_halt; rw [oel_s hq_2, oel_n hq_13]; first | done | rfl) (by unfold s_X7_halt; rw [oel_s hq_2, oel_n hq_13]; first | done | rfl)) dX7_halt_22
    ·
      refine z_getr hM hW zc2 hd_2 rfl 2 (by decide) lf_X7_105 (t := 0) (j := a) rfl hq_13 dX7_halt_13 (fun hd_13 => ?_)
      refine lv_astore_n hM.1 hM.2.1 dX7_halt_16 rfl hl (by decide) (lv' := [(3, .ref (Z.1 0 (a))), (2, .ref (Z.1 2 (q2))), (0, .ref (Z.1 7 (0))), (1, .int (x))]) rfl (fun ls hl => ?_)
      refine lv_aload_n hM.1 hM.2.1 dX7_halt_17 rfl (lv_at hl 0 rfl) ?_
      refine lv_ifnonnull hM.1 hM.2.1 dX7_halt_18 (tgt := 23) (by decide) ?_
      refine lv_aload_n hM.1 hM.2.1 dX7_halt_23 rfl (lv_at hl 2 rfl) ?_
      refine lv_dup hM.1 hM.2.1 dX7_halt_24 rfl ?_
      refine z_get hM hW zc7 hV.d7 rfl 8 (by decide) lf_X7_113 (v := .int (gi S 7 (0) (8))) rfl dX7_halt_25 ?_
      refine lv_iconst (v := 1) hM.1 hM.2.1 dX7_halt_28 (by decide) ?_
      refine lv_iadd hM.1 hM.2.1 dX7_halt_29 ?_
      refine z_puti hM hW hS zc7 hV.d7 rfl 8 (by decide) rfl lf_X7_113 (Or.inl rfl) (tyX7 8) (tyX7_ok 8 (by decide)) rfl rfl dX7_halt_30 (fun H locs hW hS => ?_)
      refine lv_aload_n hM.1 hM.2.1 dX7_halt_33 rfl (lv_at hl 1 rfl) ?_
      refine z_Vv hM (hml.trans hl.1.symm) hW hS hlo zc2 hd_2 rfl zyX2_rest lm_X7_116 li_yX2_rest le_yX2_rest (As := []) (rest := []) (c_X2_rest hd_2) rfl rfl (Nat.le_of_ble_eq_true rfl) ⟨Nat.le_of_ble_eq_true rfl, Nat.le_of_ble_eq_true rfl⟩ ⟨Nat.le_of_ble_eq_true rfl, Nat.le_of_ble_eq_true rfl⟩ dX7_halt_34 (fun H locs hW hS => ?_)
      refine lv_aload_n hM.1 hM.2.1 dX7_halt_37 rfl (lv_at hl 0 rfl) ?_
      refine z_get hM hW zc0 hd_13 rfl 0 (by decide) lf_X7_119 (v := .int (gi (s_X2_rest (si S 7 (0) (8) ((gi S 7 (0) (8)) + (1))) (q2)) 0 (a) (0))) rfl dX7_halt_38 ?_
      exact z_iret hM hlk hr rfl hW hS (zF.of (by unfold r_X7_halt; rw [oel_s hq_2, oel_s hq_13]; first | done | rfl) (by unfold s_X7_halt; rw [oel_s hq_2, oel_s hq_13]; first | done | rfl)) dX7_halt_41
end
section
theorem pif_same {α : Sort _} {b : Prop} {x : α} : pif b x x = x := (Classical.em b).elim (fun h => pif_pos h) (fun h => pif_neg h)
theorem pif_22 {b : Prop} {x y : zS} : (pif b x y).2.2 = pif b x.2.2 y.2.2 := (Classical.em b).elim (fun h => by rw [pif_pos h, pif_pos h]) (fun h => by rw [pif_neg h, pif_neg h])
theorem oel_22 {α : Type} {o : Option α} {x : zS} {g : α → zS} : (oel o x g).2.2 = oel o x.2.2 (fun q => (g q).2.2) := by cases o <;> rfl
theorem oel_same {α β : Type} {o : Option α} {x : β} : oel o x (fun _ => x) = x := by cases o <;> rfl
theorem k_si {S : zS} {k i f : Nat} {v : Int32} : (si S k i f v).2.2 = S.2.2 := rfl
theorem k_sj {S : zS} {k i f : Nat} {v : Int64} : (sj S k i f v).2.2 = S.2.2 := rfl
theorem k_X6_set {S : zS} {i j : Nat} : (s_X6_set S i j).2.2 = S.2.2 := rfl
theorem k_X6_put {S : zS} {i : Nat} {x y : Int32} {v : Int64} : (s_X6_put S i x y v).2.2 = S.2.2 := rfl
theorem k_X0_showTag {S : zS} {a i : Nat} : (s_X0_showTag S a i).2.2 = S.2.2 := rfl
theorem k_X4_repeat {S : zS} {j q : Nat} : (s_X4_repeat S j q).2.2 = S.2.2 := rfl
theorem pif_2 {b : Prop} {x y : zS} {r : zR} (hx : x.2.2 = r) (hy : y.2.2 = r) : (pif b x y).2.2 = r := (Classical.em b).elim (fun h => by rw [pif_pos h]; exact hx) (fun h => by rw [pif_neg h]; exact hy)
theorem oel_2 {α : Type} {o : Option α} {x : zS} {g : α → zS} {r : zR} (hx : x.2.2 = r) (hy : ∀ q, (g q).2.2 = r) : (oel o x g).2.2 = r := by cases o with | none => exact hx | some q => exact hy q
theorem gi_pif {b : Prop} {x y : zS} {k i f : Nat} : gi (pif b x y) k i f = pif b (gi x k i f) (gi y k i f) := (Classical.em b).elim (fun h => by rw [pif_pos h, pif_pos h]) (fun h => by rw [pif_neg h, pif_neg h])
theorem gj_pif {b : Prop} {x y : zS} {k i f : Nat} : gj (pif b x y) k i f = pif b (gj x k i f) (gj y k i f) := (Classical.em b).elim (fun h => by rw [pif_pos h, pif_pos h]) (fun h => by rw [pif_neg h, pif_neg h])
theorem gr_pif {b : Prop} {x y : zS} {k i f : Nat} : gr (pif b x y) k i f = pif b (gr x k i f) (gr y k i f) := (Classical.em b).elim (fun h => by rw [pif_pos h, pif_pos h]) (fun h => by rw [pif_neg h, pif_neg h])
theorem r_next_pos {S : zS} {pm : Nat → Nat} (h : gi S 1 0 2 < 300) : r_X1_next S pm = some (pm (ix (gi S 1 0 2))) := by unfold r_X1_next; rw [pif_pos h]
theorem r_next_neg {S : zS} {pm : Nat → Nat} (h : ¬ gi S 1 0 2 < 300) : r_X1_next S pm = none := by unfold r_X1_next; rw [pif_neg h]
theorem s_next_pos {S : zS} {pm : Nat → Nat} (h : gi S 1 0 2 < 300) : s_X1_next S pm = si S 1 0 2 (gi S 1 0 2 + 1) := by unfold s_X1_next; rw [pif_pos h]
theorem s_next_neg {S : zS} {pm : Nat → Nat} (h : ¬ gi S 1 0 2 < 300) : s_X1_next S pm = si S 1 0 3 (gi S 1 0 3 + 1) := by unfold s_X1_next; rw [pif_neg h]
theorem next_lt {x : Int32} (h0 : ¬ x < 0) (h : x < 300) : ix x < 300 := vin_lt (vin_of2 h0 (N := 300) h (by decide) rfl) rfl
theorem inc300 {x : Int32} (h0 : ¬ x < 0) (h : x < 300) : ¬ x + 1 < 0 := by
  have e1 : (1 : Int32).toInt = 1 := rfl
  have e3 : (300 : Int32).toInt = 300 := rfl
  rw [Int32.lt_iff_toInt_lt, Int32.toInt_zero] at h0
  rw [Int32.lt_iff_toInt_lt, e3] at h
  rw [Int32.lt_iff_toInt_lt, Int32.toInt_zero, Int32.toInt_add, e1, Int.bmod_eq_of_le (by omega) (by omega)]
  omega
/-- the votes of those whose bits are set, from k on -/
noncomputable def lSum (S : zS) (q : Nat) (b : Int32) : Nat → Nat → Int32 → Int32
  | 0, _, r => r
  | f + 1, k, r => pif (((b) >>> ((nI k) &&& (31))) &&& (1) = (1)) (lSum S q b f (k + 1) (r + gi S 9 q (ix (nI k)))) (lSum S q b f (k + 1) r)
set_option maxHeartbeats 400000 in
set_option maxRecDepth 100000 in
theorem c_X5_sum {l : Launch} {D : va_G} {ar : Nat → ClassId} {A : Nat → Prop} {Z : zZ} {S : zS} {n q : Nat} {b : Int32} (hq : Z.2.1 9 q) (hz : Z.2.2 9 q = n) (hn : n ≤ 7) : zMet l yX5_sum prog_7_method_3_code 4 (some .int) ({ frames := 0, cells := 0, slots := 0, locals := 0 } : Room) D ar A Z S [.ref (Z.1 9 (q)), .int (b)] rvI (zF (lSum S q b n 0 0) Z S) := by
  refine z_body (by decide +kernel) (Nat.le_of_ble_eq_true rfl) ?_
  intro pX eX sX mX bX methX cX ls hM hr hlk hml hin hl hW hlo
  have hM : zM pX cX mX _ sX prog_7_method_3_code RX5 D ar := hM
  have hS : va_S A sX.heap sX.heap [] := va_S.rf
  have hl : lv_has ls 4 [(0, .ref (Z.1 9 (q))), (1, .int (b))] := hl
  have loop : ∀ (f k : Nat) (r : Int32) (ls : Array Slot) (H : Heap) (locs : List Loc), k + f = n → lSum S q b f k r = lSum S q b n 0 0 → lv_has ls 4 [(3, .int (nI k)), (2, .int (r)), (0, .ref (Z.1 9 (q))), (1, .int (b))] → zW D ar A Z S H → va_S A sX.heap H locs → W pX l eX ({ frames := 0, cells := 0, slots := 0, locals := 0 } : Room) sX mX ([.ref (Z.1 9 (q)), .int (b)] : List Value).toArray bX methX cX H locs 0 0 (MQ bX (zQ D ar A rvI (zF (lSum S q b n 0 0) Z S)) ([.ref (Z.1 9 (q)), .int (b)] : List Value).toArray sX 0 0 A) (F0 mX 4 ls []) := by
    intro f
    induction f with
    | zero =>
      intro k r ls H locs hk hE hl hW hS
      have hc : nI n ≤ nI k := by rw [show k = n by omega]; exact Int32.le_refl _
      refine lv_iload_n hM.1 hM.2.1 dX5_sum_4 rfl (lv_at hl 0 rfl) ?_
      refine lv_aload_n hM.1 hM.2.1 dX5_sum_5 rfl (lv_at hl 2 rfl) ?_
      refine z_alen hM hW hq (by decide) rfl 0 rfl (v := nI n) (by rw [hz]; rfl) dX5_sum_6 ?_
      refine lv_icmp_ge hM.1 hM.2.1 dX5_sum_7 (tgt := 31) (by decide) (fun _ => ?_) (fun h => absurd hc h)
      refine lv_iload_n hM.1 hM.2.1 dX5_sum_31 rfl (lv_at hl 1 rfl) ?_
      exact z_iret hM hlk hr rfl hW hS (zF.of hE rfl) dX5_sum_32
    | succ f ih =>
      intro k r ls H locs hk hE hl hW hS
      have hc : ¬ nI n ≤ nI k := nI_ge (by omega) (by omega)
      refine lv_iload_n hM.1 hM.2.1 dX5_sum_4 rfl (lv_at hl 0 rfl) ?_
      refine lv_aload_n hM.1 hM.2.1 dX5_sum_5 rfl (lv_at hl 2 rfl) ?_
      refine z_alen hM hW hq (by decide) rfl 0 rfl (v := nI n) (by rw [hz]; rfl) dX5_sum_6 ?_
      refine lv_icmp_ge hM.1 hM.2.1 dX5_sum_7 (tgt := 31) (by decide) (fun h => absurd h hc) (fun _ => ?_)
      refine lv_iload_n hM.1 hM.2.1 dX5_sum_10 rfl (lv_at hl 3 rfl) ?_
      refine lv_iload_n hM.1 hM.2.1 dX5_sum_11 rfl (lv_at hl 0 rfl) ?_
      refine lv_ishr hM.1 hM.2.1 dX5_sum_12 ?_
      refine lv_iconst (v := 1) hM.1 hM.2.1 dX5_sum_13 (by decide) ?_
      refine lv_iand hM.1 hM.2.1 dX5_sum_14 ?_
      refine lv_iconst (v := 1) hM.1 hM.2.1 dX5_sum_15 (by decide) ?_
      refine lv_icmp_ne hM.1 hM.2.1 dX5_sum_16 (tgt := 25) (by decide) (fun h_16 => ?_) (fun h_16 => ?_)
      ·
        refine lv_iinc hM.1 hM.2.1 dX5_sum_25 hl (k := 0) rfl (v := nI (k + 1)) (nI_succ _).symm (by decide) (lv' := [(3, .int (nI (k + 1))), (2, .int (r)), (0, .ref (Z.1 9 (q))), (1, .int (b))]) rfl (fun ls hl => ?_)
        refine lv_goto hM.1 hM.2.1 dX5_sum_28 (tgt := 4) (by decide) ?_
        exact ih (k + 1) _ ls H locs (by omega) (by rw [show lSum S q b (f + 1) k r = pif _ _ _ from rfl, pif_neg h_16] at hE; exact hE) hl hW hS
      ·
        refine lv_iload_n hM.1 hM.2.1 dX5_sum_19 rfl (lv_at hl 1 rfl) ?_
        refine lv_aload_n hM.1 hM.2.1 dX5_sum_20 rfl (lv_at hl 2 rfl) ?_
        refine lv_iload_n hM.1 hM.2.1 dX5_sum_21 rfl (lv_at hl 0 rfl) ?_
        refine z_iald hM hW hq rfl (by rw [hz]; exact nI_in (by omega) (by omega)) (v := gi S 9 (q) (ix (nI k))) rfl dX5_sum_22 ?_
        refine lv_iadd hM.1 hM.2.1 dX5_sum_23 ?_
        refine lv_istore_n hM.1 hM.2.1 dX5_sum_24 rfl hl (by decide) (lv' := [(2, .int ((r) + (gi S 9 (q) (ix (nI k))))), (3, .int (nI k)), (0, .ref (Z.1 9 (q))), (1, .int (b))]) rfl (fun ls hl => ?_)
        refine lv_iinc hM.1 hM.2.1 dX5_sum_25 hl (k := 1) rfl (v := nI (k + 1)) (nI_succ _).symm (by decide) (lv' := [(3, .int (nI (k + 1))), (2, .int ((r) + (gi S 9 (q) (ix (nI k))))), (0, .ref (Z.1 9 (q))), (1, .int (b))]) rfl (fun ls hl => ?_)
        refine lv_goto hM.1 hM.2.1 dX5_sum_28 (tgt := 4) (by decide) ?_
        exact ih (k + 1) _ ls H locs (by omega) (by rw [show lSum S q b (f + 1) k r = pif _ _ _ from rfl, pif_pos h_16] at hE; exact hE) hl hW hS
  refine lv_iconst (v := 0) hM.1 hM.2.1 dX5_sum_0 (by decide) ?_
  refine lv_istore_n hM.1 hM.2.1 dX5_sum_1 rfl hl (by decide) (lv' := [(2, .int (0)), (0, .ref (Z.1 9 (q))), (1, .int (b))]) rfl (fun ls hl => ?_)
  refine lv_iconst (v := 0) hM.1 hM.2.1 dX5_sum_2 (by decide) ?_
  refine lv_istore_n hM.1 hM.2.1 dX5_sum_3 rfl hl (by decide) (lv' := [(3, .int (0)), (2, .int (0)), (0, .ref (Z.1 9 (q))), (1, .int (b))]) rfl (fun ls hl => ?_)
  exact loop n 0 0 ls _ _ (by omega) rfl hl hW hS

noncomputable def r_X5_canBe (S : zS) (n q : Nat) (x y : Int32) : Int32 := 
  (pif ((x) < (1)) (0) 
    (pif ((y) < (1)) (0) 
      (pif ((lSum S (q) ((-1)) n 0 0) < (x)) (0) 
        (pif ((lSum S (q) ((-1)) n 0 0) < (y)) (0) 
          (pif (((x) + (y)) ≤ (lSum S (q) ((-1)) n 0 0)) (0) 
            (pif (((2) * (y)) ≤ (lSum S (q) ((-1)) n 0 0)) (0) (1)))))))
set_option maxHeartbeats 400000 in
set_option maxRecDepth 100000 in
theorem c_X5_canBe {l : Launch} {D : va_G} {ar : Nat → ClassId} {A : Nat → Prop} {Z : zZ} {S : zS} {n q : Nat} {x y : Int32} (hq : Z.2.1 9 q) (hz : Z.2.2 9 q = n) (hn : n ≤ 7) : zMet l yX5_canBe prog_7_method_2_code 4 (some .boolean) ({ frames := 1, cells := 0, slots := 0, locals := 23 } : Room) D ar A Z S [.ref (Z.1 9 (q)), .int (x), .int (y)] rvI (zF (r_X5_canBe S n q x y) Z S) := by
  refine z_body (by decide +kernel) (Nat.le_of_ble_eq_true rfl) ?_
  intro pX eX sX mX bX methX cX ls hM hr hlk hml hin hl hW hlo
  have hM : zM pX cX mX _ sX prog_7_method_2_code RX5 D ar := hM
  have hS : va_S A sX.heap sX.heap [] := va_S.rf
  have hl : lv_has ls 4 [(0, .ref (Z.1 9 (q))), (1, .int (x)), (2, .int (y))] := hl
  refine lv_aload_n hM.1 hM.2.1 dX5_canBe_0 rfl (lv_at hl 0 rfl) ?_
  refine lv_iconst (v := (-1)) hM.1 hM.2.1 dX5_canBe_1 (by decide) ?_
  refine z_Si hM (hml.trans hl.1.symm) hW hS hlo zyX5_sum lm_X5_20 ls_yX5_sum (As := [.ref (Z.1 9 (q)), .int ((-1))]) (rest := []) (c_X5_sum (n := n) hq hz hn) rfl rfl (Nat.le_of_ble_eq_true rfl) ⟨Nat.le_of_ble_eq_true rfl, Nat.le_of_ble_eq_true rfl⟩ ⟨Nat.le_of_ble_eq_true rfl, Nat.le_of_ble_eq_true rfl⟩ dX5_canBe_2 (fun H locs hW hS => ?_)
  refine lv_istore_n hM.1 hM.2.1 dX5_canBe_5 rfl hl (by decide) (lv' := [(3, .int (lSum S (q) ((-1)) n 0 0)), (0, .ref (Z.1 9 (q))), (1, .int (x)), (2, .int (y))]) rfl (fun ls hl => ?_)
  refine lv_iload_n hM.1 hM.2.1 dX5_canBe_6 rfl (lv_at hl 2 rfl) ?_
  refine lv_iconst (v := 1) hM.1 hM.2.1 dX5_canBe_7 (by decide) ?_
  refine lv_icmp_lt hM.1 hM.2.1 dX5_canBe_8 (tgt := 44) (by decide) (fun h_8 => ?_) (fun h_8 => ?_)
  ·
    refine lv_iconst (v := 0) hM.1 hM.2.1 dX5_canBe_44 (by decide) ?_
    exact z_iret hM hlk hr rfl hW hS (zF.of (by unfold r_X5_canBe; rw [pif_pos h_8]; first | done | rfl) rfl) dX5_canBe_45
  ·
    refine lv_iload_n hM.1 hM.2.1 dX5_canBe_11 rfl (lv_at hl 3 rfl) ?_
    refine lv_iconst (v := 1) hM.1 hM.2.1 dX5_canBe_12 (by decide) ?_
    refine lv_icmp_lt hM.1 hM.2.1 dX5_canBe_13 (tgt := 44) (by decide) (fun h_13 => ?_) (fun h_13 => ?_)
    ·
      refine lv_iconst (v := 0) hM.1 hM.2.1 dX5_canBe_44 (by decide) ?_
      exact z_iret hM hlk hr rfl hW hS (zF.of (by unfold r_X5_canBe; rw [pif_neg h_8, pif_pos h_13]; first | done | rfl) rfl) dX5_canBe_45
    ·
      refine lv_iload_n hM.1 hM.2.1 dX5_canBe_16 rfl (lv_at hl 2 rfl) ?_
      refine lv_iload_n hM.1 hM.2.1 dX5_canBe_17 rfl (lv_at hl 0 rfl) ?_
      refine lv_icmp_gt hM.1 hM.2.1 dX5_canBe_18 (tgt := 44) (by decide) (fun h_18 => ?_) (fun h_18 => ?_)
      ·
        refine lv_iconst (v := 0) hM.1 hM.2.1 dX5_canBe_44 (by decide) ?_
        exact z_iret hM hlk hr rfl hW hS (zF.of (by unfold r_X5_canBe; rw [pif_neg h_8, pif_neg h_13, pif_pos h_18]; first | done | rfl) rfl) dX5_canBe_45
      ·
        refine lv_iload_n hM.1 hM.2.1 dX5_canBe_21 rfl (lv_at hl 3 rfl) ?_
        refine lv_iload_n hM.1 hM.2.1 dX5_canBe_22 rfl (lv_at hl 0 rfl) ?_
        refine lv_icmp_gt hM.1 hM.2.1 dX5_canBe_23 (tgt := 44) (by decide) (fun h_23 => ?_) (fun h_23 => ?_)
        ·
          refine lv_iconst (v := 0) hM.1 hM.2.1 dX5_canBe_44 (by decide) ?_
          exact z_iret hM hlk hr rfl hW hS (zF.of (by unfold r_X5_canBe; rw [pif_neg h_8, pif_neg h_13, pif_neg h_18, pif_pos h_23]; first | done | rfl) rfl) dX5_canBe_45
        ·
          refine lv_iload_n hM.1 hM.2.1 dX5_canBe_26 rfl (lv_at hl 2 rfl) ?_
          refine lv_iload_n hM.1 hM.2.1 dX5_canBe_27 rfl (lv_at hl 3 rfl) ?_
          refine lv_iadd hM.1 hM.2.1 dX5_canBe_28 ?_
          refine lv_iload_n hM.1 hM.2.1 dX5_canBe_29 rfl (lv_at hl 0 rfl) ?_
          refine lv_icmp_le hM.1 hM.2.1 dX5_canBe_30 (tgt := 44) (by decide) (fun h_30 => ?_) (fun h_30 => ?_)
          ·
            refine lv_iconst (v := 0) hM.1 hM.2.1 dX5_canBe_44 (by decide) ?_
            exact z_iret hM hlk hr rfl hW hS (zF.of (by unfold r_X5_canBe; rw [pif_neg h_8, pif_neg h_13, pif_neg h_18, pif_neg h_23, pif_pos h_30]; first | done | rfl) rfl) dX5_canBe_45
          ·
            refine lv_iconst (v := 2) hM.1 hM.2.1 dX5_canBe_33 (by decide) ?_
            refine lv_iload_n hM.1 hM.2.1 dX5_canBe_34 rfl (lv_at hl 3 rfl) ?_
            refine lv_imul hM.1 hM.2.1 dX5_canBe_35 ?_
            refine lv_iload_n hM.1 hM.2.1 dX5_canBe_36 rfl (lv_at hl 0 rfl) ?_
            refine lv_icmp_le hM.1 hM.2.1 dX5_canBe_37 (tgt := 44) (by decide) (fun h_37 => ?_) (fun h_37 => ?_)
            ·
              refine lv_iconst (v := 0) hM.1 hM.2.1 dX5_canBe_44 (by decide) ?_
              exact z_iret hM hlk hr rfl hW hS (zF.of (by unfold r_X5_canBe; rw [pif_neg h_8, pif_neg h_13, pif_neg h_18, pif_neg h_23, pif_neg h_30, pif_pos h_37]; first | done | rfl) rfl) dX5_canBe_45
            ·
              refine lv_iconst (v := 1) hM.1 hM.2.1 dX5_canBe_40 (by decide) ?_
              refine lv_goto hM.1 hM.2.1 dX5_canBe_41 (tgt := 45) (by decide) ?_
              exact z_iret hM hlk hr rfl hW hS (zF.of (by unfold r_X5_canBe; rw [pif_neg h_8, pif_neg h_13, pif_neg h_18, pif_neg h_23, pif_neg h_30, pif_neg h_37]; first | done | rfl) rfl) dX5_canBe_45

noncomputable def s_X7_sendRequest (S : zS) (n : Nat) (c a : Nat) (x : Int32) : zS := 
  (pif ((gi S 1 (0) (2)) < (300)) 
    (pif ((gi S 2 (c) (3)) = (3)) ((s_X6_put (si (si (si (si (si (si (si (si (si S 1 (0) (2) ((gi S 1 (0) (2)) + 1)) 4 (pmR S.2.2 (ix (gi S 1 (0) (2)))) (1) (0)) 4 (pmR S.2.2 (ix (gi S 1 (0) (2)))) (2) (x)) 4 (pmR S.2.2 (ix (gi S 1 (0) (2)))) (3) (gi S 2 (c) (0))) 4 (pmR S.2.2 (ix (gi S 1 (0) (2)))) (4) (gi S 0 (a) (0))) 4 (pmR S.2.2 (ix (gi S 1 (0) (2)))) (5) (gi S 2 (c) (3))) 4 (pmR S.2.2 (ix (gi S 1 (0) (2)))) (6) (gi S 2 (c) (4))) 4 (pmR S.2.2 (ix (gi S 1 (0) (2)))) (7) ((-1))) 4 (pmR S.2.2 (ix (gi S 1 (0) (2)))) (8) (gi S 0 (a) (7))) (20 + (pmR S.2.2 (ix (gi S 1 (0) (2))))) (0) (0) (0))) 
      (pif ((gi S 2 (c) (3)) = (5)) ((s_X6_put (si (si (si (si (si (si (si (si (si S 1 (0) (2) ((gi S 1 (0) (2)) + 1)) 4 (pmR S.2.2 (ix (gi S 1 (0) (2)))) (1) (0)) 4 (pmR S.2.2 (ix (gi S 1 (0) (2)))) (2) (x)) 4 (pmR S.2.2 (ix (gi S 1 (0) (2)))) (3) (gi S 2 (c) (0))) 4 (pmR S.2.2 (ix (gi S 1 (0) (2)))) (4) (gi S 0 (a) (0))) 4 (pmR S.2.2 (ix (gi S 1 (0) (2)))) (5) (gi S 2 (c) (3))) 4 (pmR S.2.2 (ix (gi S 1 (0) (2)))) (6) (gi S 2 (c) (4))) 4 (pmR S.2.2 (ix (gi S 1 (0) (2)))) (7) ((-1))) 4 (pmR S.2.2 (ix (gi S 1 (0) (2)))) (8) (gi S 0 (a) (7))) (20 + (pmR S.2.2 (ix (gi S 1 (0) (2))))) (0) (0) (0))) 
        (pif ((gi S 2 (c) (3)) = (2)) ((s_X6_set (si (si (si (si (si (si (si (si (si S 1 (0) (2) ((gi S 1 (0) (2)) + 1)) 4 (pmR S.2.2 (ix (gi S 1 (0) (2)))) (1) (0)) 4 (pmR S.2.2 (ix (gi S 1 (0) (2)))) (2) (x)) 4 (pmR S.2.2 (ix (gi S 1 (0) (2)))) (3) (gi S 2 (c) (0))) 4 (pmR S.2.2 (ix (gi S 1 (0) (2)))) (4) (gi S 0 (a) (0))) 4 (pmR S.2.2 (ix (gi S 1 (0) (2)))) (5) (gi S 2 (c) (3))) 4 (pmR S.2.2 (ix (gi S 1 (0) (2)))) (6) (gi S 2 (c) (4))) 4 (pmR S.2.2 (ix (gi S 1 (0) (2)))) (7) ((-1))) 4 (pmR S.2.2 (ix (gi S 1 (0) (2)))) (8) ((-1))) (20 + (pmR S.2.2 (ix (gi S 1 (0) (2))))) (10 + c))) 
          (pif ((gi S 2 (c) (3)) = (4)) ((s_X6_set (si (si (si (si (si (si (si (si (si S 1 (0) (2) ((gi S 1 (0) (2)) + 1)) 4 (pmR S.2.2 (ix (gi S 1 (0) (2)))) (1) (0)) 4 (pmR S.2.2 (ix (gi S 1 (0) (2)))) (2) (x)) 4 (pmR S.2.2 (ix (gi S 1 (0) (2)))) (3) (gi S 2 (c) (0))) 4 (pmR S.2.2 (ix (gi S 1 (0) (2)))) (4) (gi S 0 (a) (0))) 4 (pmR S.2.2 (ix (gi S 1 (0) (2)))) (5) (gi S 2 (c) (3))) 4 (pmR S.2.2 (ix (gi S 1 (0) (2)))) (6) (gi S 2 (c) (4))) 4 (pmR S.2.2 (ix (gi S 1 (0) (2)))) (7) ((-1))) 4 (pmR S.2.2 (ix (gi S 1 (0) (2)))) (8) ((-1))) (20 + (pmR S.2.2 (ix (gi S 1 (0) (2))))) (10 + c))) ((s_X6_put (si (si (si (si (si (si (si (si (si S 1 (0) (2) ((gi S 1 (0) (2)) + 1)) 4 (pmR S.2.2 (ix (gi S 1 (0) (2)))) (1) (0)) 4 (pmR S.2.2 (ix (gi S 1 (0) (2)))) (2) (x)) 4 (pmR S.2.2 (ix (gi S 1 (0) (2)))) (3) (gi S 2 (c) (0))) 4 (pmR S.2.2 (ix (gi S 1 (0) (2)))) (4) (gi S 0 (a) (0))) 4 (pmR S.2.2 (ix (gi S 1 (0) (2)))) (5) (gi S 2 (c) (3))) 4 (pmR S.2.2 (ix (gi S 1 (0) (2)))) (6) (gi S 2 (c) (4))) 4 (pmR S.2.2 (ix (gi S 1 (0) (2)))) (7) ((-1))) 4 (pmR S.2.2 (ix (gi S 1 (0) (2)))) (8) ((-1))) (20 + (pmR S.2.2 (ix (gi S 1 (0) (2))))) (0) (0) (0))))))) ((si S 1 (0) (3) ((gi S 1 (0) (3)) + 1))))
theorem k_X7_sendRequest {S : zS} {n : Nat} {c a : Nat} {x : Int32} : (s_X7_sendRequest S n c a x).2.2 = S.2.2 := by unfold s_X7_sendRequest; simp only [pif_22, oel_22, k_si, k_sj, pif_same, oel_same, k_X6_set, k_X6_put, k_X0_showTag, k_X4_repeat]
set_option maxHeartbeats 400000 in
set_option maxRecDepth 100000 in
theorem c_X7_sendRequest {l : Launch} {D : va_G} {ar : Nat → ClassId} {A : Nat → Prop} {Z : zZ} {S : zS} {n : Nat} {c a : Nat} {x : Int32} (hV : zV n Z S.2.2) (hc : c < 4) (ha : Z.2.1 0 a) (hc0 : ¬ gi S 1 0 2 < 0) : zMet l yX7_sendRequest prog_1_method_32_code 6 none ({ frames := 1, cells := 0, slots := 0, locals := 24 } : Room) D ar A Z S [.ref (Z.1 7 (0)), .ref (Z.1 2 (c)), .ref (Z.1 0 (a)), .int (x)] rvV (zF () Z (s_X7_sendRequest S n c a x)) := by
  refine z_body (by decide +kernel) (Nat.le_of_ble_eq_true rfl) ?_
  intro pX eX sX mX bX methX cX ls hM hr hlk hml hin hl hW hlo
  have hM : zM pX cX mX _ sX prog_1_method_32_code RX7 D ar := hM
  have hS : va_S A sX.heap sX.heap [] := va_S.rf
  have hl : lv_has ls 6 [(0, .ref (Z.1 7 (0))), (1, .ref (Z.1 2 (c))), (2, .ref (Z.1 0 (a))), (3, .int (x))] := hl
  refine lv_aload_n hM.1 hM.2.1 dX7_sendRequest_0 rfl (lv_at hl 0 rfl) ?_
  refine z_getr hM hW zc7 hV.d7 rfl 4 (by decide) lf_X7_65 (t := 1) (j := 0) rfl hV.r74 dX7_sendRequest_1 (fun hd1_1 => ?_)
  refine z_Vr hM (hml.trans hl.1.symm) hW hS hlo zc1 hd1_1 rfl zyX1_next lm_X7_154 li_yX1_next le_yX1_next (As := []) (rest := []) (c_X1_next (pm := pmR S.2.2) hV.d1 hV.r10 hV.l15 hV.pm hc0) rfl rfl (Nat.le_of_ble_eq_true rfl) ⟨Nat.le_of_ble_eq_true rfl, Nat.le_of_ble_eq_true rfl⟩ ⟨Nat.le_of_ble_eq_true rfl, Nat.le_of_ble_eq_true rfl⟩ dX7_sendRequest_4 (fun H locs hW hS => ?_)
  by_cases hn_4 : (gi S 1 (0) (2)) < (300)
  ·
    rw [r_next_pos hn_4]
    rw [s_next_pos hn_4] at hW
    have hb_4 := hV.pmlt (next_lt hc0 hn_4)
    have hd_4 := hV.d4 hb_4
    refine lv_astore hM.1 hM.2.1 dX7_sendRequest_7 hl (by decide) (lv' := [(4, .ref (Z.1 4 (pmR S.2.2 (ix (gi S 1 (0) (2)))))), (0, .ref (Z.1 7 (0))), (1, .ref (Z.1 2 (c))), (2, .ref (Z.1 0 (a))), (3, .int (x))]) rfl (fun ls hl => ?_)
    refine lv_aload hM.1 hM.2.1 dX7_sendRequest_9 (lv_at hl 0 rfl) ?_
    refine lv_ifnonnull hM.1 hM.2.1 dX7_sendRequest_11 (tgt := 15) (by decide) ?_
    refine lv_aload_n hM.1 hM.2.1 dX7_sendRequest_15 rfl (lv_at hl 2 rfl) ?_
    refine z_get hM hW zc2 (hV.d2 hc) rfl 3 (by decide) lf_X7_189 (v := .int (gi S 2 (c) (3))) rfl dX7_sendRequest_16 ?_
    refine lv_istore hM.1 hM.2.1 dX7_sendRequest_19 hl (by decide) (lv' := [(5, .int (gi S 2 (c) (3))), (4, .ref (Z.1 4 (pmR S.2.2 (ix (gi S 1 (0) (2)))))), (0, .ref (Z.1 7 (0))), (1, .ref (Z.1 2 (c))), (2, .ref (Z.1 0 (a))), (3, .int (x))]) rfl (fun ls hl => ?_)
    refine lv_aload hM.1 hM.2.1 dX7_sendRequest_21 (lv_at hl 1 rfl) ?_
    refine lv_iconst (v := 0) hM.1 hM.2.1 dX7_sendRequest_23 (by decide) ?_
    refine z_puti hM hW hS zc4 hd_4 rfl 1 (by decide) rfl lf_X7_134 (Or.inl rfl) (tyX4 1) (tyX4_ok 1 (by decide)) rfl rfl dX7_sendRequest_24 (fun H locs hW hS => ?_)
    refine lv_aload hM.1 hM.2.1 dX7_sendRequest_27 (lv_at hl 1 rfl) ?_
    refine lv_iload_n hM.1 hM.2.1 dX7_sendRequest_29 rfl (lv_at hl 5 rfl) ?_
    refine z_puti hM hW hS zc4 hd_4 rfl 2 (by decide) rfl lf_X7_195 (Or.inl rfl) (tyX4 2) (tyX4_ok 2 (by decide)) rfl rfl dX7_sendRequest_30 (fun H locs hW hS => ?_)
    refine lv_aload hM.1 hM.2.1 dX7_sendRequest_33 (lv_at hl 1 rfl) ?_
    refine lv_aload_n hM.1 hM.2.1 dX7_sendRequest_35 rfl (lv_at hl 3 rfl) ?_
    refine z_get hM hW zc2 (hV.d2 hc) rfl 0 (by decide) lf_X7_245 (v := .int (gi S 2 (c) (0))) rfl dX7_sendRequest_36 ?_
    refine z_puti hM hW hS zc4 hd_4 rfl 3 (by decide) rfl lf_X7_198 (Or.inl rfl) (tyX4 3) (tyX4_ok 3 (by decide)) rfl rfl dX7_sendRequest_39 (fun H locs hW hS => ?_)
    refine lv_aload hM.1 hM.2.1 dX7_sendRequest_42 (lv_at hl 1 rfl) ?_
    refine lv_aload_n hM.1 hM.2.1 dX7_sendRequest_44 rfl (lv_at hl 4 rfl) ?_
    refine z_get hM hW zc0 ha rfl 0 (by decide) lf_X7_119 (v := .int (gi S 0 (a) (0))) rfl dX7_sendRequest_45 ?_
    refine z_puti hM hW hS zc4 hd_4 rfl 4 (by decide) rfl lf_X7_201 (Or.inl rfl) (tyX4 4) (tyX4_ok 4 (by decide)) rfl rfl dX7_sendRequest_48 (fun H locs hW hS => ?_)
    refine lv_aload hM.1 hM.2.1 dX7_sendRequest_51 (lv_at hl 1 rfl) ?_
    refine lv_iload hM.1 hM.2.1 dX7_sendRequest_53 (lv_at hl 0 rfl) ?_
    refine z_puti hM hW hS zc4 hd_4 rfl 5 (by decide) rfl lf_X7_204 (Or.inl rfl) (tyX4 5) (tyX4_ok 5 (by decide)) rfl rfl dX7_sendRequest_55 (fun H locs hW hS => ?_)
    refine lv_aload hM.1 hM.2.1 dX7_sendRequest_58 (lv_at hl 1 rfl) ?_
    refine lv_aload_n hM.1 hM.2.1 dX7_sendRequest_60 rfl (lv_at hl 3 rfl) ?_
    refine z_get hM hW zc2 (hV.d2 hc) rfl 4 (by decide) lf_X7_246 (v := .int (gi S 2 (c) (4))) rfl dX7_sendRequest_61 ?_
    refine z_puti hM hW hS zc4 hd_4 rfl 6 (by decide) rfl lf_X7_207 (Or.inl rfl) (tyX4 6) (tyX4_ok 6 (by decide)) rfl rfl dX7_sendRequest_64 (fun H locs hW hS => ?_)
    refine lv_aload hM.1 hM.2.1 dX7_sendRequest_67 (lv_at hl 1 rfl) ?_
    refine lv_iconst (v := (-1)) hM.1 hM.2.1 dX7_sendRequest_69 (by decide) ?_
    refine z_puti hM hW hS zc4 hd_4 rfl 7 (by decide) rfl lf_X7_262 (Or.inl rfl) (tyX4 7) (tyX4_ok 7 (by decide)) rfl rfl dX7_sendRequest_70 (fun H locs hW hS => ?_)
    refine lv_aload hM.1 hM.2.1 dX7_sendRequest_73 (lv_at hl 1 rfl) ?_
    refine lv_iload hM.1 hM.2.1 dX7_sendRequest_75 (lv_at hl 0 rfl) ?_
    refine lv_iconst (v := 3) hM.1 hM.2.1 dX7_sendRequest_77 (by decide) ?_
    refine lv_icmp_eq hM.1 hM.2.1 dX7_sendRequest_78 (tgt := 87) (by decide) (fun h_78 => ?_) (fun h_78 => ?_)
    ·
      refine lv_aload_n hM.1 hM.2.1 dX7_sendRequest_87 rfl (lv_at hl 4 rfl) ?_
      refine z_get hM hW zc0 ha rfl 7 (by decide) lf_X7_226 (v := .int (gi S 0 (a) (7))) rfl dX7_sendRequest_88 ?_
      refine lv_goto hM.1 hM.2.1 dX7_sendRequest_91 (tgt := 95) (by decide) ?_
      refine z_puti hM hW hS zc4 hd_4 rfl 8 (by decide) rfl lf_X7_206 (Or.inl rfl) (tyX4 8) (tyX4_ok 8 (by decide)) rfl rfl dX7_sendRequest_95 (fun H locs hW hS => ?_)
      refine lv_iload hM.1 hM.2.1 dX7_sendRequest_98 (lv_at hl 0 rfl) ?_
      refine lv_iconst (v := 2) hM.1 hM.2.1 dX7_sendRequest_100 (by decide) ?_
      refine lv_icmp_eq hM.1 hM.2.1 dX7_sendRequest_101 (tgt := 110) (by decide) (fun h => absurd h (fun q => absurd (h_78.symm.trans q) (by decide))) (fun _ => ?_)
      refine lv_iload hM.1 hM.2.1 dX7_sendRequest_104 (lv_at hl 0 rfl) ?_
      refine lv_iconst (v := 4) hM.1 hM.2.1 dX7_sendRequest_106 (by decide) ?_
      refine lv_icmp_ne hM.1 hM.2.1 dX7_sendRequest_107 (tgt := 125) (by decide) (fun _ => ?_) (fun h => absurd h (fun q => absurd (h_78.symm.trans q) (by decide)))
      refine lv_aload hM.1 hM.2.1 dX7_sendRequest_125 (lv_at hl 1 rfl) ?_
      refine z_getr hM hW zc4 hd_4 rfl 0 (by decide) lf_X7_205 (t := 6) (j := 20 + (pmR S.2.2 (ix (gi S 1 (0) (2))))) rfl (hV.r4 hb_4) dX7_sendRequest_127 (fun hd2_127 => ?_)
      refine lv_iconst (v := 0) hM.1 hM.2.1 dX7_sendRequest_130 (by decide) ?_
      refine lv_iconst (v := 0) hM.1 hM.2.1 dX7_sendRequest_131 (by decide) ?_
      refine lv_lconst (v := 0) hM.1 hM.2.1 dX7_sendRequest_132 (by decide) ?_
      refine z_Vv hM (hml.trans hl.1.symm) hW hS hlo zc6 hd2_127 rfl zyX6_put lm_X7_248 li_yX6_put le_yX6_put (As := [.int (0), .int (0), .long (0)]) (rest := []) (c_X6_put hd2_127) rfl rfl (Nat.le_of_ble_eq_true rfl) ⟨Nat.le_of_ble_eq_true rfl, Nat.le_of_ble_eq_true rfl⟩ ⟨Nat.le_of_ble_eq_true rfl, Nat.le_of_ble_eq_true rfl⟩ dX7_sendRequest_133 (fun H locs hW hS => ?_)
      exact z_vret hM hlk hr hW hS (zF.of rfl (by unfold s_X7_sendRequest; rw [pif_pos hn_4, pif_pos h_78]; first | done | rfl)) dX7_sendRequest_136
    ·
      refine lv_iload hM.1 hM.2.1 dX7_sendRequest_81 (lv_at hl 0 rfl) ?_
      refine lv_iconst (v := 5) hM.1 hM.2.1 dX7_sendRequest_83 (by decide) ?_
      refine lv_icmp_ne hM.1 hM.2.1 dX7_sendRequest_84 (tgt := 94) (by decide) (fun h_84 => ?_) (fun h_84 => ?_)
      ·
        refine lv_iconst (v := (-1)) hM.1 hM.2.1 dX7_sendRequest_94 (by decide) ?_
        refine z_puti hM hW hS zc4 hd_4 rfl 8 (by decide) rfl lf_X7_206 (Or.inl rfl) (tyX4 8) (tyX4_ok 8 (by decide)) rfl rfl dX7_sendRequest_95 (fun H locs hW hS => ?_)
        refine lv_iload hM.1 hM.2.1 dX7_sendRequest_98 (lv_at hl 0 rfl) ?_
        refine lv_iconst (v := 2) hM.1 hM.2.1 dX7_sendRequest_100 (by decide) ?_
        refine lv_icmp_eq hM.1 hM.2.1 dX7_sendRequest_101 (tgt := 110) (by decide) (fun h_101 => ?_) (fun h_101 => ?_)
        ·
          refine lv_aload hM.1 hM.2.1 dX7_sendRequest_110 (lv_at hl 1 rfl) ?_
          refine z_getr hM hW zc4 hd_4 rfl 0 (by decide) lf_X7_205 (t := 6) (j := 20 + (pmR S.2.2 (ix (gi S 1 (0) (2))))) rfl (hV.r4 hb_4) dX7_sendRequest_112 (fun hd3_112 => ?_)
          refine lv_aload_n hM.1 hM.2.1 dX7_sendRequest_115 rfl (lv_at hl 3 rfl) ?_
          refine z_getr hM hW zc2 (hV.d2 hc) rfl 1 (by decide) lf_X7_247 (t := 6) (j := 10 + c) rfl (hV.r2 hc) dX7_sendRequest_116 (fun hd4_116 => ?_)
          refine z_Vv hM (hml.trans hl.1.symm) hW hS hlo zc6 hd3_112 rfl zyX6_set lm_X7_263 li_yX6_set le_yX6_set (As := [.ref (Z.1 6 (10 + c))]) (rest := []) (c_X6_set hd3_112 hd4_116) rfl rfl (Nat.le_of_ble_eq_true rfl) ⟨Nat.le_of_ble_eq_true rfl, Nat.le_of_ble_eq_true rfl⟩ ⟨Nat.le_of_ble_eq_true rfl, Nat.le_of_ble_eq_true rfl⟩ dX7_sendRequest_119 (fun H locs hW hS => ?_)
          refine lv_goto hM.1 hM.2.1 dX7_sendRequest_122 (tgt := 136) (by decide) ?_
          exact z_vret hM hlk hr hW hS (zF.of rfl (by unfold s_X7_sendRequest; rw [pif_pos hn_4, pif_neg h_78, pif_neg h_84, pif_pos h_101]; first | done | rfl)) dX7_sendRequest_136
        ·
          refine lv_iload hM.1 hM.2.1 dX7_sendRequest_104 (lv_at hl 0 rfl) ?_
          refine lv_iconst (v := 4) hM.1 hM.2.1 dX7_sendRequest_106 (by decide) ?_
          refine lv_icmp_ne hM.1 hM.2.1 dX7_sendRequest_107 (tgt := 125) (by decide) (fun h_107 => ?_) (fun h_107 => ?_)
          ·
            refine lv_aload hM.1 hM.2.1 dX7_sendRequest_125 (lv_at hl 1 rfl) ?_
            refine z_getr hM hW zc4 hd_4 rfl 0 (by decide) lf_X7_205 (t := 6) (j := 20 + (pmR S.2.2 (ix (gi S 1 (0) (2))))) rfl (hV.r4 hb_4) dX7_sendRequest_127 (fun hd5_127 => ?_)
            refine lv_iconst (v := 0) hM.1 hM.2.1 dX7_sendRequest_130 (by decide) ?_
            refine lv_iconst (v := 0) hM.1 hM.2.1 dX7_sendRequest_131 (by decide) ?_
            refine lv_lconst (v := 0) hM.1 hM.2.1 dX7_sendRequest_132 (by decide) ?_
            refine z_Vv hM (hml.trans hl.1.symm) hW hS hlo zc6 hd5_127 rfl zyX6_put lm_X7_248 li_yX6_put le_yX6_put (As := [.int (0), .int (0), .long (0)]) (rest := []) (c_X6_put hd5_127) rfl rfl (Nat.le_of_ble_eq_true rfl) ⟨Nat.le_of_ble_eq_true rfl, Nat.le_of_ble_eq_true rfl⟩ ⟨Nat.le_of_ble_eq_true rfl, Nat.le_of_ble_eq_true rfl⟩ dX7_sendRequest_133 (fun H locs hW hS => ?_)
            exact z_vret hM hlk hr hW hS (zF.of rfl (by unfold s_X7_sendRequest; rw [pif_pos hn_4, pif_neg h_78, pif_neg h_84, pif_neg h_101, pif_neg h_107]; first | done | rfl)) dX7_sendRequest_136
          ·
            refine lv_aload hM.1 hM.2.1 dX7_sendRequest_110 (lv_at hl 1 rfl) ?_
            refine z_getr hM hW zc4 hd_4 rfl 0 (by decide) lf_X7_205 (t := 6) (j := 20 + (pmR S.2.2 (ix (gi S 1 (0) (2))))) rfl (hV.r4 hb_4) dX7_sendRequest_112 (fun hd6_112 => ?_)
            refine lv_aload_n hM.1 hM.2.1 dX7_sendRequest_115 rfl (lv_at hl 3 rfl) ?_
            refine z_getr hM hW zc2 (hV.d2 hc) rfl 1 (by decide) lf_X7_247 (t := 6) (j := 10 + c) rfl (hV.r2 hc) dX7_sendRequest_116 (fun hd7_116 => ?_)
            refine z_Vv hM (hml.trans hl.1.symm) hW hS hlo zc6 hd6_112 rfl zyX6_set lm_X7_263 li_yX6_set le_yX6_set (As := [.ref (Z.1 6 (10 + c))]) (rest := []) (c_X6_set hd6_112 hd7_116) rfl rfl (Nat.le_of_ble_eq_true rfl) ⟨Nat.le_of_ble_eq_true rfl, Nat.le_of_ble_eq_true rfl⟩ ⟨Nat.le_of_ble_eq_true rfl, Nat.le_of_ble_eq_true rfl⟩ dX7_sendRequest_119 (fun H locs hW hS => ?_)
            refine lv_goto hM.1 hM.2.1 dX7_sendRequest_122 (tgt := 136) (by decide) ?_
            exact z_vret hM hlk hr hW hS (zF.of rfl (by unfold s_X7_sendRequest; rw [pif_pos hn_4, pif_neg h_78, pif_neg h_84, pif_neg h_101, pif_pos h_107]; first | done | rfl)) dX7_sendRequest_136
      ·
        refine lv_aload_n hM.1 hM.2.1 dX7_sendRequest_87 rfl (lv_at hl 4 rfl) ?_
        refine z_get hM hW zc0 ha rfl 7 (by decide) lf_X7_226 (v := .int (gi S 0 (a) (7))) rfl dX7_sendRequest_88 ?_
        refine lv_goto hM.1 hM.2.1 dX7_sendRequest_91 (tgt := 95) (by decide) ?_
        refine z_puti hM hW hS zc4 hd_4 rfl 8 (by decide) rfl lf_X7_206 (Or.inl rfl) (tyX4 8) (tyX4_ok 8 (by decide)) rfl rfl dX7_sendRequest_95 (fun H locs hW hS => ?_)
        refine lv_iload hM.1 hM.2.1 dX7_sendRequest_98 (lv_at hl 0 rfl) ?_
        refine lv_iconst (v := 2) hM.1 hM.2.1 dX7_sendRequest_100 (by decide) ?_
        refine lv_icmp_eq hM.1 hM.2.1 dX7_sendRequest_101 (tgt := 110) (by decide) (fun h => absurd h (fun q => absurd (h_84.symm.trans q) (by decide))) (fun _ => ?_)
        refine lv_iload hM.1 hM.2.1 dX7_sendRequest_104 (lv_at hl 0 rfl) ?_
        refine lv_iconst (v := 4) hM.1 hM.2.1 dX7_sendRequest_106 (by decide) ?_
        refine lv_icmp_ne hM.1 hM.2.1 dX7_sendRequest_107 (tgt := 125) (by decide) (fun _ => ?_) (fun h => absurd h (fun q => absurd (h_84.symm.trans q) (by decide)))
        refine lv_aload hM.1 hM.2.1 dX7_sendRequest_125 (lv_at hl 1 rfl) ?_
        refine z_getr hM hW zc4 hd_4 rfl 0 (by decide) lf_X7_205 (t := 6) (j := 20 + (pmR S.2.2 (ix (gi S 1 (0) (2))))) rfl (hV.r4 hb_4) dX7_sendRequest_127 (fun hd8_127 => ?_)
        refine lv_iconst (v := 0) hM.1 hM.2.1 dX7_sendRequest_130 (by decide) ?_
        refine lv_iconst (v := 0) hM.1 hM.2.1 dX7_sendRequest_131 (by decide) ?_
        refine lv_lconst (v := 0) hM.1 hM.2.1 dX7_sendRequest_132 (by decide) ?_
        refine z_Vv hM (hml.trans hl.1.symm) hW hS hlo zc6 hd8_127 rfl zyX6_put lm_X7_248 li_yX6_put le_yX6_put (As := [.int (0), .int (0), .long (0)]) (rest := []) (c_X6_put hd8_127) rfl rfl (Nat.le_of_ble_eq_true rfl) ⟨Nat.le_of_ble_eq_true rfl, Nat.le_of_ble_eq_true rfl⟩ ⟨Nat.le_of_ble_eq_true rfl, Nat.le_of_ble_eq_true rfl⟩ dX7_sendRequest_133 (fun H locs hW hS => ?_)
        exact z_vret hM hlk hr hW hS (zF.of rfl (by unfold s_X7_sendRequest; rw [pif_pos hn_4, pif_neg h_78, pif_pos h_84]; first | done | rfl)) dX7_sendRequest_136
  ·
    rw [r_next_neg hn_4]
    rw [s_next_neg hn_4] at hW
    refine lv_astoreN hM.1 hM.2.1 dX7_sendRequest_7 hl (by decide) (lv' := [(4, .null), (0, .ref (Z.1 7 (0))), (1, .ref (Z.1 2 (c))), (2, .ref (Z.1 0 (a))), (3, .int (x))]) rfl (fun ls hl => ?_)
    refine lv_aloadN hM.1 hM.2.1 dX7_sendRequest_9 (lv_at hl 0 rfl) ?_
    refine lv_ifnonnullN hM.1 hM.2.1 dX7_sendRequest_11 ?_
    exact z_vret hM hlk hr hW hS (zF.of rfl (by unfold s_X7_sendRequest; rw [pif_neg hn_4]; first | done | rfl)) dX7_sendRequest_14
end
section
theorem hc0_send {S : zS} {n c a : Nat} {x : Int32} (hc0 : ¬ gi S 1 0 2 < 0) : ¬ gi (s_X7_sendRequest S n c a x) 1 0 2 < 0 := by
  unfold s_X7_sendRequest
  by_cases h : gi S 1 0 2 < 300
  · have e := inc300 hc0 h
    simp only [pif_pos h, gi_pif, s_X6_set, s_X6_put, gi_sj]
    simp only [gi_si]
    simp [pif_same, e]
  · rw [pif_neg h, gi_si]
    simp [hc0]
/-- requests to those that have not answered, from k on -/
noncomputable def lSend (n c a : Nat) : Nat → Nat → zS → Int32 → zS × Int32
  | 0, _, T, r => (T, r)
  | f + 1, k, T, r => pif ((r_X2_hasAnswerOf T (c) (nI k)) = (0)) (lSend n c a f (k + 1) (s_X7_sendRequest T n (c) (a) (nI k)) (r + 1)) (lSend n c a f (k + 1) T r)
noncomputable def s_X7_sendRequests (S : zS) (n c a : Nat) : zS := (lSend n c a n 0 S 0).1
noncomputable def r_X7_sendRequests (S : zS) (n c a : Nat) : Int32 := (lSend n c a n 0 S 0).2
theorem lSend_keep {n c a : Nat} : ∀ (f k : Nat) (T : zS) (r : Int32), (lSend n c a f k T r).1.2.2 = T.2.2 ∧ (¬ gi T 1 0 2 < 0 → ¬ gi (lSend n c a f k T r).1 1 0 2 < 0) := by
  intro f
  induction f with
  | zero => intro k T r; exact ⟨rfl, fun h => h⟩
  | succ f ih =>
    intro k T r
    by_cases h : (r_X2_hasAnswerOf T (c) (nI k)) = (0)
    · have e : lSend n c a (f + 1) k T r = lSend n c a f (k + 1) (s_X7_sendRequest T n (c) (a) (nI k)) (r + 1) := by show pif _ _ _ = _; rw [pif_pos h]
      rw [e]
      exact ⟨(ih _ _ _).1.trans k_X7_sendRequest, fun q => (ih _ _ _).2 (hc0_send q)⟩
    · have e : lSend n c a (f + 1) k T r = lSend n c a f (k + 1) T r := by show pif _ _ _ = _; rw [pif_neg h]
      rw [e]
      exact ih _ _ _
theorem k_X7_sendRequests {S : zS} {n c a : Nat} : (s_X7_sendRequests S n c a).2.2 = S.2.2 := (lSend_keep _ _ _ _).1
theorem hc0_sends {S : zS} {n c a : Nat} (h : ¬ gi S 1 0 2 < 0) : ¬ gi (s_X7_sendRequests S n c a) 1 0 2 < 0 := (lSend_keep _ _ _ _).2 h
theorem gi_obey {S : zS} {c j : Nat} {i f : Nat} : gi (s_X3_obey S c j) 1 i f = gi S 1 i f := by
  unfold s_X3_obey
  simp only [gi_pif, s_X6_set, gi_sj]
  simp only [gi_si]
  simp [pif_same]
theorem gi_obey4 {S : zS} {c j : Nat} {i f : Nat} : gi (s_X3_obey S c j) 4 i f = gi S 4 i f := by
  unfold s_X3_obey
  simp only [gi_pif, s_X6_set, gi_sj]
  simp only [gi_si]
  simp [pif_same]
theorem k_X3_obey {S : zS} {c j : Nat} : (s_X3_obey S c j).2.2 = S.2.2 := by
  unfold s_X3_obey
  simp only [pif_22, k_si, k_sj, k_X6_set, pif_same]
set_option maxHeartbeats 400000 in
set_option maxRecDepth 100000 in
theorem c_X7_sendRequests {l : Launch} {D : va_G} {ar : Nat → ClassId} {A : Nat → Prop} {Z : zZ} {S : zS} {n c a : Nat} (hV : zV n Z S.2.2) (hc : c < 4) (ha : Z.2.1 0 a) (hc0 : ¬ gi S 1 0 2 < 0) : zMet l yX7_sendRequests prog_1_method_31_code 5 (some .int) ({ frames := 2, cells := 0, slots := 0, locals := 49 } : Room) D ar A Z S [.ref (Z.1 7 (0)), .ref (Z.1 2 (c)), .ref (Z.1 0 (a))] rvI (zF (r_X7_sendRequests S n c a) Z (s_X7_sendRequests S n c a)) := by
  refine z_body (by decide +kernel) (Nat.le_of_ble_eq_true rfl) ?_
  intro pX eX sX mX bX methX cX ls hM hr hlk hml hin hl hW hlo
  have hM : zM pX cX mX _ sX prog_1_method_31_code RX7 D ar := hM
  have hS : va_S A sX.heap sX.heap [] := va_S.rf
  have hl : lv_has ls 5 [(0, .ref (Z.1 7 (0))), (1, .ref (Z.1 2 (c))), (2, .ref (Z.1 0 (a)))] := hl
  have loop : ∀ (f k : Nat) (T : zS) (r : Int32) (ls : Array Slot) (H : Heap) (locs : List Loc), k + f = n → lSend n c a f k T r = lSend n c a n 0 S 0 → T.2.2 = S.2.2 → ¬ gi T 1 0 2 < 0 → lv_has ls 5 [(4, .int (nI k)), (3, .int (r)), (0, .ref (Z.1 7 (0))), (1, .ref (Z.1 2 (c))), (2, .ref (Z.1 0 (a)))] → zW D ar A Z T H → va_S A sX.heap H locs → W pX l eX ({ frames := 2, cells := 0, slots := 0, locals := 49 } : Room) sX mX ([.ref (Z.1 7 (0)), .ref (Z.1 2 (c)), .ref (Z.1 0 (a))] : List Value).toArray bX methX cX H locs 0 0 (MQ bX (zQ D ar A rvI (zF (r_X7_sendRequests S n c a) Z (s_X7_sendRequests S n c a))) ([.ref (Z.1 7 (0)), .ref (Z.1 2 (c)), .ref (Z.1 0 (a))] : List Value).toArray sX 0 0 A) (F0 mX 5 ls []) := by
    intro f
    induction f with
    | zero =>
      intro k T r ls H locs hk hE hT hT0 hl hW hS
      have hc9 : nI n ≤ nI k := by rw [show k = n by omega]; exact Int32.le_refl _
      refine lv_iload hM.1 hM.2.1 dX7_sendRequests_5 (lv_at hl 0 rfl) ?_
      refine lv_aload_n hM.1 hM.2.1 dX7_sendRequests_7 rfl (lv_at hl 2 rfl) ?_
      refine z_getr hM hW zc7 hV.d7 rfl 0 (by decide) lf_X7_20 (t := 14) (j := 0) rfl ((gr_of hT).trans hV.r70) dX7_sendRequests_8 (fun hd1_8 => ?_)
      refine z_alen hM hW hd1_8 (by decide) rfl 5 rfl (v := nI n) (by rw [hV.l14]; rfl) dX7_sendRequests_11 ?_
      refine lv_icmp_ge hM.1 hM.2.1 dX7_sendRequests_12 (tgt := 41) (by decide) (fun _ => ?_) (fun h => absurd hc9 h)
      refine lv_iload_n hM.1 hM.2.1 dX7_sendRequests_41 rfl (lv_at hl 1 rfl) ?_
      exact z_iret hM hlk hr rfl hW hS (zF.of (by unfold r_X7_sendRequests; rw [← hE]; rfl) (by unfold s_X7_sendRequests; rw [← hE]; rfl)) dX7_sendRequests_42
    | succ f ih =>
      intro k T r ls H locs hk hE hT hT0 hl hW hS
      have hc9 : ¬ nI n ≤ nI k := nI_ge (by omega) (by have := hV.n7; omega)
      refine lv_iload hM.1 hM.2.1 dX7_sendRequests_5 (lv_at hl 0 rfl) ?_
      refine lv_aload_n hM.1 hM.2.1 dX7_sendRequests_7 rfl (lv_at hl 2 rfl) ?_
      refine z_getr hM hW zc7 hV.d7 rfl 0 (by decide) lf_X7_20 (t := 14) (j := 0) rfl ((gr_of hT).trans hV.r70) dX7_sendRequests_8 (fun hd2_8 => ?_)
      refine z_alen hM hW hd2_8 (by decide) rfl 5 rfl (v := nI n) (by rw [hV.l14]; rfl) dX7_sendRequests_11 ?_
      refine lv_icmp_ge hM.1 hM.2.1 dX7_sendRequests_12 (tgt := 41) (by decide) (fun h => absurd h hc9) (fun _ => ?_)
      refine lv_aload_n hM.1 hM.2.1 dX7_sendRequests_15 rfl (lv_at hl 3 rfl) ?_
      refine lv_iload hM.1 hM.2.1 dX7_sendRequests_16 (lv_at hl 0 rfl) ?_
      refine z_Vi hM (hml.trans hl.1.symm) hW hS hlo zc2 (hV.d2 hc) rfl zyX2_hasAnswerOf lm_X7_256 li_yX2_hasAnswerOf le_yX2_hasAnswerOf (As := [.int (nI k)]) (rest := []) (c_X2_hasAnswerOf (hV.d2 hc)) rfl rfl (Nat.le_of_ble_eq_true rfl) ⟨Nat.le_of_ble_eq_true rfl, Nat.le_of_ble_eq_true rfl⟩ ⟨Nat.le_of_ble_eq_true rfl, Nat.le_of_ble_eq_true rfl⟩ dX7_sendRequests_18 (fun H locs hW hS => ?_)
      refine lv_if_ne hM.1 hM.2.1 dX7_sendRequests_21 (tgt := 35) (by decide) (fun h_21 => ?_) (fun h_21 => ?_)
      ·
        refine lv_iinc hM.1 hM.2.1 dX7_sendRequests_35 hl (k := 0) rfl (v := nI (k + 1)) (nI_succ _).symm (by decide) (lv' := [(4, .int (nI (k + 1))), (3, .int (r)), (0, .ref (Z.1 7 (0))), (1, .ref (Z.1 2 (c))), (2, .ref (Z.1 0 (a)))]) rfl (fun ls hl => ?_)
        refine lv_goto hM.1 hM.2.1 dX7_sendRequests_38 (tgt := 5) (by decide) ?_
        exact ih (k + 1) _ _ ls H locs (by omega) (by rw [show lSend n c a (f + 1) k T r = pif _ _ _ from rfl, pif_neg h_21] at hE; exact hE) hT hT0 hl hW hS
      ·
        refine lv_aload_n hM.1 hM.2.1 dX7_sendRequests_24 rfl (lv_at hl 2 rfl) ?_
        refine lv_aload_n hM.1 hM.2.1 dX7_sendRequests_25 rfl (lv_at hl 3 rfl) ?_
        refine lv_aload_n hM.1 hM.2.1 dX7_sendRequests_26 rfl (lv_at hl 4 rfl) ?_
        refine lv_iload hM.1 hM.2.1 dX7_sendRequests_27 (lv_at hl 0 rfl) ?_
        refine z_Vv hM (hml.trans hl.1.symm) hW hS hlo zc7 hV.d7 rfl zyX7_sendRequest lm_X7_259 li_yX7_sendRequest le_yX7_sendRequest (As := [.ref (Z.1 2 (c)), .ref (Z.1 0 (a)), .int (nI k)]) (rest := []) (c_X7_sendRequest (hV.of hT) hc ha hT0) rfl rfl (Nat.le_of_ble_eq_true rfl) ⟨Nat.le_of_ble_eq_true rfl, Nat.le_of_ble_eq_true rfl⟩ ⟨Nat.le_of_ble_eq_true rfl, Nat.le_of_ble_eq_true rfl⟩ dX7_sendRequests_29 (fun H locs hW hS => ?_)
        obtain ⟨B1, hB1⟩ : ∃ B, B = (s_X7_sendRequest T n (c) (a) (nI k)) := ⟨_, rfl⟩
        rw [← hB1] at hW
        have ke_B1 : B1.2.2 = S.2.2 := by rw [hB1]; simp only [pif_22, oel_22, k_si, k_sj, pif_same, oel_same, k_X6_set, k_X6_put, k_X0_showTag, k_X4_repeat, k_X7_sendRequest, hT]
        refine lv_iinc hM.1 hM.2.1 dX7_sendRequests_32 hl (k := 1) rfl (v := r + 1) rfl (by decide) (lv' := [(3, .int (r + 1)), (4, .int (nI k)), (0, .ref (Z.1 7 (0))), (1, .ref (Z.1 2 (c))), (2, .ref (Z.1 0 (a)))]) rfl (fun ls hl => ?_)
        refine lv_iinc hM.1 hM.2.1 dX7_sendRequests_35 hl (k := 1) rfl (v := nI (k + 1)) (nI_succ _).symm (by decide) (lv' := [(4, .int (nI (k + 1))), (3, .int (r + 1)), (0, .ref (Z.1 7 (0))), (1, .ref (Z.1 2 (c))), (2, .ref (Z.1 0 (a)))]) rfl (fun ls hl => ?_)
        refine lv_goto hM.1 hM.2.1 dX7_sendRequests_38 (tgt := 5) (by decide) ?_
        exact ih (k + 1) _ _ ls H locs (by omega) (by rw [show lSend n c a (f + 1) k T r = pif _ _ _ from rfl, pif_pos h_21] at hE; rw [hB1]; exact hE) ke_B1 (by subst hB1; exact hc0_send hT0) hl hW hS
  refine lv_iconst (v := 0) hM.1 hM.2.1 dX7_sendRequests_0 (by decide) ?_
  refine lv_istore_n hM.1 hM.2.1 dX7_sendRequests_1 rfl hl (by decide) (lv' := [(3, .int (0)), (0, .ref (Z.1 7 (0))), (1, .ref (Z.1 2 (c))), (2, .ref (Z.1 0 (a)))]) rfl (fun ls hl => ?_)
  refine lv_iconst (v := 0) hM.1 hM.2.1 dX7_sendRequests_2 (by decide) ?_
  refine lv_istore hM.1 hM.2.1 dX7_sendRequests_3 hl (by decide) (lv' := [(4, .int (0)), (3, .int (0)), (0, .ref (Z.1 7 (0))), (1, .ref (Z.1 2 (c))), (2, .ref (Z.1 0 (a)))]) rfl (fun ls hl => ?_)
  exact loop n 0 S 0 ls _ _ (by omega) rfl rfl hc0 hl hW hS

noncomputable def s_X7_beginPhase (S : zS) (n : Nat) (c a : Nat) (x : Int32) : zS := 
  (pif ((x) = (5)) ((s_X7_sendRequests (si (si (si (si S 2 (c) (3) (x)) 2 (c) (4) ((gi S 2 (c) (4)) + (1))) 2 (c) (5) (0)) 2 (c) (6) (gi S 0 (a) (7))) n (c) (a))) ((s_X7_sendRequests (si (si (si S 2 (c) (3) (x)) 2 (c) (4) ((gi S 2 (c) (4)) + (1))) 2 (c) (5) (0)) n (c) (a))))
theorem k_X7_beginPhase {S : zS} {n : Nat} {c a : Nat} {x : Int32} : (s_X7_beginPhase S n c a x).2.2 = S.2.2 := by unfold s_X7_beginPhase; simp only [pif_22, oel_22, k_si, k_sj, pif_same, oel_same, k_X6_set, k_X6_put, k_X0_showTag, k_X4_repeat, k_X7_sendRequest, k_X7_sendRequests]
set_option maxHeartbeats 400000 in
set_option maxRecDepth 100000 in
theorem c_X7_beginPhase {l : Launch} {D : va_G} {ar : Nat → ClassId} {A : Nat → Prop} {Z : zZ} {S : zS} {n : Nat} {c a : Nat} {x : Int32} (hV : zV n Z S.2.2) (hc : c < 4) (ha : Z.2.1 0 a) (hc0 : ¬ gi S 1 0 2 < 0) : zMet l yX7_beginPhase prog_1_method_30_code 4 none ({ frames := 3, cells := 0, slots := 0, locals := 73 } : Room) D ar A Z S [.ref (Z.1 7 (0)), .ref (Z.1 2 (c)), .ref (Z.1 0 (a)), .int (x)] rvV (zF () Z (s_X7_beginPhase S n c a x)) := by
  refine z_body (by decide +kernel) (Nat.le_of_ble_eq_true rfl) ?_
  intro pX eX sX mX bX methX cX ls hM hr hlk hml hin hl hW hlo
  have hM : zM pX cX mX _ sX prog_1_method_30_code RX7 D ar := hM
  have hS : va_S A sX.heap sX.heap [] := va_S.rf
  have hl : lv_has ls 4 [(0, .ref (Z.1 7 (0))), (1, .ref (Z.1 2 (c))), (2, .ref (Z.1 0 (a))), (3, .int (x))] := hl
  refine lv_aload_n hM.1 hM.2.1 dX7_beginPhase_0 rfl (lv_at hl 1 rfl) ?_
  refine lv_iload_n hM.1 hM.2.1 dX7_beginPhase_1 rfl (lv_at hl 3 rfl) ?_
  refine z_puti hM hW hS zc2 (hV.d2 hc) rfl 3 (by decide) rfl lf_X7_189 (Or.inl rfl) (tyX2 3) (tyX2_ok 3 (by decide)) rfl rfl dX7_beginPhase_2 (fun H locs hW hS => ?_)
  refine lv_aload_n hM.1 hM.2.1 dX7_beginPhase_5 rfl (lv_at hl 1 rfl) ?_
  refine lv_dup hM.1 hM.2.1 dX7_beginPhase_6 rfl ?_
  refine z_get hM hW zc2 (hV.d2 hc) rfl 4 (by decide) lf_X7_246 (v := .int (gi S 2 (c) (4))) rfl dX7_beginPhase_7 ?_
  refine lv_iconst (v := 1) hM.1 hM.2.1 dX7_beginPhase_10 (by decide) ?_
  refine lv_iadd hM.1 hM.2.1 dX7_beginPhase_11 ?_
  refine z_puti hM hW hS zc2 (hV.d2 hc) rfl 4 (by decide) rfl lf_X7_246 (Or.inl rfl) (tyX2 4) (tyX2_ok 4 (by decide)) rfl rfl dX7_beginPhase_12 (fun H locs hW hS => ?_)
  refine lv_aload_n hM.1 hM.2.1 dX7_beginPhase_15 rfl (lv_at hl 1 rfl) ?_
  refine lv_iconst (v := 0) hM.1 hM.2.1 dX7_beginPhase_16 (by decide) ?_
  refine z_puti hM hW hS zc2 (hV.d2 hc) rfl 5 (by decide) rfl lf_X7_192 (Or.inl rfl) (tyX2 5) (tyX2_ok 5 (by decide)) rfl rfl dX7_beginPhase_17 (fun H locs hW hS => ?_)
  refine lv_iload_n hM.1 hM.2.1 dX7_beginPhase_20 rfl (lv_at hl 3 rfl) ?_
  refine lv_iconst (v := 5) hM.1 hM.2.1 dX7_beginPhase_21 (by decide) ?_
  refine lv_icmp_ne hM.1 hM.2.1 dX7_beginPhase_22 (tgt := 33) (by decide) (fun h_22 => ?_) (fun h_22 => ?_)
  ·
    refine lv_aload_n hM.1 hM.2.1 dX7_beginPhase_33 rfl (lv_at hl 0 rfl) ?_
    refine lv_aload_n hM.1 hM.2.1 dX7_beginPhase_34 rfl (lv_at hl 1 rfl) ?_
    refine lv_aload_n hM.1 hM.2.1 dX7_beginPhase_35 rfl (lv_at hl 2 rfl) ?_
    refine z_Vi hM (hml.trans hl.1.symm) hW hS hlo zc7 hV.d7 rfl zyX7_sendRequests lm_X7_109 li_yX7_sendRequests le_yX7_sendRequests (As := [.ref (Z.1 2 (c)), .ref (Z.1 0 (a))]) (rest := []) (c_X7_sendRequests hV hc ha hc0) rfl rfl (Nat.le_of_ble_eq_true rfl) ⟨Nat.le_of_ble_eq_true rfl, Nat.le_of_ble_eq_true rfl⟩ ⟨Nat.le_of_ble_eq_true rfl, Nat.le_of_ble_eq_true rfl⟩ dX7_beginPhase_36 (fun H locs hW hS => ?_)
    obtain ⟨B1, hB1⟩ : ∃ B, B = (s_X7_sendRequests (si (si (si S 2 (c) (3) (x)) 2 (c) (4) ((gi S 2 (c) (4)) + (1))) 2 (c) (5) (0)) n (c) (a)) := ⟨_, rfl⟩
    rw [← hB1] at hW
    have ke_B1 : B1.2.2 = S.2.2 := by rw [hB1]; simp only [pif_22, oel_22, k_si, k_sj, pif_same, oel_same, k_X6_set, k_X6_put, k_X0_showTag, k_X4_repeat, k_X7_sendRequest, k_X7_sendRequests]
    refine lv_pop hM.1 hM.2.1 dX7_beginPhase_39 rfl ?_
    exact z_vret hM hlk hr hW hS (zF.of rfl (by subst hB1; unfold s_X7_beginPhase; rw [pif_neg h_22]; first | done | rfl)) dX7_beginPhase_40
  ·
    refine lv_aload_n hM.1 hM.2.1 dX7_beginPhase_25 rfl (lv_at hl 1 rfl) ?_
    refine lv_aload_n hM.1 hM.2.1 dX7_beginPhase_26 rfl (lv_at hl 2 rfl) ?_
    refine z_get hM hW zc0 ha rfl 7 (by decide) lf_X7_226 (v := .int (gi S 0 (a) (7))) rfl dX7_beginPhase_27 ?_
    refine z_puti hM hW hS zc2 (hV.d2 hc) rfl 6 (by decide) rfl lf_X7_77 (Or.inl rfl) (tyX2 6) (tyX2_ok 6 (by decide)) rfl rfl dX7_beginPhase_30 (fun H locs hW hS => ?_)
    refine lv_aload_n hM.1 hM.2.1 dX7_beginPhase_33 rfl (lv_at hl 0 rfl) ?_
    refine lv_aload_n hM.1 hM.2.1 dX7_beginPhase_34 rfl (lv_at hl 1 rfl) ?_
    refine lv_aload_n hM.1 hM.2.1 dX7_beginPhase_35 rfl (lv_at hl 2 rfl) ?_
    refine z_Vi hM (hml.trans hl.1.symm) hW hS hlo zc7 hV.d7 rfl zyX7_sendRequests lm_X7_109 li_yX7_sendRequests le_yX7_sendRequests (As := [.ref (Z.1 2 (c)), .ref (Z.1 0 (a))]) (rest := []) (c_X7_sendRequests hV hc ha hc0) rfl rfl (Nat.le_of_ble_eq_true rfl) ⟨Nat.le_of_ble_eq_true rfl, Nat.le_of_ble_eq_true rfl⟩ ⟨Nat.le_of_ble_eq_true rfl, Nat.le_of_ble_eq_true rfl⟩ dX7_beginPhase_36 (fun H locs hW hS => ?_)
    obtain ⟨B2, hB2⟩ : ∃ B, B = (s_X7_sendRequests (si (si (si (si S 2 (c) (3) (x)) 2 (c) (4) ((gi S 2 (c) (4)) + (1))) 2 (c) (5) (0)) 2 (c) (6) (gi S 0 (a) (7))) n (c) (a)) := ⟨_, rfl⟩
    rw [← hB2] at hW
    have ke_B2 : B2.2.2 = S.2.2 := by rw [hB2]; simp only [pif_22, oel_22, k_si, k_sj, pif_same, oel_same, k_X6_set, k_X6_put, k_X0_showTag, k_X4_repeat, k_X7_sendRequest, k_X7_sendRequests]
    refine lv_pop hM.1 hM.2.1 dX7_beginPhase_39 rfl ?_
    exact z_vret hM hlk hr hW hS (zF.of rfl (by subst hB2; unfold s_X7_beginPhase; rw [pif_pos h_22]; first | done | rfl)) dX7_beginPhase_40

noncomputable def r_X7_endPhase (S : zS) (n : Nat) (c a : Nat) : Int32 := 
  (pif ((gi S 2 (c) (3)) = (1)) 
    (pif ((gi S 0 (a) (1)) = (1)) (2) (2)) 
    (pif ((gi S 2 (c) (3)) = (2)) 
      (pif ((gi S 0 (a) (1)) = (0)) (0) (0)) 
      (pif ((gi S 2 (c) (3)) = (3)) (4) 
        (pif ((gi S 2 (c) (3)) = (4)) (5) (0)))))
noncomputable def s_X7_endPhase (S : zS) (n : Nat) (c a : Nat) : zS := 
  (pif ((gi S 2 (c) (3)) = (1)) 
    (pif ((gi S 0 (a) (1)) = (1)) ((s_X0_showTag (s_X6_put S (10 + c) ((gi S 6 (10 + c) (0)) + (1)) (gi S 0 (a) (0)) (gj S 0 (a) (8))) (a) (10 + c))) (S)) 
    (pif ((gi S 2 (c) (3)) = (2)) 
      (pif ((gi S 0 (a) (1)) = (0)) ((sj (s_X0_showTag S (a) (10 + c)) 0 (a) (8) (gj (s_X0_showTag S (a) (10 + c)) 6 (10 + c) (2)))) (S)) 
      (pif ((gi S 2 (c) (3)) = (3)) ((s_X0_showTag S (a) (10 + c))) 
        (pif ((gi S 2 (c) (3)) = (4)) (S) (S)))))
theorem k_X7_endPhase {S : zS} {n : Nat} {c a : Nat} : (s_X7_endPhase S n c a).2.2 = S.2.2 := by unfold s_X7_endPhase; simp only [pif_22, oel_22, k_si, k_sj, pif_same, oel_same, k_X6_set, k_X6_put, k_X0_showTag, k_X4_repeat, k_X7_sendRequest, k_X7_sendRequests, k_X7_beginPhase]
set_option maxHeartbeats 400000 in
set_option maxRecDepth 100000 in
theorem c_X7_endPhase {l : Launch} {D : va_G} {ar : Nat → ClassId} {A : Nat → Prop} {Z : zZ} {S : zS} {n : Nat} {c a : Nat} (hV : zV n Z S.2.2) (hc : c < 4) (ha : Z.2.1 0 a) : zMet l yX7_endPhase prog_1_method_37_code 3 (some .int) ({ frames := 1, cells := 0, slots := 0, locals := 24 } : Room) D ar A Z S [.ref (Z.1 7 (0)), .ref (Z.1 2 (c)), .ref (Z.1 0 (a))] rvI (zF (r_X7_endPhase S n c a) Z (s_X7_endPhase S n c a)) := by
  refine z_body (by decide +kernel) (Nat.le_of_ble_eq_true rfl) ?_
  intro pX eX sX mX bX methX cX ls hM hr hlk hml hin hl hW hlo
  have hM : zM pX cX mX _ sX prog_1_method_37_code RX7 D ar := hM
  have hS : va_S A sX.heap sX.heap [] := va_S.rf
  have hl : lv_has ls 3 [(0, .ref (Z.1 7 (0))), (1, .ref (Z.1 2 (c))), (2, .ref (Z.1 0 (a)))] := hl
  refine lv_aload_n hM.1 hM.2.1 dX7_endPhase_0 rfl (lv_at hl 1 rfl) ?_
  refine z_get hM hW zc2 (hV.d2 hc) rfl 3 (by decide) lf_X7_189 (v := .int (gi S 2 (c) (3))) rfl dX7_endPhase_1 ?_
  by_cases h_4_1 : (gi S 2 (c) (3)) = (1)
  ·
    refine lv_tableIn hM.1 hM.2.1 dX7_endPhase_4 (by rw [h_4_1]; decide) (by rw [h_4_1]; decide) (off := 32) (by rw [h_4_1]; rfl) (tgt := 36) (by decide) ?_
    refine lv_aload_n hM.1 hM.2.1 dX7_endPhase_36 rfl (lv_at hl 2 rfl) ?_
    refine z_get hM hW zc0 ha rfl 1 (by decide) lf_X7_214 (v := .int (gi S 0 (a) (1))) rfl dX7_endPhase_37 ?_
    refine lv_iconst (v := 1) hM.1 hM.2.1 dX7_endPhase_40 (by decide) ?_
    refine lv_icmp_ne hM.1 hM.2.1 dX7_endPhase_41 (tgt := 76) (by decide) (fun h_41 => ?_) (fun h_41 => ?_)
    ·
      refine lv_iconst (v := 2) hM.1 hM.2.1 dX7_endPhase_76 (by decide) ?_
      exact z_iret hM hlk hr rfl hW hS (zF.of (by unfold r_X7_endPhase; rw [pif_pos h_4_1, pif_neg h_41]; first | done | rfl) (by unfold s_X7_endPhase; rw [pif_pos h_4_1, pif_neg h_41]; first | done | rfl)) dX7_endPhase_77
    ·
      refine lv_aload_n hM.1 hM.2.1 dX7_endPhase_44 rfl (lv_at hl 1 rfl) ?_
      refine z_getr hM hW zc2 (hV.d2 hc) rfl 1 (by decide) lf_X7_247 (t := 6) (j := 10 + c) rfl (hV.r2 hc) dX7_endPhase_45 (fun hd1_45 => ?_)
      refine lv_aload_n hM.1 hM.2.1 dX7_endPhase_48 rfl (lv_at hl 1 rfl) ?_
      refine z_getr hM hW zc2 (hV.d2 hc) rfl 1 (by decide) lf_X7_247 (t := 6) (j := 10 + c) rfl (hV.r2 hc) dX7_endPhase_49 (fun hd2_49 => ?_)
      refine z_get hM hW zc6 hd2_49 rfl 0 (by decide) lf_X7_176 (v := .int (gi S 6 (10 + c) (0))) rfl dX7_endPhase_52 ?_
      refine lv_iconst (v := 1) hM.1 hM.2.1 dX7_endPhase_55 (by decide) ?_
      refine lv_iadd hM.1 hM.2.1 dX7_endPhase_56 ?_
      refine lv_aload_n hM.1 hM.2.1 dX7_endPhase_57 rfl (lv_at hl 2 rfl) ?_
      refine z_get hM hW zc0 ha rfl 0 (by decide) lf_X7_119 (v := .int (gi S 0 (a) (0))) rfl dX7_endPhase_58 ?_
      refine lv_aload_n hM.1 hM.2.1 dX7_endPhase_61 rfl (lv_at hl 2 rfl) ?_
      refine z_get hM hW zc0 ha rfl 8 (by decide) lf_X7_101 (v := .long (gj S 0 (a) (8))) rfl dX7_endPhase_62 ?_
      refine z_Vv hM (hml.trans hl.1.symm) hW hS hlo zc6 hd1_45 rfl zyX6_put lm_X7_248 li_yX6_put le_yX6_put (As := [.int ((gi S 6 (10 + c) (0)) + (1)), .int (gi S 0 (a) (0)), .long (gj S 0 (a) (8))]) (rest := []) (c_X6_put hd1_45) rfl rfl (Nat.le_of_ble_eq_true rfl) ⟨Nat.le_of_ble_eq_true rfl, Nat.le_of_ble_eq_true rfl⟩ ⟨Nat.le_of_ble_eq_true rfl, Nat.le_of_ble_eq_true rfl⟩ dX7_endPhase_65 (fun H locs hW hS => ?_)
      obtain ⟨B1, hB1⟩ : ∃ B, B = (s_X6_put S (10 + c) ((gi S 6 (10 + c) (0)) + (1)) (gi S 0 (a) (0)) (gj S 0 (a) (8))) := ⟨_, rfl⟩
      rw [← hB1] at hW
      have ke_B1 : B1.2.2 = S.2.2 := by rw [hB1]; simp only [pif_22, oel_22, k_si, k_sj, pif_same, oel_same, k_X6_set, k_X6_put, k_X0_showTag, k_X4_repeat, k_X7_sendRequest, k_X7_sendRequests, k_X7_beginPhase]
      refine lv_aload_n hM.1 hM.2.1 dX7_endPhase_68 rfl (lv_at hl 2 rfl) ?_
      refine lv_aload_n hM.1 hM.2.1 dX7_endPhase_69 rfl (lv_at hl 1 rfl) ?_
      refine z_getr hM hW zc2 (hV.d2 hc) rfl 1 (by decide) lf_X7_247 (t := 6) (j := 10 + c) rfl ((gr_of ke_B1).trans (hV.r2 hc)) dX7_endPhase_70 (fun hd3_70 => ?_)
      refine z_Vv hM (hml.trans hl.1.symm) hW hS hlo zc0 ha rfl zyX0_showTag lm_X7_288 li_yX0_showTag le_yX0_showTag (As := [.ref (Z.1 6 (10 + c))]) (rest := []) (c_X0_showTag ha hd3_70) rfl rfl (Nat.le_of_ble_eq_true rfl) ⟨Nat.le_of_ble_eq_true rfl, Nat.le_of_ble_eq_true rfl⟩ ⟨Nat.le_of_ble_eq_true rfl, Nat.le_of_ble_eq_true rfl⟩ dX7_endPhase_73 (fun H locs hW hS => ?_)
      obtain ⟨B2, hB2⟩ : ∃ B, B = (s_X0_showTag B1 (a) (10 + c)) := ⟨_, rfl⟩
      rw [← hB2] at hW
      have ke_B2 : B2.2.2 = S.2.2 := by rw [hB2]; simp only [pif_22, oel_22, k_si, k_sj, pif_same, oel_same, k_X6_set, k_X6_put, k_X0_showTag, k_X4_repeat, k_X7_sendRequest, k_X7_sendRequests, k_X7_beginPhase, ke_B1]
      refine lv_iconst (v := 2) hM.1 hM.2.1 dX7_endPhase_76 (by decide) ?_
      exact z_iret hM hlk hr rfl hW hS (zF.of (by subst hB2; subst hB1; unfold r_X7_endPhase; rw [pif_pos h_4_1, pif_pos h_41]; first | done | rfl) (by subst hB2; subst hB1; unfold s_X7_endPhase; rw [pif_pos h_4_1, pif_pos h_41]; first | done | rfl)) dX7_endPhase_77
  by_cases h_4_2 : (gi S 2 (c) (3)) = (2)
  ·
    refine lv_tableIn hM.1 hM.2.1 dX7_endPhase_4 (by rw [h_4_2]; decide) (by rw [h_4_2]; decide) (off := 74) (by rw [h_4_2]; rfl) (tgt := 78) (by decide) ?_
    refine lv_aload_n hM.1 hM.2.1 dX7_endPhase_78 rfl (lv_at hl 2 rfl) ?_
    refine z_get hM hW zc0 ha rfl 1 (by decide) lf_X7_214 (v := .int (gi S 0 (a) (1))) rfl dX7_endPhase_79 ?_
    refine lv_if_ne hM.1 hM.2.1 dX7_endPhase_82 (tgt := 104) (by decide) (fun h_82 => ?_) (fun h_82 => ?_)
    ·
      refine lv_iconst (v := 0) hM.1 hM.2.1 dX7_endPhase_104 (by decide) ?_
      exact z_iret hM hlk hr rfl hW hS (zF.of (by unfold r_X7_endPhase; rw [pif_neg h_4_1, pif_pos h_4_2, pif_neg h_82]; first | done | rfl) (by unfold s_X7_endPhase; rw [pif_neg h_4_1, pif_pos h_4_2, pif_neg h_82]; first | done | rfl)) dX7_endPhase_105
    ·
      refine lv_aload_n hM.1 hM.2.1 dX7_endPhase_85 rfl (lv_at hl 2 rfl) ?_
      refine lv_aload_n hM.1 hM.2.1 dX7_endPhase_86 rfl (lv_at hl 1 rfl) ?_
      refine z_getr hM hW zc2 (hV.d2 hc) rfl 1 (by decide) lf_X7_247 (t := 6) (j := 10 + c) rfl (hV.r2 hc) dX7_endPhase_87 (fun hd4_87 => ?_)
      refine z_Vv hM (hml.trans hl.1.symm) hW hS hlo zc0 ha rfl zyX0_showTag lm_X7_288 li_yX0_showTag le_yX0_showTag (As := [.ref (Z.1 6 (10 + c))]) (rest := []) (c_X0_showTag ha hd4_87) rfl rfl (Nat.le_of_ble_eq_true rfl) ⟨Nat.le_of_ble_eq_true rfl, Nat.le_of_ble_eq_true rfl⟩ ⟨Nat.le_of_ble_eq_true rfl, Nat.le_of_ble_eq_true rfl⟩ dX7_endPhase_90 (fun H locs hW hS => ?_)
      obtain ⟨B3, hB3⟩ : ∃ B, B = (s_X0_showTag S (a) (10 + c)) := ⟨_, rfl⟩
      rw [← hB3] at hW
      have ke_B3 : B3.2.2 = S.2.2 := by rw [hB3]; simp only [pif_22, oel_22, k_si, k_sj, pif_same, oel_same, k_X6_set, k_X6_put, k_X0_showTag, k_X4_repeat, k_X7_sendRequest, k_X7_sendRequests, k_X7_beginPhase]
      refine lv_aload_n hM.1 hM.2.1 dX7_endPhase_93 rfl (lv_at hl 2 rfl) ?_
      refine lv_aload_n hM.1 hM.2.1 dX7_endPhase_94 rfl (lv_at hl 1 rfl) ?_
      refine z_getr hM hW zc2 (hV.d2 hc) rfl 1 (by decide) lf_X7_247 (t := 6) (j := 10 + c) rfl ((gr_of ke_B3).trans (hV.r2 hc)) dX7_endPhase_95 (fun hd5_95 => ?_)
      refine z_get hM hW zc6 hd5_95 rfl 2 (by decide) lf_X7_186 (v := .long (gj B3 6 (10 + c) (2))) rfl dX7_endPhase_98 ?_
      refine z_putl hM hW hS zc0 ha rfl 8 (by decide) rfl lf_X7_101 (Or.inl rfl) (tyX0_ok 8 (by decide)) dX7_endPhase_101 (fun H locs hW hS => ?_)
      refine lv_iconst (v := 0) hM.1 hM.2.1 dX7_endPhase_104 (by decide) ?_
      exact z_iret hM hlk hr rfl hW hS (zF.of (by subst hB3; unfold r_X7_endPhase; rw [pif_neg h_4_1, pif_pos h_4_2, pif_pos h_82]; first | done | rfl) (by subst hB3; unfold s_X7_endPhase; rw [pif_neg h_4_1, pif_pos h_4_2, pif_pos h_82]; first | done | rfl)) dX7_endPhase_105
  by_cases h_4_3 : (gi S 2 (c) (3)) = (3)
  ·
    refine lv_tableIn hM.1 hM.2.1 dX7_endPhase_4 (by rw [h_4_3]; decide) (by rw [h_4_3]; decide) (off := 102) (by rw [h_4_3]; rfl) (tgt := 106) (by decide) ?_
    refine lv_aload_n hM.1 hM.2.1 dX7_endPhase_106 rfl (lv_at hl 2 rfl) ?_
    refine lv_aload_n hM.1 hM.2.1 dX7_endPhase_107 rfl (lv_at hl 1 rfl) ?_
    refine z_getr hM hW zc2 (hV.d2 hc) rfl 1 (by decide) lf_X7_247 (t := 6) (j := 10 + c) rfl (hV.r2 hc) dX7_endPhase_108 (fun hd6_108 => ?_)
    refine z_Vv hM (hml.trans hl.1.symm) hW hS hlo zc0 ha rfl zyX0_showTag lm_X7_288 li_yX0_showTag le_yX0_showTag (As := [.ref (Z.1 6 (10 + c))]) (rest := []) (c_X0_showTag ha hd6_108) rfl rfl (Nat.le_of_ble_eq_true rfl) ⟨Nat.le_of_ble_eq_true rfl, Nat.le_of_ble_eq_true rfl⟩ ⟨Nat.le_of_ble_eq_true rfl, Nat.le_of_ble_eq_true rfl⟩ dX7_endPhase_111 (fun H locs hW hS => ?_)
    obtain ⟨B4, hB4⟩ : ∃ B, B = (s_X0_showTag S (a) (10 + c)) := ⟨_, rfl⟩
    rw [← hB4] at hW
    have ke_B4 : B4.2.2 = S.2.2 := by rw [hB4]; simp only [pif_22, oel_22, k_si, k_sj, pif_same, oel_same, k_X6_set, k_X6_put, k_X0_showTag, k_X4_repeat, k_X7_sendRequest, k_X7_sendRequests, k_X7_beginPhase]
    refine lv_iconst (v := 4) hM.1 hM.2.1 dX7_endPhase_114 (by decide) ?_
    exact z_iret hM hlk hr rfl hW hS (zF.of (by subst hB4; unfold r_X7_endPhase; rw [pif_neg h_4_1, pif_neg h_4_2, pif_pos h_4_3]; first | done | rfl) (by subst hB4; unfold s_X7_endPhase; rw [pif_neg h_4_1, pif_neg h_4_2, pif_pos h_4_3]; first | done | rfl)) dX7_endPhase_115
  by_cases h_4_4 : (gi S 2 (c) (3)) = (4)
  ·
    refine lv_tableIn hM.1 hM.2.1 dX7_endPhase_4 (by rw [h_4_4]; decide) (by rw [h_4_4]; decide) (off := 112) (by rw [h_4_4]; rfl) (tgt := 116) (by decide) ?_
    refine lv_iconst (v := 5) hM.1 hM.2.1 dX7_endPhase_116 (by decide) ?_
    exact z_iret hM hlk hr rfl hW hS (zF.of (by unfold r_X7_endPhase; rw [pif_neg h_4_1, pif_neg h_4_2, pif_neg h_4_3, pif_pos h_4_4]; first | done | rfl) (by unfold s_X7_endPhase; rw [pif_neg h_4_1, pif_neg h_4_2, pif_neg h_4_3, pif_pos h_4_4]; first | done | rfl)) dX7_endPhase_117
  refine lv_tableOut hM.1 hM.2.1 dX7_endPhase_4 (by have n1 : Int32.toInt (gi S 2 (c) (3)) ≠ 1 := fun q => h_4_1 (Int32.toInt_inj.mp (by rw [q]; rfl)); have n2 : Int32.toInt (gi S 2 (c) (3)) ≠ 2 := fun q => h_4_2 (Int32.toInt_inj.mp (by rw [q]; rfl)); have n3 : Int32.toInt (gi S 2 (c) (3)) ≠ 3 := fun q => h_4_3 (Int32.toInt_inj.mp (by rw [q]; rfl)); have n4 : Int32.toInt (gi S 2 (c) (3)) ≠ 4 := fun q => h_4_4 (Int32.toInt_inj.mp (by rw [q]; rfl)); omega) (tgt := 118) (by decide) ?_
  refine lv_iconst (v := 0) hM.1 hM.2.1 dX7_endPhase_118 (by decide) ?_
  exact z_iret hM hlk hr rfl hW hS (zF.of (by unfold r_X7_endPhase; rw [pif_neg h_4_1, pif_neg h_4_2, pif_neg h_4_3, pif_neg h_4_4]; first | done | rfl) (by unfold s_X7_endPhase; rw [pif_neg h_4_1, pif_neg h_4_2, pif_neg h_4_3, pif_neg h_4_4]; first | done | rfl)) dX7_endPhase_119

noncomputable def r_X7_again (S : zS) (n : Nat) (x : Int32) : Int32 := 
  (oel (atI 4 (x)) ((-1)) (fun q2 => 
    (oel (gr S 2 q2 2) ((-1)) (fun a => (r_X7_sendRequests S n (q2) (a))))))
noncomputable def s_X7_again (S : zS) (n : Nat) (x : Int32) : zS := 
  (oel (atI 4 (x)) (S) (fun q2 => 
    (oel (gr S 2 q2 2) (S) (fun a => ((s_X7_sendRequests S n (q2) (a)))))))
theorem k_X7_again {S : zS} {n : Nat} {x : Int32} : (s_X7_again S n x).2.2 = S.2.2 := by unfold s_X7_again; simp only [pif_22, oel_22, k_si, k_sj, pif_same, oel_same, k_X6_set, k_X6_put, k_X0_showTag, k_X4_repeat, k_X7_sendRequest, k_X7_sendRequests, k_X7_beginPhase, k_X7_endPhase]
set_option maxHeartbeats 400000 in
set_option maxRecDepth 100000 in
theorem c_X7_again {l : Launch} {D : va_G} {ar : Nat → ClassId} {A : Nat → Prop} {Z : zZ} {S : zS} {n : Nat} {x : Int32} (hV : zV n Z S.2.2) (hc0 : ¬ gi S 1 0 2 < 0) : zMet l yX7_again prog_1_method_7_code 3 (some .int) ({ frames := 3, cells := 0, slots := 0, locals := 73 } : Room) D ar A Z S [.ref (Z.1 7 (0)), .int (x)] rvI (zF (r_X7_again S n x) Z (s_X7_again S n x)) := by
  refine z_body (by decide +kernel) (Nat.le_of_ble_eq_true rfl) ?_
  intro pX eX sX mX bX methX cX ls hM hr hlk hml hin hl hW hlo
  have hM : zM pX cX mX _ sX prog_1_method_7_code RX7 D ar := hM
  have hS : va_S A sX.heap sX.heap [] := va_S.rf
  have hl : lv_has ls 3 [(0, .ref (Z.1 7 (0))), (1, .int (x))] := hl
  refine lv_aload_n hM.1 hM.2.1 dX7_again_0 rfl (lv_at hl 0 rfl) ?_
  refine lv_iload_n hM.1 hM.2.1 dX7_again_1 rfl (lv_at hl 1 rfl) ?_
  refine z_Vr hM (hml.trans hl.1.symm) hW hS hlo zc7 hV.d7 rfl zyX7_clientAt lm_X7_69 li_yX7_clientAt le_yX7_clientAt (As := [.int (x)]) (rest := []) (c_X7_clientAt hV) rfl rfl (Nat.le_of_ble_eq_true rfl) ⟨Nat.le_of_ble_eq_true rfl, Nat.le_of_ble_eq_true rfl⟩ ⟨Nat.le_of_ble_eq_true rfl, Nat.le_of_ble_eq_true rfl⟩ dX7_again_2 (fun H locs hW hS => ?_)
  rcases hq_2 : atI 4 (x) with _ | q2
  ·
    refine lv_astore_nN hM.1 hM.2.1 dX7_again_5 rfl hl (by decide) (lv' := [(2, .null), (0, .ref (Z.1 7 (0))), (1, .int (x))]) rfl (fun ls hl => ?_)
    refine lv_aload_nN hM.1 hM.2.1 dX7_again_6 rfl (lv_at hl 0 rfl) ?_
    refine lv_ifnullN hM.1 hM.2.1 dX7_again_7 (tgt := 17) (by decide) ?_
    refine lv_iconst (v := (-1)) hM.1 hM.2.1 dX7_again_17 (by decide) ?_
    exact z_iret hM hlk hr rfl hW hS (zF.of (by unfold r_X7_again; rw [oel_n hq_2]; first | done | rfl) (by unfold s_X7_again; rw [oel_n hq_2]; first | done | rfl)) dX7_again_18
  ·
    obtain ⟨he_2, hb_2, hn0_2, hn1_2⟩ := atI_some (by decide) hq_2
    have hd_2 := hV.d2 hb_2
    refine lv_astore_n hM.1 hM.2.1 dX7_again_5 rfl hl (by decide) (lv' := [(2, .ref (Z.1 2 (q2))), (0, .ref (Z.1 7 (0))), (1, .int (x))]) rfl (fun ls hl => ?_)
    refine lv_aload_n hM.1 hM.2.1 dX7_again_6 rfl (lv_at hl 0 rfl) ?_
    refine lv_ifnull hM.1 hM.2.1 dX7_again_7 ?_
    refine lv_aload_n hM.1 hM.2.1 dX7_again_10 rfl (lv_at hl 0 rfl) ?_
    rcases hq_11 : gr S 2 q2 2 with _ | a
    ·
      refine z_get hM hW zc2 hd_2 rfl 2 (by decide) lf_X7_105 (v := .null) (by simp [zv, zvt, zk, zrv, hq_11]) dX7_again_11 ?_
      refine lv_ifnonnullN hM.1 hM.2.1 dX7_again_14 ?_
      refine lv_iconst (v := (-1)) hM.1 hM.2.1 dX7_again_17 (by decide) ?_
      exact z_iret hM hlk hr rfl hW hS (zF.of (by unfold r_X7_again; rw [oel_s hq_2, oel_n hq_11]; first | done | rfl) (by unfold s_X7_again; rw [oel_s hq_2, oel_n hq_11]; first | done | rfl)) dX7_again_18
    ·
      refine z_getr hM hW zc2 hd_2 rfl 2 (by decide) lf_X7_105 (t := 0) (j := a) rfl hq_11 dX7_again_11 (fun hd_11 => ?_)
      refine lv_ifnonnull hM.1 hM.2.1 dX7_again_14 (tgt := 19) (by decide) ?_
      refine lv_aload_n hM.1 hM.2.1 dX7_again_19 rfl (lv_at hl 1 rfl) ?_
      refine lv_aload_n hM.1 hM.2.1 dX7_again_20 rfl (lv_at hl 0 rfl) ?_
      refine lv_aload_n hM.1 hM.2.1 dX7_again_21 rfl (lv_at hl 0 rfl) ?_
      refine z_getr hM hW zc2 hd_2 rfl 2 (by decide) lf_X7_105 (t := 0) (j := a) rfl hq_11 dX7_again_22 (fun hd1_22 => ?_)
      refine z_Vi hM (hml.trans hl.1.symm) hW hS hlo zc7 hV.d7 rfl zyX7_sendRequests lm_X7_109 li_yX7_sendRequests le_yX7_sendRequests (As := [.ref (Z.1 2 (q2)), .ref (Z.1 0 (a))]) (rest := []) (c_X7_sendRequests hV hb_2 hd1_22 hc0) rfl rfl (Nat.le_of_ble_eq_true rfl) ⟨Nat.le_of_ble_eq_true rfl, Nat.le_of_ble_eq_true rfl⟩ ⟨Nat.le_of_ble_eq_true rfl, Nat.le_of_ble_eq_true rfl⟩ dX7_again_25 (fun H locs hW hS => ?_)
      obtain ⟨B1, hB1⟩ : ∃ B, B = (s_X7_sendRequests S n (q2) (a)) := ⟨_, rfl⟩
      rw [← hB1] at hW
      have ke_B1 : B1.2.2 = S.2.2 := by rw [hB1]; simp only [pif_22, oel_22, k_si, k_sj, pif_same, oel_same, k_X6_set, k_X6_put, k_X0_showTag, k_X4_repeat, k_X7_sendRequest, k_X7_sendRequests, k_X7_beginPhase, k_X7_endPhase]
      exact z_iret hM hlk hr rfl hW hS (zF.of (by subst hB1; unfold r_X7_again; rw [oel_s hq_2, oel_s hq_11]; first | done | rfl) (by subst hB1; unfold s_X7_again; rw [oel_s hq_2, oel_s hq_11]; first | done | rfl)) dX7_again_28
end
section
noncomputable def s_X7_serve (S : zS) (n : Nat) (j : Nat) : zS := 
  (oel (atI n (gi S 4 (j) (2))) (S) (fun q5 => 
    (pif ((gi (s_X3_obey S (q5) (j)) 1 (0) (2)) < (300)) ((s_X6_set (si (si (si (s_X4_repeat (si (s_X3_obey S (q5) (j)) 1 (0) (2) ((gi (s_X3_obey S (q5) (j)) 1 (0) (2)) + 1)) (pmR S.2.2 (ix (gi (s_X3_obey S (q5) (j)) 1 (0) (2)))) (j)) 4 (pmR S.2.2 (ix (gi (s_X3_obey S (q5) (j)) 1 (0) (2)))) (1) (1)) 4 (pmR S.2.2 (ix (gi (s_X3_obey S (q5) (j)) 1 (0) (2)))) (7) (gi (s_X4_repeat (si (s_X3_obey S (q5) (j)) 1 (0) (2) ((gi (s_X3_obey S (q5) (j)) 1 (0) (2)) + 1)) (pmR S.2.2 (ix (gi (s_X3_obey S (q5) (j)) 1 (0) (2)))) (j)) 3 (q5) (1))) 4 (pmR S.2.2 (ix (gi (s_X3_obey S (q5) (j)) 1 (0) (2)))) (8) (gi (s_X4_repeat (si (s_X3_obey S (q5) (j)) 1 (0) (2) ((gi (s_X3_obey S (q5) (j)) 1 (0) (2)) + 1)) (pmR S.2.2 (ix (gi (s_X3_obey S (q5) (j)) 1 (0) (2)))) (j)) 3 (q5) (2))) (20 + (pmR S.2.2 (ix (gi (s_X3_obey S (q5) (j)) 1 (0) (2))))) (q5))) ((si (s_X3_obey S (q5) (j)) 1 (0) (3) ((gi (s_X3_obey S (q5) (j)) 1 (0) (3)) + 1))))))
theorem k_X7_serve {S : zS} {n : Nat} {j : Nat} : (s_X7_serve S n j).2.2 = S.2.2 := by unfold s_X7_serve; simp only [pif_22, oel_22, k_si, k_sj, pif_same, oel_same, k_X6_set, k_X6_put, k_X0_showTag, k_X4_repeat, k_X7_sendRequest, k_X7_sendRequests, k_X7_beginPhase, k_X7_endPhase, k_X7_again, k_X3_obey]
set_option maxHeartbeats 400000 in
set_option maxRecDepth 100000 in
theorem c_X7_serve {l : Launch} {D : va_G} {ar : Nat → ClassId} {A : Nat → Prop} {Z : zZ} {S : zS} {n : Nat} {j : Nat} (hV : zV n Z S.2.2) (hj : j < 301) (hb : isB (gi S 4 j 1)) (hc0 : ¬ gi S 1 0 2 < 0) : zMet l yX7_serve prog_1_method_34_code 4 none ({ frames := 2, cells := 0, slots := 0, locals := 42 } : Room) D ar A Z S [.ref (Z.1 7 (0)), .ref (Z.1 4 (j))] rvV (zF () Z (s_X7_serve S n j)) := by
  refine z_body (by decide +kernel) (Nat.le_of_ble_eq_true rfl) ?_
  intro pX eX sX mX bX methX cX ls hM hr hlk hml hin hl hW hlo
  have hM : zM pX cX mX _ sX prog_1_method_34_code RX7 D ar := hM
  have hS : va_S A sX.heap sX.heap [] := va_S.rf
  have hl : lv_has ls 4 [(0, .ref (Z.1 7 (0))), (1, .ref (Z.1 4 (j)))] := hl
  refine lv_aload_n hM.1 hM.2.1 dX7_serve_0 rfl (lv_at hl 0 rfl) ?_
  refine lv_aload_n hM.1 hM.2.1 dX7_serve_1 rfl (lv_at hl 1 rfl) ?_
  refine z_get hM hW zc4 (hV.d4 hj) rfl 2 (by decide) lf_X7_195 (v := .int (gi S 4 (j) (2))) rfl dX7_serve_2 ?_
  refine z_Vr hM (hml.trans hl.1.symm) hW hS hlo zc7 hV.d7 rfl zyX7_copyAt lm_X7_161 li_yX7_copyAt le_yX7_copyAt (As := [.int (gi S 4 (j) (2))]) (rest := []) (c_X7_copyAt hV) rfl rfl (Nat.le_of_ble_eq_true rfl) ⟨Nat.le_of_ble_eq_true rfl, Nat.le_of_ble_eq_true rfl⟩ ⟨Nat.le_of_ble_eq_true rfl, Nat.le_of_ble_eq_true rfl⟩ dX7_serve_5 (fun H locs hW hS => ?_)
  rcases hq_5 : atI n (gi S 4 (j) (2)) with _ | q5
  ·
    refine lv_astore_nN hM.1 hM.2.1 dX7_serve_8 rfl hl (by decide) (lv' := [(2, .null), (0, .ref (Z.1 7 (0))), (1, .ref (Z.1 4 (j)))]) rfl (fun ls hl => ?_)
    refine lv_aload_nN hM.1 hM.2.1 dX7_serve_9 rfl (lv_at hl 0 rfl) ?_
    refine lv_ifnonnullN hM.1 hM.2.1 dX7_serve_10 ?_
    exact z_vret hM hlk hr hW hS (zF.of rfl (by unfold s_X7_serve; rw [oel_n hq_5]; first | done | rfl)) dX7_serve_13
  ·
    obtain ⟨he_5, hb_5, hn0_5, hn1_5⟩ := atI_some (by have := hV.n7; omega) hq_5
    have hd_5 := hV.d3 hb_5
    refine lv_astore_n hM.1 hM.2.1 dX7_serve_8 rfl hl (by decide) (lv' := [(2, .ref (Z.1 3 (q5))), (0, .ref (Z.1 7 (0))), (1, .ref (Z.1 4 (j)))]) rfl (fun ls hl => ?_)
    refine lv_aload_n hM.1 hM.2.1 dX7_serve_9 rfl (lv_at hl 0 rfl) ?_
    refine lv_ifnonnull hM.1 hM.2.1 dX7_serve_10 (tgt := 14) (by decide) ?_
    refine lv_aload_n hM.1 hM.2.1 dX7_serve_14 rfl (lv_at hl 0 rfl) ?_
    refine lv_aload_n hM.1 hM.2.1 dX7_serve_15 rfl (lv_at hl 2 rfl) ?_
    refine z_Vv hM (hml.trans hl.1.symm) hW hS hlo zc3 hd_5 rfl zyX3_obey lm_X7_267 li_yX3_obey le_yX3_obey (As := [.ref (Z.1 4 (j))]) (rest := []) (c_X3_obey hd_5 (hV.d4 hj) (hV.r3 hb_5) (hV.r4 hj)) rfl rfl (Nat.le_of_ble_eq_true rfl) ⟨Nat.le_of_ble_eq_true rfl, Nat.le_of_ble_eq_true rfl⟩ ⟨Nat.le_of_ble_eq_true rfl, Nat.le_of_ble_eq_true rfl⟩ dX7_serve_16 (fun H locs hW hS => ?_)
    obtain ⟨B1, hB1⟩ : ∃ B, B = (s_X3_obey S (q5) (j)) := ⟨_, rfl⟩
    rw [← hB1] at hW
    have ke_B1 : B1.2.2 = S.2.2 := by rw [hB1]; simp only [pif_22, oel_22, k_si, k_sj, pif_same, oel_same, k_X6_set, k_X6_put, k_X0_showTag, k_X4_repeat, k_X7_sendRequest, k_X7_sendRequests, k_X7_beginPhase, k_X7_endPhase, k_X7_again, k_X3_obey]
    refine lv_aload_n hM.1 hM.2.1 dX7_serve_19 rfl (lv_at hl 1 rfl) ?_
    refine z_getr hM hW zc7 hV.d7 rfl 4 (by decide) lf_X7_65 (t := 1) (j := 0) rfl ((gr_of ke_B1).trans hV.r74) dX7_serve_20 (fun hd1_20 => ?_)
    refine z_Vr hM (hml.trans hl.1.symm) hW hS hlo zc1 hd1_20 rfl zyX1_next lm_X7_154 li_yX1_next le_yX1_next (As := []) (rest := []) (c_X1_next (pm := pmR S.2.2) hV.d1 ((gr_of ke_B1).trans hV.r10) hV.l15 (fun j hj => (gr_of ke_B1).trans (hV.pm j hj)) (by rw [hB1, gi_obey]; exact hc0)) rfl rfl (Nat.le_of_ble_eq_true rfl) ⟨Nat.le_of_ble_eq_true rfl, Nat.le_of_ble_eq_true rfl⟩ ⟨Nat.le_of_ble_eq_true rfl, Nat.le_of_ble_eq_true rfl⟩ dX7_serve_23 (fun H locs hW hS => ?_)
    by_cases hn_23 : (gi B1 1 (0) (2)) < (300)
    ·
      rw [r_next_pos hn_23]
      rw [s_next_pos hn_23] at hW
      have hb_23 := hV.pmlt (next_lt (by rw [hB1, gi_obey]; exact hc0) hn_23)
      have hd_23 := hV.d4 hb_23
      refine lv_astore_n hM.1 hM.2.1 dX7_serve_26 rfl hl (by decide) (lv' := [(3, .ref (Z.1 4 (pmR S.2.2 (ix (gi B1 1 (0) (2)))))), (2, .ref (Z.1 3 (q5))), (0, .ref (Z.1 7 (0))), (1, .ref (Z.1 4 (j)))]) rfl (fun ls hl => ?_)
      refine lv_aload_n hM.1 hM.2.1 dX7_serve_27 rfl (lv_at hl 0 rfl) ?_
      refine lv_ifnonnull hM.1 hM.2.1 dX7_serve_28 (tgt := 32) (by decide) ?_
      refine lv_aload_n hM.1 hM.2.1 dX7_serve_32 rfl (lv_at hl 0 rfl) ?_
      refine lv_aload_n hM.1 hM.2.1 dX7_serve_33 rfl (lv_at hl 3 rfl) ?_
      refine z_Vv hM (hml.trans hl.1.symm) hW hS hlo zc4 hd_23 rfl zyX4_repeat lm_X7_158 li_yX4_repeat le_yX4_repeat (As := [.ref (Z.1 4 (j))]) (rest := []) (c_X4_repeat hd_23 (hV.d4 hj) ((gr_of ke_B1).trans (hV.r4 hb_23)) ((gr_of ke_B1).trans (hV.r4 hj)) (by rw [gi_si, if_neg (by simp), hB1, gi_obey4]; exact hb)) rfl rfl (Nat.le_of_ble_eq_true rfl) ⟨Nat.le_of_ble_eq_true rfl, Nat.le_of_ble_eq_true rfl⟩ ⟨Nat.le_of_ble_eq_true rfl, Nat.le_of_ble_eq_true rfl⟩ dX7_serve_34 (fun H locs hW hS => ?_)
      obtain ⟨B2, hB2⟩ : ∃ B, B = (s_X4_repeat (si B1 1 (0) (2) ((gi B1 1 (0) (2)) + 1)) (pmR S.2.2 (ix (gi B1 1 (0) (2)))) (j)) := ⟨_, rfl⟩
      rw [← hB2] at hW
      have ke_B2 : B2.2.2 = S.2.2 := by rw [hB2]; simp only [pif_22, oel_22, k_si, k_sj, pif_same, oel_same, k_X6_set, k_X6_put, k_X0_showTag, k_X4_repeat, k_X7_sendRequest, k_X7_sendRequests, k_X7_beginPhase, k_X7_endPhase, k_X7_again, k_X3_obey, ke_B1]
      refine lv_aload_n hM.1 hM.2.1 dX7_serve_37 rfl (lv_at hl 0 rfl) ?_
      refine lv_iconst (v := 1) hM.1 hM.2.1 dX7_serve_38 (by decide) ?_
      refine z_puti hM hW hS zc4 hd_23 rfl 1 (by decide) rfl lf_X7_134 (Or.inl rfl) (tyX4 1) (tyX4_ok 1 (by decide)) rfl rfl dX7_serve_39 (fun H locs hW hS => ?_)
      refine lv_aload_n hM.1 hM.2.1 dX7_serve_42 rfl (lv_at hl 0 rfl) ?_
      refine lv_aload_n hM.1 hM.2.1 dX7_serve_43 rfl (lv_at hl 1 rfl) ?_
      refine z_get hM hW zc3 hd_5 rfl 1 (by decide) lf_X7_184 (v := .int (gi B2 3 (q5) (1))) rfl dX7_serve_44 ?_
      refine z_puti hM hW hS zc4 hd_23 rfl 7 (by decide) rfl lf_X7_262 (Or.inl rfl) (tyX4 7) (tyX4_ok 7 (by decide)) rfl rfl dX7_serve_47 (fun H locs hW hS => ?_)
      refine lv_aload_n hM.1 hM.2.1 dX7_serve_50 rfl (lv_at hl 0 rfl) ?_
      refine lv_aload_n hM.1 hM.2.1 dX7_serve_51 rfl (lv_at hl 1 rfl) ?_
      refine z_get hM hW zc3 hd_5 rfl 2 (by decide) lf_X7_185 (v := .int (gi B2 3 (q5) (2))) rfl dX7_serve_52 ?_
      refine z_puti hM hW hS zc4 hd_23 rfl 8 (by decide) rfl lf_X7_206 (Or.inl rfl) (tyX4 8) (tyX4_ok 8 (by decide)) rfl rfl dX7_serve_55 (fun H locs hW hS => ?_)
      refine lv_aload_n hM.1 hM.2.1 dX7_serve_58 rfl (lv_at hl 0 rfl) ?_
      refine z_getr hM hW zc4 hd_23 rfl 0 (by decide) lf_X7_205 (t := 6) (j := 20 + (pmR S.2.2 (ix (gi B1 1 (0) (2))))) rfl ((gr_of ke_B2).trans (hV.r4 hb_23)) dX7_serve_59 (fun hd2_59 => ?_)
      refine lv_aload_n hM.1 hM.2.1 dX7_serve_62 rfl (lv_at hl 1 rfl) ?_
      refine z_getr hM hW zc3 hd_5 rfl 0 (by decide) lf_X7_172 (t := 6) (j := q5) rfl ((gr_of ke_B2).trans (hV.r3 hb_5)) dX7_serve_63 (fun hd3_63 => ?_)
      refine z_Vv hM (hml.trans hl.1.symm) hW hS hlo zc6 hd2_59 rfl zyX6_set lm_X7_263 li_yX6_set le_yX6_set (As := [.ref (Z.1 6 (q5))]) (rest := []) (c_X6_set hd2_59 hd3_63) rfl rfl (Nat.le_of_ble_eq_true rfl) ⟨Nat.le_of_ble_eq_true rfl, Nat.le_of_ble_eq_true rfl⟩ ⟨Nat.le_of_ble_eq_true rfl, Nat.le_of_ble_eq_true rfl⟩ dX7_serve_66 (fun H locs hW hS => ?_)
      obtain ⟨B3, hB3⟩ : ∃ B, B = (s_X6_set (si (si (si B2 4 (pmR S.2.2 (ix (gi B1 1 (0) (2)))) (1) (1)) 4 (pmR S.2.2 (ix (gi B1 1 (0) (2)))) (7) (gi B2 3 (q5) (1))) 4 (pmR S.2.2 (ix (gi B1 1 (0) (2)))) (8) (gi B2 3 (q5) (2))) (20 + (pmR S.2.2 (ix (gi B1 1 (0) (2))))) (q5)) := ⟨_, rfl⟩
      rw [← hB3] at hW
      have ke_B3 : B3.2.2 = S.2.2 := by rw [hB3]; simp only [pif_22, oel_22, k_si, k_sj, pif_same, oel_same, k_X6_set, k_X6_put, k_X0_showTag, k_X4_repeat, k_X7_sendRequest, k_X7_sendRequests, k_X7_beginPhase, k_X7_endPhase, k_X7_again, k_X3_obey, ke_B2]
      exact z_vret hM hlk hr hW hS (zF.of rfl (by subst hB3; subst hB2; subst hB1; unfold s_X7_serve; rw [oel_s hq_5, pif_pos hn_23]; first | done | rfl)) dX7_serve_69
    ·
      rw [r_next_neg hn_23]
      rw [s_next_neg hn_23] at hW
      refine lv_astore_nN hM.1 hM.2.1 dX7_serve_26 rfl hl (by decide) (lv' := [(3, .null), (2, .ref (Z.1 3 (q5))), (0, .ref (Z.1 7 (0))), (1, .ref (Z.1 4 (j)))]) rfl (fun ls hl => ?_)
      refine lv_aload_nN hM.1 hM.2.1 dX7_serve_27 rfl (lv_at hl 0 rfl) ?_
      refine lv_ifnonnullN hM.1 hM.2.1 dX7_serve_28 ?_
      exact z_vret hM hlk hr hW hS (zF.of rfl (by subst hB1; unfold s_X7_serve; rw [oel_s hq_5, pif_neg hn_23]; first | done | rfl)) dX7_serve_31

noncomputable def r_X7_twice (S : zS) (n : Nat) (x : Int32) : Int32 := 
  (oel (r_X1_at S (pmR S.2.2) (x)) (0) (fun q5 => 
    (pif ((gi S 1 (0) (2)) < (300)) 
      (pif ((gi S 1 (0) (2)) < (300)) (1) (0)) (0))))
noncomputable def s_X7_twice (S : zS) (n : Nat) (x : Int32) : zS := 
  (oel (r_X1_at S (pmR S.2.2) (x)) (S) (fun q5 => 
    (pif ((gi S 1 (0) (2)) < (300)) 
      (pif ((gi S 1 (0) (2)) < (300)) ((s_X4_repeat (si S 1 (0) (2) ((gi S 1 (0) (2)) + 1)) (pmR S.2.2 (ix (gi S 1 (0) (2)))) (q5))) ((si S 1 (0) (3) ((gi S 1 (0) (3)) + 1)))) (S))))
theorem k_X7_twice {S : zS} {n : Nat} {x : Int32} : (s_X7_twice S n x).2.2 = S.2.2 := by unfold s_X7_twice; simp only [pif_22, oel_22, k_si, k_sj, pif_same, oel_same, k_X6_set, k_X6_put, k_X0_showTag, k_X4_repeat, k_X7_sendRequest, k_X7_sendRequests, k_X7_beginPhase, k_X7_endPhase, k_X7_again, k_X3_obey, k_X7_serve]
set_option maxHeartbeats 400000 in
set_option maxRecDepth 100000 in
theorem c_X7_twice {l : Launch} {D : va_G} {ar : Nat → ClassId} {A : Nat → Prop} {Z : zZ} {S : zS} {n : Nat} {x : Int32} (hV : zV n Z S.2.2) (hc0 : ¬ gi S 1 0 2 < 0) (hb : ∀ j, j < 301 → isB (gi S 4 j 1)) : zMet l yX7_twice prog_1_method_12_code 4 (some .boolean) ({ frames := 2, cells := 0, slots := 0, locals := 42 } : Room) D ar A Z S [.ref (Z.1 7 (0)), .int (x)] rvI (zF (r_X7_twice S n x) Z (s_X7_twice S n x)) := by
  refine z_body (by decide +kernel) (Nat.le_of_ble_eq_true rfl) ?_
  intro pX eX sX mX bX methX cX ls hM hr hlk hml hin hl hW hlo
  have hM : zM pX cX mX _ sX prog_1_method_12_code RX7 D ar := hM
  have hS : va_S A sX.heap sX.heap [] := va_S.rf
  have hl : lv_has ls 4 [(0, .ref (Z.1 7 (0))), (1, .int (x))] := hl
  refine lv_aload_n hM.1 hM.2.1 dX7_twice_0 rfl (lv_at hl 0 rfl) ?_
  refine z_getr hM hW zc7 hV.d7 rfl 4 (by decide) lf_X7_65 (t := 1) (j := 0) rfl hV.r74 dX7_twice_1 (fun hd1_1 => ?_)
  refine lv_iload_n hM.1 hM.2.1 dX7_twice_4 rfl (lv_at hl 1 rfl) ?_
  refine z_Vr hM (hml.trans hl.1.symm) hW hS hlo zc1 hd1_1 rfl zyX1_at lm_X7_122 li_yX1_at le_yX1_at (As := [.int (x)]) (rest := []) (c_X1_at hV.d1 hV.r10 hV.l15 hV.pm) rfl rfl (Nat.le_of_ble_eq_true rfl) ⟨Nat.le_of_ble_eq_true rfl, Nat.le_of_ble_eq_true rfl⟩ ⟨Nat.le_of_ble_eq_true rfl, Nat.le_of_ble_eq_true rfl⟩ dX7_twice_5 (fun H locs hW hS => ?_)
  rcases hq_5 : r_X1_at S (pmR S.2.2) (x) with _ | q5
  ·
    refine lv_astore_nN hM.1 hM.2.1 dX7_twice_8 rfl hl (by decide) (lv' := [(2, .null), (0, .ref (Z.1 7 (0))), (1, .int (x))]) rfl (fun ls hl => ?_)
    refine lv_aload_nN hM.1 hM.2.1 dX7_twice_9 rfl (lv_at hl 0 rfl) ?_
    refine lv_ifnullN hM.1 hM.2.1 dX7_twice_10 (tgt := 26) (by decide) ?_
    refine lv_iconst (v := 0) hM.1 hM.2.1 dX7_twice_26 (by decide) ?_
    exact z_iret hM hlk hr rfl hW hS (zF.of (by unfold r_X7_twice; rw [oel_n hq_5]; first | done | rfl) (by unfold s_X7_twice; rw [oel_n hq_5]; first | done | rfl)) dX7_twice_27
  ·
    obtain ⟨he_5, hb_5⟩ := rAt_some hV hq_5
    have hd_5 := hV.d4 hb_5
    refine lv_astore_n hM.1 hM.2.1 dX7_twice_8 rfl hl (by decide) (lv' := [(2, .ref (Z.1 4 (q5))), (0, .ref (Z.1 7 (0))), (1, .int (x))]) rfl (fun ls hl => ?_)
    refine lv_aload_n hM.1 hM.2.1 dX7_twice_9 rfl (lv_at hl 0 rfl) ?_
    refine lv_ifnull hM.1 hM.2.1 dX7_twice_10 ?_
    refine lv_aload_n hM.1 hM.2.1 dX7_twice_13 rfl (lv_at hl 1 rfl) ?_
    refine z_getr hM hW zc7 hV.d7 rfl 4 (by decide) lf_X7_65 (t := 1) (j := 0) rfl hV.r74 dX7_twice_14 (fun hd2_14 => ?_)
    refine z_get hM hW zc1 hd2_14 rfl 2 (by decide) lf_X7_148 (v := .int (gi S 1 (0) (2))) rfl dX7_twice_17 ?_
    refine lv_sipush (v := 300) hM.1 hM.2.1 dX7_twice_20 (by decide) ?_
    refine lv_icmp_lt hM.1 hM.2.1 dX7_twice_23 (tgt := 28) (by decide) (fun h_23 => ?_) (fun h_23 => ?_)
    ·
      refine lv_aload_n hM.1 hM.2.1 dX7_twice_28 rfl (lv_at hl 1 rfl) ?_
      refine z_getr hM hW zc7 hV.d7 rfl 4 (by decide) lf_X7_65 (t := 1) (j := 0) rfl hV.r74 dX7_twice_29 (fun hd3_29 => ?_)
      refine z_Vr hM (hml.trans hl.1.symm) hW hS hlo zc1 hd3_29 rfl zyX1_next lm_X7_154 li_yX1_next le_yX1_next (As := []) (rest := []) (c_X1_next (pm := pmR S.2.2) hV.d1 hV.r10 hV.l15 hV.pm hc0) rfl rfl (Nat.le_of_ble_eq_true rfl) ⟨Nat.le_of_ble_eq_true rfl, Nat.le_of_ble_eq_true rfl⟩ ⟨Nat.le_of_ble_eq_true rfl, Nat.le_of_ble_eq_true rfl⟩ dX7_twice_32 (fun H locs hW hS => ?_)
      by_cases hn_32 : (gi S 1 (0) (2)) < (300)
      ·
        rw [r_next_pos hn_32]
        rw [s_next_pos hn_32] at hW
        have hb_32 := hV.pmlt (next_lt hc0 hn_32)
        have hd_32 := hV.d4 hb_32
        refine lv_astore_n hM.1 hM.2.1 dX7_twice_35 rfl hl (by decide) (lv' := [(3, .ref (Z.1 4 (pmR S.2.2 (ix (gi S 1 (0) (2)))))), (2, .ref (Z.1 4 (q5))), (0, .ref (Z.1 7 (0))), (1, .int (x))]) rfl (fun ls hl => ?_)
        refine lv_aload_n hM.1 hM.2.1 dX7_twice_36 rfl (lv_at hl 0 rfl) ?_
        refine lv_ifnonnull hM.1 hM.2.1 dX7_twice_37 (tgt := 42) (by decide) ?_
        refine lv_aload_n hM.1 hM.2.1 dX7_twice_42 rfl (lv_at hl 0 rfl) ?_
        refine lv_aload_n hM.1 hM.2.1 dX7_twice_43 rfl (lv_at hl 1 rfl) ?_
        refine z_Vv hM (hml.trans hl.1.symm) hW hS hlo zc4 hd_32 rfl zyX4_repeat lm_X7_158 li_yX4_repeat le_yX4_repeat (As := [.ref (Z.1 4 (q5))]) (rest := []) (c_X4_repeat hd_32 hd_5 (hV.r4 hb_32) (hV.r4 hb_5) (hb _ hb_5)) rfl rfl (Nat.le_of_ble_eq_true rfl) ⟨Nat.le_of_ble_eq_true rfl, Nat.le_of_ble_eq_true rfl⟩ ⟨Nat.le_of_ble_eq_true rfl, Nat.le_of_ble_eq_true rfl⟩ dX7_twice_44 (fun H locs hW hS => ?_)
        obtain ⟨B1, hB1⟩ : ∃ B, B = (s_X4_repeat (si S 1 (0) (2) ((gi S 1 (0) (2)) + 1)) (pmR S.2.2 (ix (gi S 1 (0) (2)))) (q5)) := ⟨_, rfl⟩
        rw [← hB1] at hW
        have ke_B1 : B1.2.2 = S.2.2 := by rw [hB1]; simp only [pif_22, oel_22, k_si, k_sj, pif_same, oel_same, k_X6_set, k_X6_put, k_X0_showTag, k_X4_repeat, k_X7_sendRequest, k_X7_sendRequests, k_X7_beginPhase, k_X7_endPhase, k_X7_again, k_X3_obey, k_X7_serve]
        refine lv_iconst (v := 1) hM.1 hM.2.1 dX7_twice_47 (by decide) ?_
        exact z_iret hM hlk hr rfl hW hS (zF.of (by subst hB1; unfold r_X7_twice; rw [oel_s hq_5, pif_pos h_23, pif_pos hn_32]; first | done | rfl) (by subst hB1; unfold s_X7_twice; rw [oel_s hq_5, pif_pos h_23, pif_pos hn_32]; first | done | rfl)) dX7_twice_48
      ·
        rw [r_next_neg hn_32]
        rw [s_next_neg hn_32] at hW
        refine lv_astore_nN hM.1 hM.2.1 dX7_twice_35 rfl hl (by decide) (lv' := [(3, .null), (2, .ref (Z.1 4 (q5))), (0, .ref (Z.1 7 (0))), (1, .int (x))]) rfl (fun ls hl => ?_)
        refine lv_aload_nN hM.1 hM.2.1 dX7_twice_36 rfl (lv_at hl 0 rfl) ?_
        refine lv_ifnonnullN hM.1 hM.2.1 dX7_twice_37 ?_
        refine lv_iconst (v := 0) hM.1 hM.2.1 dX7_twice_40 (by decide) ?_
        exact z_iret hM hlk hr rfl hW hS (zF.of (by unfold r_X7_twice; rw [oel_s hq_5, pif_pos h_23, pif_neg hn_32]; first | done | rfl) (by unfold s_X7_twice; rw [oel_s hq_5, pif_pos h_23, pif_neg hn_32]; first | done | rfl)) dX7_twice_41
    ·
      refine lv_iconst (v := 0) hM.1 hM.2.1 dX7_twice_26 (by decide) ?_
      exact z_iret hM hlk hr rfl hW hS (zF.of (by unfold r_X7_twice; rw [oel_s hq_5, pif_neg h_23]; first | done | rfl) (by unfold s_X7_twice; rw [oel_s hq_5, pif_neg h_23]; first | done | rfl)) dX7_twice_27
end
section
/-- quorums in the tables from t to 'to' -/
noncomputable def lQuo (S : zS) (n c : Nat) (to : Int32) : Nat → Int32 → Int32
  | 0, _ => 0
  | f + 1, t => pif ((to) < (t)) 1 (oel (tbAt S (t)) 0 (fun q => pif ((gi S 2 (c) (3)) = (1)) (pif ((gi S 5 (q) (1)) ≤ (lSum S (1 + q) (gi S 2 (c) (5)) n 0 0)) (lQuo S n c to f (t + 1)) 0) (pif ((gi S 5 (q) (2)) ≤ (lSum S (1 + q) (gi S 2 (c) (5)) n 0 0)) (lQuo S n c to f (t + 1)) 0)))
theorem tb_lt {S : zS} {t : Int32} {q : Nat} (h : tbAt S t = some q) : ix (t + 1) = ix t + 1 ∧ ix t < 16 := by
  unfold tbAt at h
  by_cases h0 : t < 0
  · rw [pif_pos h0] at h; cases h
  · rw [pif_neg h0] at h
    by_cases h1 : 16 ≤ t
    · rw [pif_pos h1] at h; cases h
    · have e1 : (1 : Int32).toInt = 1 := rfl
      have e3 : (16 : Int32).toInt = 16 := rfl
      rw [Int32.lt_iff_toInt_lt, Int32.toInt_zero] at h0
      rw [Int32.le_iff_toInt_le, e3] at h1
      have e : (t + 1).toInt = t.toInt + 1 := by rw [Int32.toInt_add, e1, Int.bmod_eq_of_le (by omega) (by omega)]
      refine ⟨?_, ?_⟩
      · show (t + 1).toInt.toNat = t.toInt.toNat + 1
        omega
      · show t.toInt.toNat < 16
        omega
noncomputable def r_X7_hasQuorum (S : zS) (n c a : Nat) : Int32 :=
  (pif ((gi S 2 (c) (3)) = (3)) (lQuo S n c ((gi S 0 (a) (7)) - (1)) 18 (gi S 2 (c) (6))) 
    (pif ((gi S 2 (c) (3)) = (4)) (lQuo S n c (gi S 0 (a) (7)) 18 (gi S 0 (a) (7))) 
      (pif ((gi S 2 (c) (3)) = (5)) (lQuo S n c (gi S 0 (a) (7)) 18 (gi S 0 (a) (7))) (lQuo S n c (gi S 2 (c) (7)) 18 (gi S 2 (c) (6))))))
set_option maxHeartbeats 400000 in
set_option maxRecDepth 100000 in
theorem c_X7_hasQuorum {l : Launch} {D : va_G} {ar : Nat → ClassId} {A : Nat → Prop} {Z : zZ} {S : zS} {n c a : Nat} (hV : zV n Z S.2.2) (hc : c < 4) (ha : Z.2.1 0 a) : zMet l yX7_hasQuorum prog_1_method_36_code 8 (some .boolean) ({ frames := 1, cells := 0, slots := 0, locals := 23 } : Room) D ar A Z S [.ref (Z.1 7 (0)), .ref (Z.1 2 (c)), .ref (Z.1 0 (a))] rvI (zF (r_X7_hasQuorum S n c a) Z S) := by
  refine z_body (by decide +kernel) (Nat.le_of_ble_eq_true rfl) ?_
  intro pX eX sX mX bX methX cX ls hM hr hlk hml hin hl hW hlo
  have hM : zM pX cX mX _ sX prog_1_method_36_code RX7 D ar := hM
  have hS : va_S A sX.heap sX.heap [] := va_S.rf
  have hl : lv_has ls 8 [(0, .ref (Z.1 7 (0))), (1, .ref (Z.1 2 (c))), (2, .ref (Z.1 0 (a)))] := hl
  have loop : ∀ (f : Nat) (t to fr : Int32) (ls : Array Slot) (H : Heap) (locs : List Loc), 17 ≤ f + ix t → (ix t ≤ 16 ∨ f = 18) → lQuo S n c to f t = r_X7_hasQuorum S n c a → lv_has ls 8 [(5, .int (t)), (4, .int (to)), (3, .int (fr)), (0, .ref (Z.1 7 (0))), (1, .ref (Z.1 2 (c))), (2, .ref (Z.1 0 (a)))] → zW D ar A Z S H → va_S A sX.heap H locs → W pX l eX ({ frames := 1, cells := 0, slots := 0, locals := 23 } : Room) sX mX ([.ref (Z.1 7 (0)), .ref (Z.1 2 (c)), .ref (Z.1 0 (a))] : List Value).toArray bX methX cX H locs 0 0 (MQ bX (zQ D ar A rvI (zF (r_X7_hasQuorum S n c a) Z S)) ([.ref (Z.1 7 (0)), .ref (Z.1 2 (c)), .ref (Z.1 0 (a))] : List Value).toArray sX 0 0 A) (F0 mX 60 ls []) := by
    intro f
    induction f with
    | zero =>
      intro t to fr ls H locs hf hg hE hl hW hS
      exfalso
      omega
    | succ f ih =>
      intro t to fr ls H locs hf hg hE hl hW hS
      refine lv_iload hM.1 hM.2.1 dX7_hasQuorum_60 (lv_at hl 0 rfl) ?_
      refine lv_iload hM.1 hM.2.1 dX7_hasQuorum_62 (lv_at hl 1 rfl) ?_
      refine lv_icmp_gt hM.1 hM.2.1 dX7_hasQuorum_64 (tgt := 130) (by decide) (fun h_64 => ?_) (fun h_64 => ?_)
      ·
        refine lv_iconst (v := 1) hM.1 hM.2.1 dX7_hasQuorum_130 (by decide) ?_
        exact z_iret hM hlk hr rfl hW hS (zF.of (by rw [show lQuo S n c to (f + 1) t = pif _ _ _ from rfl, pif_pos h_64] at hE; exact hE) rfl) dX7_hasQuorum_131
      ·
        refine lv_aload_n hM.1 hM.2.1 dX7_hasQuorum_67 rfl (lv_at hl 3 rfl) ?_
        refine lv_iload hM.1 hM.2.1 dX7_hasQuorum_68 (lv_at hl 0 rfl) ?_
        refine z_Vr hM (hml.trans hl.1.symm) hW hS hlo zc7 hV.d7 rfl zyX7_tableAt lm_X7_229 li_yX7_tableAt le_yX7_tableAt (As := [.int (t)]) (rest := []) (c_X7_tableAt hV) rfl rfl (Nat.le_of_ble_eq_true rfl) ⟨Nat.le_of_ble_eq_true rfl, Nat.le_of_ble_eq_true rfl⟩ ⟨Nat.le_of_ble_eq_true rfl, Nat.le_of_ble_eq_true rfl⟩ dX7_hasQuorum_70 (fun H locs hW hS => ?_)
        rcases hq_70 : tbAt S (t) with _ | q70
        ·
          refine lv_astoreN hM.1 hM.2.1 dX7_hasQuorum_73 hl (by decide) (lv' := [(6, .null), (5, .int (t)), (4, .int (to)), (3, .int (fr)), (0, .ref (Z.1 7 (0))), (1, .ref (Z.1 2 (c))), (2, .ref (Z.1 0 (a)))]) rfl (fun ls hl => ?_)
          refine lv_aloadN hM.1 hM.2.1 dX7_hasQuorum_75 (lv_at hl 0 rfl) ?_
          refine lv_ifnonnullN hM.1 hM.2.1 dX7_hasQuorum_77 ?_
          refine lv_iconst (v := 0) hM.1 hM.2.1 dX7_hasQuorum_80 (by decide) ?_
          exact z_iret hM hlk hr rfl hW hS (zF.of (by rw [show lQuo S n c to (f + 1) t = pif _ _ _ from rfl, pif_neg h_64, oel_n hq_70] at hE; exact hE) rfl) dX7_hasQuorum_81
        ·
          obtain ⟨he_70, hb_70, hd_70, hr5_70, hl9_70⟩ := tbAt_some hV hq_70
          refine lv_astore hM.1 hM.2.1 dX7_hasQuorum_73 hl (by decide) (lv' := [(6, .ref (Z.1 5 (q70))), (5, .int (t)), (4, .int (to)), (3, .int (fr)), (0, .ref (Z.1 7 (0))), (1, .ref (Z.1 2 (c))), (2, .ref (Z.1 0 (a)))]) rfl (fun ls hl => ?_)
          refine lv_aload hM.1 hM.2.1 dX7_hasQuorum_75 (lv_at hl 0 rfl) ?_
          refine lv_ifnonnull hM.1 hM.2.1 dX7_hasQuorum_77 (tgt := 82) (by decide) ?_
          refine lv_aload_n hM.1 hM.2.1 dX7_hasQuorum_82 rfl (lv_at hl 5 rfl) ?_
          refine z_get hM hW zc2 (hV.d2 hc) rfl 3 (by decide) lf_X7_189 (v := .int (gi S 2 (c) (3))) rfl dX7_hasQuorum_83 ?_
          refine lv_iconst (v := 1) hM.1 hM.2.1 dX7_hasQuorum_86 (by decide) ?_
          refine lv_icmp_ne hM.1 hM.2.1 dX7_hasQuorum_87 (tgt := 98) (by decide) (fun h_87 => ?_) (fun h_87 => ?_)
          ·
            refine lv_aload hM.1 hM.2.1 dX7_hasQuorum_98 (lv_at hl 0 rfl) ?_
            refine z_get hM hW zc5 hd_70 rfl 2 (by decide) lf_X7_239 (v := .int (gi S 5 (q70) (2))) rfl dX7_hasQuorum_100 ?_
            refine lv_istore hM.1 hM.2.1 dX7_hasQuorum_103 hl (by decide) (lv' := [(7, .int (gi S 5 (q70) (2))), (6, .ref (Z.1 5 (q70))), (5, .int (t)), (4, .int (to)), (3, .int (fr)), (0, .ref (Z.1 7 (0))), (1, .ref (Z.1 2 (c))), (2, .ref (Z.1 0 (a)))]) rfl (fun ls hl => ?_)
            refine lv_aload hM.1 hM.2.1 dX7_hasQuorum_105 (lv_at hl 1 rfl) ?_
            refine z_getr hM hW zc5 hd_70 rfl 0 (by decide) lf_X7_233 (t := 9) (j := 1 + q70) rfl hr5_70 dX7_hasQuorum_107 (fun hd1_107 => ?_)
            refine lv_aload_n hM.1 hM.2.1 dX7_hasQuorum_110 rfl (lv_at hl 6 rfl) ?_
            refine z_get hM hW zc2 (hV.d2 hc) rfl 5 (by decide) lf_X7_192 (v := .int (gi S 2 (c) (5))) rfl dX7_hasQuorum_111 ?_
            refine z_Si hM (hml.trans hl.1.symm) hW hS hlo zyX5_sum lm_X7_284 ls_yX5_sum (As := [.ref (Z.1 9 (1 + q70)), .int (gi S 2 (c) (5))]) (rest := []) (c_X5_sum (n := n) hd1_107 hl9_70 hV.n7) rfl rfl (Nat.le_of_ble_eq_true rfl) ⟨Nat.le_of_ble_eq_true rfl, Nat.le_of_ble_eq_true rfl⟩ ⟨Nat.le_of_ble_eq_true rfl, Nat.le_of_ble_eq_true rfl⟩ dX7_hasQuorum_114 (fun H locs hW hS => ?_)
            refine lv_iload hM.1 hM.2.1 dX7_hasQuorum_117 (lv_at hl 0 rfl) ?_
            refine lv_icmp_ge hM.1 hM.2.1 dX7_hasQuorum_119 (tgt := 124) (by decide) (fun h_119 => ?_) (fun h_119 => ?_)
            ·
              refine lv_iinc hM.1 hM.2.1 dX7_hasQuorum_124 hl (k := 2) rfl (v := t + 1) rfl (by decide) (lv' := [(5, .int (t + 1)), (7, .int (gi S 5 (q70) (2))), (6, .ref (Z.1 5 (q70))), (4, .int (to)), (3, .int (fr)), (0, .ref (Z.1 7 (0))), (1, .ref (Z.1 2 (c))), (2, .ref (Z.1 0 (a)))]) rfl (fun ls hl => ?_)
              refine lv_goto hM.1 hM.2.1 dX7_hasQuorum_127 (tgt := 60) (by decide) ?_
              exact ih (t + 1) to fr ls H locs (by have := tb_lt hq_70; omega) (by have := tb_lt hq_70; omega) (by rw [show lQuo S n c to (f + 1) t = pif _ _ _ from rfl, pif_neg h_64, oel_s hq_70, pif_neg h_87, pif_pos h_119] at hE; exact hE) (lv_sub hl [0, 3, 4, 5, 6, 7] rfl) hW hS
            ·
              refine lv_iconst (v := 0) hM.1 hM.2.1 dX7_hasQuorum_122 (by decide) ?_
              exact z_iret hM hlk hr rfl hW hS (zF.of (by rw [show lQuo S n c to (f + 1) t = pif _ _ _ from rfl, pif_neg h_64, oel_s hq_70, pif_neg h_87, pif_neg h_119] at hE; exact hE) rfl) dX7_hasQuorum_123
          ·
            refine lv_aload hM.1 hM.2.1 dX7_hasQuorum_90 (lv_at hl 0 rfl) ?_
            refine z_get hM hW zc5 hd_70 rfl 1 (by decide) lf_X7_236 (v := .int (gi S 5 (q70) (1))) rfl dX7_hasQuorum_92 ?_
            refine lv_goto hM.1 hM.2.1 dX7_hasQuorum_95 (tgt := 103) (by decide) ?_
            refine lv_istore hM.1 hM.2.1 dX7_hasQuorum_103 hl (by decide) (lv' := [(7, .int (gi S 5 (q70) (1))), (6, .ref (Z.1 5 (q70))), (5, .int (t)), (4, .int (to)), (3, .int (fr)), (0, .ref (Z.1 7 (0))), (1, .ref (Z.1 2 (c))), (2, .ref (Z.1 0 (a)))]) rfl (fun ls hl => ?_)
            refine lv_aload hM.1 hM.2.1 dX7_hasQuorum_105 (lv_at hl 1 rfl) ?_
            refine z_getr hM hW zc5 hd_70 rfl 0 (by decide) lf_X7_233 (t := 9) (j := 1 + q70) rfl hr5_70 dX7_hasQuorum_107 (fun hd2_107 => ?_)
            refine lv_aload_n hM.1 hM.2.1 dX7_hasQuorum_110 rfl (lv_at hl 6 rfl) ?_
            refine z_get hM hW zc2 (hV.d2 hc) rfl 5 (by decide) lf_X7_192 (v := .int (gi S 2 (c) (5))) rfl dX7_hasQuorum_111 ?_
            refine z_Si hM (hml.trans hl.1.symm) hW hS hlo zyX5_sum lm_X7_284 ls_yX5_sum (As := [.ref (Z.1 9 (1 + q70)), .int (gi S 2 (c) (5))]) (rest := []) (c_X5_sum (n := n) hd2_107 hl9_70 hV.n7) rfl rfl (Nat.le_of_ble_eq_true rfl) ⟨Nat.le_of_ble_eq_true rfl, Nat.le_of_ble_eq_true rfl⟩ ⟨Nat.le_of_ble_eq_true rfl, Nat.le_of_ble_eq_true rfl⟩ dX7_hasQuorum_114 (fun H locs hW hS => ?_)
            refine lv_iload hM.1 hM.2.1 dX7_hasQuorum_117 (lv_at hl 0 rfl) ?_
            refine lv_icmp_ge hM.1 hM.2.1 dX7_hasQuorum_119 (tgt := 124) (by decide) (fun h_119 => ?_) (fun h_119 => ?_)
            ·
              refine lv_iinc hM.1 hM.2.1 dX7_hasQuorum_124 hl (k := 2) rfl (v := t + 1) rfl (by decide) (lv' := [(5, .int (t + 1)), (7, .int (gi S 5 (q70) (1))), (6, .ref (Z.1 5 (q70))), (4, .int (to)), (3, .int (fr)), (0, .ref (Z.1 7 (0))), (1, .ref (Z.1 2 (c))), (2, .ref (Z.1 0 (a)))]) rfl (fun ls hl => ?_)
              refine lv_goto hM.1 hM.2.1 dX7_hasQuorum_127 (tgt := 60) (by decide) ?_
              exact ih (t + 1) to fr ls H locs (by have := tb_lt hq_70; omega) (by have := tb_lt hq_70; omega) (by rw [show lQuo S n c to (f + 1) t = pif _ _ _ from rfl, pif_neg h_64, oel_s hq_70, pif_pos h_87, pif_pos h_119] at hE; exact hE) (lv_sub hl [0, 3, 4, 5, 6, 7] rfl) hW hS
            ·
              refine lv_iconst (v := 0) hM.1 hM.2.1 dX7_hasQuorum_122 (by decide) ?_
              exact z_iret hM hlk hr rfl hW hS (zF.of (by rw [show lQuo S n c to (f + 1) t = pif _ _ _ from rfl, pif_neg h_64, oel_s hq_70, pif_pos h_87, pif_neg h_119] at hE; exact hE) rfl) dX7_hasQuorum_123
  refine lv_aload_n hM.1 hM.2.1 dX7_hasQuorum_0 rfl (lv_at hl 1 rfl) ?_
  refine z_get hM hW zc2 (hV.d2 hc) rfl 6 (by decide) lf_X7_77 (v := .int (gi S 2 (c) (6))) rfl dX7_hasQuorum_1 ?_
  refine lv_istore_n hM.1 hM.2.1 dX7_hasQuorum_4 rfl hl (by decide) (lv' := [(3, .int (gi S 2 (c) (6))), (0, .ref (Z.1 7 (0))), (1, .ref (Z.1 2 (c))), (2, .ref (Z.1 0 (a)))]) rfl (fun ls hl => ?_)
  refine lv_aload_n hM.1 hM.2.1 dX7_hasQuorum_5 rfl (lv_at hl 2 rfl) ?_
  refine z_get hM hW zc2 (hV.d2 hc) rfl 7 (by decide) lf_X7_80 (v := .int (gi S 2 (c) (7))) rfl dX7_hasQuorum_6 ?_
  refine lv_istore hM.1 hM.2.1 dX7_hasQuorum_9 hl (by decide) (lv' := [(4, .int (gi S 2 (c) (7))), (3, .int (gi S 2 (c) (6))), (0, .ref (Z.1 7 (0))), (1, .ref (Z.1 2 (c))), (2, .ref (Z.1 0 (a)))]) rfl (fun ls hl => ?_)
  refine lv_aload_n hM.1 hM.2.1 dX7_hasQuorum_11 rfl (lv_at hl 3 rfl) ?_
  refine z_get hM hW zc2 (hV.d2 hc) rfl 3 (by decide) lf_X7_189 (v := .int (gi S 2 (c) (3))) rfl dX7_hasQuorum_12 ?_
  refine lv_iconst (v := 3) hM.1 hM.2.1 dX7_hasQuorum_15 (by decide) ?_
  refine lv_icmp_ne hM.1 hM.2.1 dX7_hasQuorum_16 (tgt := 30) (by decide) (fun h_16 => ?_) (fun h_16 => ?_)
  ·
    refine lv_aload_n hM.1 hM.2.1 dX7_hasQuorum_30 rfl (lv_at hl 3 rfl) ?_
    refine z_get hM hW zc2 (hV.d2 hc) rfl 3 (by decide) lf_X7_189 (v := .int (gi S 2 (c) (3))) rfl dX7_hasQuorum_31 ?_
    refine lv_iconst (v := 4) hM.1 hM.2.1 dX7_hasQuorum_34 (by decide) ?_
    refine lv_icmp_eq hM.1 hM.2.1 dX7_hasQuorum_35 (tgt := 46) (by decide) (fun h_35 => ?_) (fun h_35 => ?_)
    ·
      refine lv_aload_n hM.1 hM.2.1 dX7_hasQuorum_46 rfl (lv_at hl 4 rfl) ?_
      refine z_get hM hW zc0 ha rfl 7 (by decide) lf_X7_226 (v := .int (gi S 0 (a) (7))) rfl dX7_hasQuorum_47 ?_
      refine lv_istore_n hM.1 hM.2.1 dX7_hasQuorum_50 rfl hl (by decide) (lv' := [(3, .int (gi S 0 (a) (7))), (4, .int (gi S 2 (c) (7))), (0, .ref (Z.1 7 (0))), (1, .ref (Z.1 2 (c))), (2, .ref (Z.1 0 (a)))]) rfl (fun ls hl => ?_)
      refine lv_aload_n hM.1 hM.2.1 dX7_hasQuorum_51 rfl (lv_at hl 4 rfl) ?_
      refine z_get hM hW zc0 ha rfl 7 (by decide) lf_X7_226 (v := .int (gi S 0 (a) (7))) rfl dX7_hasQuorum_52 ?_
      refine lv_istore hM.1 hM.2.1 dX7_hasQuorum_55 hl (by decide) (lv' := [(4, .int (gi S 0 (a) (7))), (3, .int (gi S 0 (a) (7))), (0, .ref (Z.1 7 (0))), (1, .ref (Z.1 2 (c))), (2, .ref (Z.1 0 (a)))]) rfl (fun ls hl => ?_)
      refine lv_iload_n hM.1 hM.2.1 dX7_hasQuorum_57 rfl (lv_at hl 1 rfl) ?_
      refine lv_istore hM.1 hM.2.1 dX7_hasQuorum_58 hl (by decide) (lv' := [(5, .int (gi S 0 (a) (7))), (4, .int (gi S 0 (a) (7))), (3, .int (gi S 0 (a) (7))), (0, .ref (Z.1 7 (0))), (1, .ref (Z.1 2 (c))), (2, .ref (Z.1 0 (a)))]) rfl (fun ls hl => ?_)
      exact loop 18 _ _ _ ls _ _ (by omega) (Or.inr rfl) (by unfold r_X7_hasQuorum; rw [pif_neg h_16, pif_pos h_35]) (lv_sub hl [0, 1, 2, 3, 4, 5] rfl) hW hS
    ·
      refine lv_aload_n hM.1 hM.2.1 dX7_hasQuorum_38 rfl (lv_at hl 3 rfl) ?_
      refine z_get hM hW zc2 (hV.d2 hc) rfl 3 (by decide) lf_X7_189 (v := .int (gi S 2 (c) (3))) rfl dX7_hasQuorum_39 ?_
      refine lv_iconst (v := 5) hM.1 hM.2.1 dX7_hasQuorum_42 (by decide) ?_
      refine lv_icmp_ne hM.1 hM.2.1 dX7_hasQuorum_43 (tgt := 57) (by decide) (fun h_43 => ?_) (fun h_43 => ?_)
      ·
        refine lv_iload_n hM.1 hM.2.1 dX7_hasQuorum_57 rfl (lv_at hl 1 rfl) ?_
        refine lv_istore hM.1 hM.2.1 dX7_hasQuorum_58 hl (by decide) (lv' := [(5, .int (gi S 2 (c) (6))), (4, .int (gi S 2 (c) (7))), (3, .int (gi S 2 (c) (6))), (0, .ref (Z.1 7 (0))), (1, .ref (Z.1 2 (c))), (2, .ref (Z.1 0 (a)))]) rfl (fun ls hl => ?_)
        exact loop 18 _ _ _ ls _ _ (by omega) (Or.inr rfl) (by unfold r_X7_hasQuorum; rw [pif_neg h_16, pif_neg h_35, pif_neg h_43]) (lv_sub hl [0, 1, 2, 3, 4, 5] rfl) hW hS
      ·
        refine lv_aload_n hM.1 hM.2.1 dX7_hasQuorum_46 rfl (lv_at hl 4 rfl) ?_
        refine z_get hM hW zc0 ha rfl 7 (by decide) lf_X7_226 (v := .int (gi S 0 (a) (7))) rfl dX7_hasQuorum_47 ?_
        refine lv_istore_n hM.1 hM.2.1 dX7_hasQuorum_50 rfl hl (by decide) (lv' := [(3, .int (gi S 0 (a) (7))), (4, .int (gi S 2 (c) (7))), (0, .ref (Z.1 7 (0))), (1, .ref (Z.1 2 (c))), (2, .ref (Z.1 0 (a)))]) rfl (fun ls hl => ?_)
        refine lv_aload_n hM.1 hM.2.1 dX7_hasQuorum_51 rfl (lv_at hl 4 rfl) ?_
        refine z_get hM hW zc0 ha rfl 7 (by decide) lf_X7_226 (v := .int (gi S 0 (a) (7))) rfl dX7_hasQuorum_52 ?_
        refine lv_istore hM.1 hM.2.1 dX7_hasQuorum_55 hl (by decide) (lv' := [(4, .int (gi S 0 (a) (7))), (3, .int (gi S 0 (a) (7))), (0, .ref (Z.1 7 (0))), (1, .ref (Z.1 2 (c))), (2, .ref (Z.1 0 (a)))]) rfl (fun ls hl => ?_)
        refine lv_iload_n hM.1 hM.2.1 dX7_hasQuorum_57 rfl (lv_at hl 1 rfl) ?_
        refine lv_istore hM.1 hM.2.1 dX7_hasQuorum_58 hl (by decide) (lv' := [(5, .int (gi S 0 (a) (7))), (4, .int (gi S 0 (a) (7))), (3, .int (gi S 0 (a) (7))), (0, .ref (Z.1 7 (0))), (1, .ref (Z.1 2 (c))), (2, .ref (Z.1 0 (a)))]) rfl (fun ls hl => ?_)
        exact loop 18 _ _ _ ls _ _ (by omega) (Or.inr rfl) (by unfold r_X7_hasQuorum; rw [pif_neg h_16, pif_neg h_35, pif_pos h_43]) (lv_sub hl [0, 1, 2, 3, 4, 5] rfl) hW hS
  ·
    refine lv_aload_n hM.1 hM.2.1 dX7_hasQuorum_19 rfl (lv_at hl 4 rfl) ?_
    refine z_get hM hW zc0 ha rfl 7 (by decide) lf_X7_226 (v := .int (gi S 0 (a) (7))) rfl dX7_hasQuorum_20 ?_
    refine lv_iconst (v := 1) hM.1 hM.2.1 dX7_hasQuorum_23 (by decide) ?_
    refine lv_isub hM.1 hM.2.1 dX7_hasQuorum_24 ?_
    refine lv_istore hM.1 hM.2.1 dX7_hasQuorum_25 hl (by decide) (lv' := [(4, .int ((gi S 0 (a) (7)) - (1))), (3, .int (gi S 2 (c) (6))), (0, .ref (Z.1 7 (0))), (1, .ref (Z.1 2 (c))), (2, .ref (Z.1 0 (a)))]) rfl (fun ls hl => ?_)
    refine lv_goto hM.1 hM.2.1 dX7_hasQuorum_27 (tgt := 57) (by decide) ?_
    refine lv_iload_n hM.1 hM.2.1 dX7_hasQuorum_57 rfl (lv_at hl 1 rfl) ?_
    refine lv_istore hM.1 hM.2.1 dX7_hasQuorum_58 hl (by decide) (lv' := [(5, .int (gi S 2 (c) (6))), (4, .int ((gi S 0 (a) (7)) - (1))), (3, .int (gi S 2 (c) (6))), (0, .ref (Z.1 7 (0))), (1, .ref (Z.1 2 (c))), (2, .ref (Z.1 0 (a)))]) rfl (fun ls hl => ?_)
    exact loop 18 _ _ _ ls _ _ (by omega) (Or.inr rfl) (by unfold r_X7_hasQuorum; rw [pif_pos h_16]) (lv_sub hl [0, 1, 2, 3, 4, 5] rfl) hW hS
end
section
theorem rAt_cases {S : zS} {pm : Nat → Nat} {x : Int32} {q : Nat} (h : r_X1_at S pm x = some q) : q = pm (ix x) ∧ ¬ x < 0 ∧ ¬ gi S 1 0 2 ≤ x ∧ ¬ 300 ≤ x := by
  unfold r_X1_at at h
  by_cases h0 : x < 0
  · rw [pif_pos h0] at h; cases h
  · rw [pif_neg h0] at h
    by_cases h1 : gi S 1 0 2 ≤ x
    · rw [pif_pos h1] at h; cases h
    · rw [pif_neg h1] at h
      by_cases h2 : 300 ≤ x
      · rw [pif_pos h2] at h; cases h
      · rw [pif_neg h2] at h
        cases h
        exact ⟨rfl, h0, h1, h2⟩
theorem ix_nI {j : Nat} (h : j < 2 ^ 31) : ix (nI j) = j := nI_clamp h
theorem nI_ix {x : Int32} (h : ¬ x < 0) : nI (ix x) = x := by
  rw [Int32.lt_iff_toInt_lt, Int32.toInt_zero] at h
  apply Int32.toInt_inj.mp
  have hx := Int32.toInt_lt x
  have : ix x = x.toInt.toNat := rfl
  rw [nI_toInt (by omega), this]
  omega
theorem ix_lt_nI {x : Int32} {n : Nat} (h0 : ¬ x < 0) (h1 : ¬ nI n ≤ x) (hn : n < 2 ^ 31) : ix x < n := vin_lt (vin_of h0 h1 hn rfl) rfl
theorem nI_sub1 {j : Nat} (h : 1 ≤ j) (hj : j < 2 ^ 31) : nI j - 1 = nI (j - 1) := by
  apply Int32.toInt_inj.mp
  have e1 : (1 : Int32).toInt = 1 := rfl
  rw [Int32.toInt_sub, e1, nI_toInt hj, nI_toInt (by omega), Int.bmod_eq_of_le (by omega) (by omega)]
  omega
/-- the rows from j on moved down by one -/
def lTk (pm : Nat → Nat) : Nat → Nat → zS → zS
  | 0, _, T => T
  | f + 1, j, T => lTk pm f (j + 1) (sr T 15 (0) (ix ((nI j) - (1))) (some (pm j)))
def fTk (tk : Nat) (T : zS) (q : Nat) : zS := sr (sr (si T 1 (0) (2) ((gi T 1 (0) (2)) - (1))) 15 (0) (ix ((gi T 1 (0) (2)) - (1))) (some (tk))) 1 (0) (1) (some (q))
noncomputable def s_X1_take (S : zS) (pm : Nat → Nat) (tk cn : Nat) (k : Int32) : zS := oel (r_X1_at S pm k) S (fun q => fTk tk (lTk pm (cn - (ix k + 1)) (ix k + 1) S) q)
noncomputable def r_X1_take (S : zS) (pm : Nat → Nat) (k : Int32) : Int32 := oel (r_X1_at S pm k) 0 (fun _ => 1)
set_option maxHeartbeats 400000 in
set_option maxRecDepth 100000 in
theorem c_X1_take {l : Launch} {D : va_G} {ar : Nat → ClassId} {A : Nat → Prop} {Z : zZ} {S : zS} {pm : Nat → Nat} {tk cn : Nat} {k : Int32} (hi : Z.2.1 1 0) (hrw : gr S 1 0 0 = some 0) (hz : Z.2.2 15 0 = 300) (hpm : ∀ j, j < 300 → gr S 15 0 j = some (pm j)) (htk : gr S 1 0 1 = some tk) (hcn : gi S 1 0 2 = nI cn) (hcm : cn ≤ 300) : zMet l yX1_take prog_3_method_4_code 4 (some .boolean) ({ frames := 1, cells := 0, slots := 0, locals := 21 } : Room) D ar A Z S [.ref (Z.1 1 (0)), .int (k)] rvI (zF (r_X1_take S pm k) Z (s_X1_take S pm tk cn k)) := by
  refine z_body (by decide +kernel) (Nat.le_of_ble_eq_true rfl) ?_
  intro pX eX sX mX bX methX cX ls hM hr hlk hml hin hl hW hlo
  have hM : zM pX cX mX _ sX prog_3_method_4_code RX1 D ar := hM
  have hS : va_S A sX.heap sX.heap [] := va_S.rf
  have hl : lv_has ls 4 [(0, .ref (Z.1 1 (0))), (1, .int (k))] := hl
  have loop : ∀ (f j q : Nat) (T : zS) (ls : Array Slot) (H : Heap) (locs : List Loc), Z.2.1 4 q → 1 ≤ j → j + f = cn → T.1 = S.1 → gr T 1 0 0 = some 0 → gr T 1 0 1 = some tk → (∀ i, j ≤ i → i < 300 → gr T 15 0 i = some (pm i)) → fTk tk (lTk pm f j T) q = s_X1_take S pm tk cn k → 1 = r_X1_take S pm k → lv_has ls 4 [(3, .int (nI j)), (2, .ref (Z.1 4 (q))), (0, .ref (Z.1 1 (0))), (1, .int (k))] → zW D ar A Z T H → va_S A sX.heap H locs → W pX l eX ({ frames := 1, cells := 0, slots := 0, locals := 21 } : Room) sX mX ([.ref (Z.1 1 (0)), .int (k)] : List Value).toArray bX methX cX H locs 0 0 (MQ bX (zQ D ar A rvI (zF (r_X1_take S pm k) Z (s_X1_take S pm tk cn k))) ([.ref (Z.1 1 (0)), .int (k)] : List Value).toArray sX 0 0 A) (F0 mX 16 ls []) := by
    intro f
    induction f with
    | zero =>
      intro j q T ls H locs hdq hj hf hT1 hTa hTb hTr hE hE1 hl hW hS
      have hcT : gi T 1 0 2 = nI cn := by rw [← hcn]; unfold gi; rw [hT1]
      have hc9 : gi T 1 0 2 ≤ nI j := by rw [hcT, show j = cn by omega]; exact Int32.le_refl _
      have hix : vp_in (gi T 1 0 2 - 1) (Z.2.2 15 0) := by rw [hz, hcT, nI_sub1 (by omega) (by omega)]; exact nI_in (by omega) (by omega)
      refine lv_iload_n hM.1 hM.2.1 dX1_take_16 rfl (lv_at hl 0 rfl) ?_
      refine lv_aload_n hM.1 hM.2.1 dX1_take_17 rfl (lv_at hl 2 rfl) ?_
      refine z_get hM hW zc1 hi rfl 2 (by decide) lf_X1_22 (v := .int (gi T 1 (0) (2))) rfl dX1_take_18 ?_
      refine lv_icmp_ge hM.1 hM.2.1 dX1_take_21 (tgt := 53) (by decide) (fun _ => ?_) (fun h => absurd hc9 h)
      refine lv_aload_n hM.1 hM.2.1 dX1_take_53 rfl (lv_at hl 2 rfl) ?_
      refine lv_dup hM.1 hM.2.1 dX1_take_54 rfl ?_
      refine z_get hM hW zc1 hi rfl 2 (by decide) lf_X1_22 (v := .int (gi T 1 (0) (2))) rfl dX1_take_55 ?_
      refine lv_iconst (v := 1) hM.1 hM.2.1 dX1_take_58 (by decide) ?_
      refine lv_isub hM.1 hM.2.1 dX1_take_59 ?_
      refine z_puti hM hW hS zc1 hi rfl 2 (by decide) rfl lf_X1_22 (Or.inl rfl) (tyX1 2) (tyX1_ok 2 (by decide)) rfl rfl dX1_take_60 (fun H locs hW hS => ?_)
      refine lv_aload_n hM.1 hM.2.1 dX1_take_63 rfl (lv_at hl 2 rfl) ?_
      refine z_getr hM hW zc1 hi rfl 0 (by decide) lf_X1_11 (t := 15) (j := 0) rfl hTa dX1_take_64 (fun hd1_64 => ?_)
      refine lv_aload_n hM.1 hM.2.1 dX1_take_67 rfl (lv_at hl 2 rfl) ?_
      refine z_get hM hW zc1 hi rfl 2 (by decide) lf_X1_22 (v := .int ((gi T 1 (0) (2)) - (1))) rfl dX1_take_68 ?_
      refine lv_aload_n hM.1 hM.2.1 dX1_take_71 rfl (lv_at hl 2 rfl) ?_
      refine z_getr hM hW zc1 hi rfl 1 (by decide) lf_X1_18 (t := 4) (j := tk) rfl hTb dX1_take_72 (fun hd2_72 => ?_)
      refine z_aast hM hW hS hd1_64 (by decide) rfl 6 rfl (t := 4) (q := tk) (fun _ => rfl) zc4 hd2_72 rfl hix dX1_take_75 (fun H locs hW hS => ?_)
      refine lv_aload_n hM.1 hM.2.1 dX1_take_76 rfl (lv_at hl 2 rfl) ?_
      refine lv_aload_n hM.1 hM.2.1 dX1_take_77 rfl (lv_at hl 1 rfl) ?_
      refine z_putr hM hW hS zc1 hi rfl 1 (by decide) (t := 4) (j := q) rfl hdq lf_X1_18 (Or.inl rfl) (tyX1 1) (tyX1_ok 1 (by decide)) (fun _ => rfl) (fun _ => rfl) dX1_take_78 (fun H locs hW hS => ?_)
      refine lv_iconst (v := 1) hM.1 hM.2.1 dX1_take_81 (by decide) ?_
      exact z_iret hM hlk hr rfl hW hS (zF.of hE1 hE) dX1_take_82
    | succ f ih =>
      intro j q T ls H locs hdq hj hf hT1 hTa hTb hTr hE hE1 hl hW hS
      have hcT : gi T 1 0 2 = nI cn := by rw [← hcn]; unfold gi; rw [hT1]
      have hc9 : ¬ gi T 1 0 2 ≤ nI j := by rw [hcT]; exact nI_ge (by omega) (by omega)
      have hc8 : ¬ 300 ≤ nI j := nI_ge (a := j) (b := 300) (by omega) (by omega)
      have hix : vp_in (nI j) (Z.2.2 15 0) := by rw [hz]; exact nI_in (by omega) (by omega)
      have hix2 : vp_in (nI j - 1) (Z.2.2 15 0) := by rw [hz, nI_sub1 (by omega) (by omega)]; exact nI_in (by omega) (by omega)
      refine lv_iload_n hM.1 hM.2.1 dX1_take_16 rfl (lv_at hl 0 rfl) ?_
      refine lv_aload_n hM.1 hM.2.1 dX1_take_17 rfl (lv_at hl 2 rfl) ?_
      refine z_get hM hW zc1 hi rfl 2 (by decide) lf_X1_22 (v := .int (gi T 1 (0) (2))) rfl dX1_take_18 ?_
      refine lv_icmp_ge hM.1 hM.2.1 dX1_take_21 (tgt := 53) (by decide) (fun h => absurd h hc9) (fun _ => ?_)
      refine lv_iload_n hM.1 hM.2.1 dX1_take_24 rfl (lv_at hl 0 rfl) ?_
      refine lv_aload_n hM.1 hM.2.1 dX1_take_25 rfl (lv_at hl 2 rfl) ?_
      refine z_getr hM hW zc1 hi rfl 0 (by decide) lf_X1_11 (t := 15) (j := 0) rfl hTa dX1_take_26 (fun hd3_26 => ?_)
      refine z_alen hM hW hd3_26 (by decide) rfl 6 rfl (v := 300) (by rw [hz]; rfl) dX1_take_29 ?_
      refine lv_icmp_ge hM.1 hM.2.1 dX1_take_30 (tgt := 53) (by decide) (fun h => absurd h hc8) (fun _ => ?_)
      refine lv_aload_n hM.1 hM.2.1 dX1_take_33 rfl (lv_at hl 2 rfl) ?_
      refine z_getr hM hW zc1 hi rfl 0 (by decide) lf_X1_11 (t := 15) (j := 0) rfl hTa dX1_take_34 (fun hd4_34 => ?_)
      refine lv_iload_n hM.1 hM.2.1 dX1_take_37 rfl (lv_at hl 0 rfl) ?_
      refine lv_iconst (v := 1) hM.1 hM.2.1 dX1_take_38 (by decide) ?_
      refine lv_isub hM.1 hM.2.1 dX1_take_39 ?_
      refine lv_aload_n hM.1 hM.2.1 dX1_take_40 rfl (lv_at hl 2 rfl) ?_
      refine z_getr hM hW zc1 hi rfl 0 (by decide) lf_X1_11 (t := 15) (j := 0) rfl hTa dX1_take_41 (fun hd5_41 => ?_)
      refine lv_iload_n hM.1 hM.2.1 dX1_take_44 rfl (lv_at hl 0 rfl) ?_
      refine z_aaldr hM hW hd5_41 (by decide) rfl 6 rfl hix (t := 4) (q := pm j) rfl (by rw [nI_clamp (by omega)]; exact hTr j (by omega) (by omega)) dX1_take_45 (fun hd6_45 => ?_)
      refine z_aast hM hW hS hd4_34 (by decide) rfl 6 rfl (t := 4) (q := pm j) (fun _ => rfl) zc4 hd6_45 rfl hix2 dX1_take_46 (fun H locs hW hS => ?_)
      refine lv_iinc hM.1 hM.2.1 dX1_take_47 hl (k := 0) rfl (v := nI (j + 1)) (nI_succ _).symm (by decide) (lv' := [(3, .int (nI (j + 1))), (2, .ref (Z.1 4 (q))), (0, .ref (Z.1 1 (0))), (1, .int (k))]) rfl (fun ls hl => ?_)
      refine lv_goto hM.1 hM.2.1 dX1_take_50 (tgt := 16) (by decide) ?_
      exact ih (j + 1) q (sr T 15 (0) (ix ((nI j) - (1))) (some (pm j))) ls H locs hdq (by omega) (by omega) hT1 ((gr_sr _ _ _ _ _ _ _ _).trans ((if_neg (by simp)).trans hTa)) ((gr_sr _ _ _ _ _ _ _ _).trans ((if_neg (by simp)).trans hTb)) (fun i hi hi3 => (gr_sr _ _ _ _ _ _ _ _).trans ((if_neg (by rw [nI_sub1 (by omega) (by omega), ix_nI (by omega)]; omega)).trans (hTr i (by omega) hi3))) hE hE1 (lv_sub hl [0, 1, 2, 3] rfl) hW hS
  refine lv_aload_n hM.1 hM.2.1 dX1_take_0 rfl (lv_at hl 0 rfl) ?_
  refine lv_iload_n hM.1 hM.2.1 dX1_take_1 rfl (lv_at hl 1 rfl) ?_
  refine z_Vr hM (hml.trans hl.1.symm) hW hS hlo zc1 hi rfl zyX1_at lm_X1_29 li_yX1_at le_yX1_at (As := [.int (k)]) (rest := []) (c_X1_at hi hrw hz hpm) rfl rfl (Nat.le_of_ble_eq_true rfl) ⟨Nat.le_of_ble_eq_true rfl, Nat.le_of_ble_eq_true rfl⟩ ⟨Nat.le_of_ble_eq_true rfl, Nat.le_of_ble_eq_true rfl⟩ dX1_take_2 (fun H locs hW hS => ?_)
  rcases hq_2 : r_X1_at S pm (k) with _ | q
  ·
    refine lv_astore_nN hM.1 hM.2.1 dX1_take_5 rfl hl (by decide) (lv' := [(2, .null), (0, .ref (Z.1 1 (0))), (1, .int (k))]) rfl (fun ls hl => ?_)
    refine lv_aload_nN hM.1 hM.2.1 dX1_take_6 rfl (lv_at hl 0 rfl) ?_
    refine lv_ifnonnullN hM.1 hM.2.1 dX1_take_7 ?_
    refine lv_iconst (v := 0) hM.1 hM.2.1 dX1_take_10 (by decide) ?_
    exact z_iret hM hlk hr rfl hW hS (zF.of (by unfold r_X1_take; rw [oel_n hq_2]) (by unfold s_X1_take; rw [oel_n hq_2])) dX1_take_11
  ·
    obtain ⟨he, hk0, hk1, hk2⟩ := rAt_cases hq_2
    rw [hcn] at hk1
    have hkn : ix k < cn := ix_lt_nI hk0 hk1 (by omega)
    have hkk : k + 1 = nI (ix k + 1) := by rw [nI_succ, nI_ix hk0]
    have hdq : Z.2.1 4 q := by rw [he]; exact hW.2.2 15 0 (ix k) 4 _ (hW.2.2 1 0 0 15 0 hi (show 0 < 4 by decide) rfl hrw) (by show _ < Z.2.2 15 0; omega) rfl (hpm _ (by omega))
    refine lv_astore_n hM.1 hM.2.1 dX1_take_5 rfl hl (by decide) (lv' := [(2, .ref (Z.1 4 (q))), (0, .ref (Z.1 1 (0))), (1, .int (k))]) rfl (fun ls hl => ?_)
    refine lv_aload_n hM.1 hM.2.1 dX1_take_6 rfl (lv_at hl 0 rfl) ?_
    refine lv_ifnonnull hM.1 hM.2.1 dX1_take_7 (tgt := 12) (by decide) ?_
    refine lv_iload_n hM.1 hM.2.1 dX1_take_12 rfl (lv_at hl 2 rfl) ?_
    refine lv_iconst (v := 1) hM.1 hM.2.1 dX1_take_13 (by decide) ?_
    refine lv_iadd hM.1 hM.2.1 dX1_take_14 ?_
    refine lv_istore_n hM.1 hM.2.1 dX1_take_15 rfl hl (by decide) (lv' := [(3, .int ((k) + (1))), (2, .ref (Z.1 4 (q))), (0, .ref (Z.1 1 (0))), (1, .int (k))]) rfl (fun ls hl => ?_)
    exact loop (cn - (ix k + 1)) (ix k + 1) q S ls _ _ hdq (by omega) (by omega) rfl hrw htk (fun i _ h => hpm i h) (by unfold s_X1_take; rw [oel_s hq_2]) (by unfold r_X1_take; rw [oel_s hq_2]) (by rw [← hkk]; exact (lv_sub hl [0, 1, 2, 3] rfl)) hW hS
end
section
theorem gi_oel {α : Type} {o : Option α} {x : zS} {g : α → zS} {k i f : Nat} : gi (oel o x g) k i f = oel o (gi x k i f) (fun q => gi (g q) k i f) := by cases o <;> rfl
theorem gj_oel {α : Type} {o : Option α} {x : zS} {g : α → zS} {k i f : Nat} : gj (oel o x g) k i f = oel o (gj x k i f) (fun q => gj (g q) k i f) := by cases o <;> rfl
theorem gi_learn1 {S : zS} {c j : Nat} {i f : Nat} : gi (s_X2_learn S c j) 1 i f = gi S 1 i f := by
  unfold s_X2_learn
  simp only [gi_pif, s_X6_set, gi_sj]
  simp only [gi_si]
  simp [pif_same]
theorem k_X2_learn {S : zS} {c j : Nat} : (s_X2_learn S c j).2.2 = S.2.2 := by
  unfold s_X2_learn
  simp only [pif_22, k_si, k_sj, k_X6_set, pif_same]
theorem gi_end1 {S : zS} {n c a : Nat} {i f : Nat} : gi (s_X7_endPhase S n c a) 1 i f = gi S 1 i f := by
  unfold s_X7_endPhase
  simp only [gi_pif, s_X6_put, s_X0_showTag, gi_sj]
  simp only [gi_si, gi_sj]
  simp [pif_same]
theorem hc0_begin {S : zS} {n c a : Nat} {x : Int32} (h : ¬ gi S 1 0 2 < 0) : ¬ gi (s_X7_beginPhase S n c a x) 1 0 2 < 0 := by
  unfold s_X7_beginPhase
  by_cases hx : (x) = (5)
  · first | rw [pif_pos hx] | rw [pif_neg (fun q => q hx)]
    apply hc0_sends
    simp only [gi_si]
    simpa using h
  · first | rw [pif_neg hx] | rw [pif_pos hx]
    apply hc0_sends
    simp only [gi_si]
    simpa using h
noncomputable def s_X7_hear (S : zS) (n : Nat) (j : Nat) : zS := 
  (oel (atI 4 (gi S 4 (j) (3))) (S) (fun q5 => 
    (oel (gr S 2 q5 2) (S) (fun a => 
      (pif ((r_X2_counts S (q5) (j) (a)) = (0)) (S) 
        (pif ((gi S 4 (j) (7)) ≤ (gi S 2 (q5) (6))) 
          (pif ((r_X7_hasQuorum (s_X2_learn S (q5) (j)) n (q5) (a)) = (0)) ((s_X2_learn S (q5) (j))) 
            (pif ((r_X7_endPhase (s_X2_learn S (q5) (j)) n (q5) (a)) = (0)) ((s_X2_rest (si (s_X7_endPhase (s_X2_learn S (q5) (j)) n (q5) (a)) 0 (a) (4) (gi (s_X7_endPhase (s_X2_learn S (q5) (j)) n (q5) (a)) 7 (0) (8))) (q5))) ((s_X7_beginPhase (s_X7_endPhase (s_X2_learn S (q5) (j)) n (q5) (a)) n (q5) (a) (r_X7_endPhase (s_X2_learn S (q5) (j)) n (q5) (a)))))) 
          (pif ((gi (s_X2_learn S (q5) (j)) 2 (q5) (3)) = (1)) ((s_X7_beginPhase (s_X2_learn S (q5) (j)) n (q5) (a) (1))) 
            (pif ((r_X7_hasQuorum (s_X2_learn S (q5) (j)) n (q5) (a)) = (0)) ((s_X2_learn S (q5) (j))) 
              (pif ((r_X7_endPhase (s_X2_learn S (q5) (j)) n (q5) (a)) = (0)) ((s_X2_rest (si (s_X7_endPhase (s_X2_learn S (q5) (j)) n (q5) (a)) 0 (a) (4) (gi (s_X7_endPhase (s_X2_learn S (q5) (j)) n (q5) (a)) 7 (0) (8))) (q5))) ((s_X7_beginPhase (s_X7_endPhase (s_X2_learn S (q5) (j)) n (q5) (a)) n (q5) (a) (r_X7_endPhase (s_X2_learn S (q5) (j)) n (q5) (a)))))))))))))
set_option maxHeartbeats 400000 in
set_option maxRecDepth 100000 in
theorem c_X7_hear {l : Launch} {D : va_G} {ar : Nat → ClassId} {A : Nat → Prop} {Z : zZ} {S : zS} {n : Nat} {j : Nat} (hV : zV n Z S.2.2) (hj : j < 301) (hc0 : ¬ gi S 1 0 2 < 0) : zMet l yX7_hear prog_1_method_35_code 6 none ({ frames := 4, cells := 0, slots := 0, locals := 96 } : Room) D ar A Z S [.ref (Z.1 7 (0)), .ref (Z.1 4 (j))] rvV (zF () Z (s_X7_hear S n j)) := by
  refine z_body (by decide +kernel) (Nat.le_of_ble_eq_true rfl) ?_
  intro pX eX sX mX bX methX cX ls hM hr hlk hml hin hl hW hlo
  have hM : zM pX cX mX _ sX prog_1_method_35_code RX7 D ar := hM
  have hS : va_S A sX.heap sX.heap [] := va_S.rf
  have hl : lv_has ls 6 [(0, .ref (Z.1 7 (0))), (1, .ref (Z.1 4 (j)))] := hl
  refine lv_aload_n hM.1 hM.2.1 dX7_hear_0 rfl (lv_at hl 0 rfl) ?_
  refine lv_aload_n hM.1 hM.2.1 dX7_hear_1 rfl (lv_at hl 1 rfl) ?_
  refine z_get hM hW zc4 (hV.d4 hj) rfl 3 (by decide) lf_X7_198 (v := .int (gi S 4 (j) (3))) rfl dX7_hear_2 ?_
  refine z_Vr hM (hml.trans hl.1.symm) hW hS hlo zc7 hV.d7 rfl zyX7_clientAt lm_X7_69 li_yX7_clientAt le_yX7_clientAt (As := [.int (gi S 4 (j) (3))]) (rest := []) (c_X7_clientAt hV) rfl rfl (Nat.le_of_ble_eq_true rfl) ⟨Nat.le_of_ble_eq_true rfl, Nat.le_of_ble_eq_true rfl⟩ ⟨Nat.le_of_ble_eq_true rfl, Nat.le_of_ble_eq_true rfl⟩ dX7_hear_5 (fun H locs hW hS => ?_)
  rcases hq_5 : atI 4 (gi S 4 (j) (3)) with _ | q5
  ·
    refine lv_astore_nN hM.1 hM.2.1 dX7_hear_8 rfl hl (by decide) (lv' := [(2, .null), (0, .ref (Z.1 7 (0))), (1, .ref (Z.1 4 (j)))]) rfl (fun ls hl => ?_)
    refine lv_aload_nN hM.1 hM.2.1 dX7_hear_9 rfl (lv_at hl 0 rfl) ?_
    refine lv_ifnonnullN hM.1 hM.2.1 dX7_hear_10 ?_
    exact z_vret hM hlk hr hW hS (zF.of rfl (by unfold s_X7_hear; rw [oel_n hq_5]; first | done | rfl)) dX7_hear_13
  ·
    obtain ⟨he_5, hb_5, hn0_5, hn1_5⟩ := atI_some (by decide) hq_5
    have hd_5 := hV.d2 hb_5
    refine lv_astore_n hM.1 hM.2.1 dX7_hear_8 rfl hl (by decide) (lv' := [(2, .ref (Z.1 2 (q5))), (0, .ref (Z.1 7 (0))), (1, .ref (Z.1 4 (j)))]) rfl (fun ls hl => ?_)
    refine lv_aload_n hM.1 hM.2.1 dX7_hear_9 rfl (lv_at hl 0 rfl) ?_
    refine lv_ifnonnull hM.1 hM.2.1 dX7_hear_10 (tgt := 14) (by decide) ?_
    refine lv_aload_n hM.1 hM.2.1 dX7_hear_14 rfl (lv_at hl 0 rfl) ?_
    rcases hq_15 : gr S 2 q5 2 with _ | a
    ·
      refine z_get hM hW zc2 hd_5 rfl 2 (by decide) lf_X7_105 (v := .null) (by simp [zv, zvt, zk, zrv, hq_15]) dX7_hear_15 ?_
      refine lv_astore_nN hM.1 hM.2.1 dX7_hear_18 rfl hl (by decide) (lv' := [(3, .null), (2, .ref (Z.1 2 (q5))), (0, .ref (Z.1 7 (0))), (1, .ref (Z.1 4 (j)))]) rfl (fun ls hl => ?_)
      refine lv_aload_nN hM.1 hM.2.1 dX7_hear_19 rfl (lv_at hl 0 rfl) ?_
      refine lv_ifnullN hM.1 hM.2.1 dX7_hear_20 (tgt := 32) (by decide) ?_
      exact z_vret hM hlk hr hW hS (zF.of rfl (by unfold s_X7_hear; rw [oel_s hq_5, oel_n hq_15]; first | done | rfl)) dX7_hear_32
    ·
      refine z_getr hM hW zc2 hd_5 rfl 2 (by decide) lf_X7_105 (t := 0) (j := a) rfl hq_15 dX7_hear_15 (fun hd_15 => ?_)
      refine lv_astore_n hM.1 hM.2.1 dX7_hear_18 rfl hl (by decide) (lv' := [(3, .ref (Z.1 0 (a))), (2, .ref (Z.1 2 (q5))), (0, .ref (Z.1 7 (0))), (1, .ref (Z.1 4 (j)))]) rfl (fun ls hl => ?_)
      refine lv_aload_n hM.1 hM.2.1 dX7_hear_19 rfl (lv_at hl 0 rfl) ?_
      refine lv_ifnull hM.1 hM.2.1 dX7_hear_20 ?_
      refine lv_aload_n hM.1 hM.2.1 dX7_hear_23 rfl (lv_at hl 1 rfl) ?_
      refine lv_aload_n hM.1 hM.2.1 dX7_hear_24 rfl (lv_at hl 3 rfl) ?_
      refine lv_aload_n hM.1 hM.2.1 dX7_hear_25 rfl (lv_at hl 0 rfl) ?_
      refine z_Vi hM (hml.trans hl.1.symm) hW hS hlo zc2 hd_5 rfl zyX2_counts lm_X7_270 li_yX2_counts le_yX2_counts (As := [.ref (Z.1 4 (j)), .ref (Z.1 0 (a))]) (rest := []) (c_X2_counts hd_5 (hV.d4 hj) hd_15) rfl rfl (Nat.le_of_ble_eq_true rfl) ⟨Nat.le_of_ble_eq_true rfl, Nat.le_of_ble_eq_true rfl⟩ ⟨Nat.le_of_ble_eq_true rfl, Nat.le_of_ble_eq_true rfl⟩ dX7_hear_26 (fun H locs hW hS => ?_)
      refine lv_if_ne hM.1 hM.2.1 dX7_hear_29 (tgt := 33) (by decide) (fun h_29 => ?_) (fun h_29 => ?_)
      ·
        refine lv_aload_n hM.1 hM.2.1 dX7_hear_33 rfl (lv_at hl 3 rfl) ?_
        refine z_get hM hW zc4 (hV.d4 hj) rfl 7 (by decide) lf_X7_262 (v := .int (gi S 4 (j) (7))) rfl dX7_hear_34 ?_
        refine lv_aload_n hM.1 hM.2.1 dX7_hear_37 rfl (lv_at hl 1 rfl) ?_
        refine z_get hM hW zc2 hd_5 rfl 6 (by decide) lf_X7_77 (v := .int (gi S 2 (q5) (6))) rfl dX7_hear_38 ?_
        refine lv_icmp_le hM.1 hM.2.1 dX7_hear_41 (tgt := 48) (by decide) (fun h_41 => ?_) (fun h_41 => ?_)
        ·
          refine lv_iconst (v := 0) hM.1 hM.2.1 dX7_hear_48 (by decide) ?_
          refine lv_istore hM.1 hM.2.1 dX7_hear_49 hl (by decide) (lv' := [(4, .int (0)), (3, .ref (Z.1 0 (a))), (2, .ref (Z.1 2 (q5))), (0, .ref (Z.1 7 (0))), (1, .ref (Z.1 4 (j)))]) rfl (fun ls hl => ?_)
          refine lv_aload_n hM.1 hM.2.1 dX7_hear_51 rfl (lv_at hl 2 rfl) ?_
          refine lv_aload_n hM.1 hM.2.1 dX7_hear_52 rfl (lv_at hl 4 rfl) ?_
          refine z_Vv hM (hml.trans hl.1.symm) hW hS hlo zc2 hd_5 rfl zyX2_learn lm_X7_274 li_yX2_learn le_yX2_learn (As := [.ref (Z.1 4 (j))]) (rest := []) (c_X2_learn hd_5 (hV.d4 hj) (hV.r2 hb_5) (hV.r4 hj)) rfl rfl (Nat.le_of_ble_eq_true rfl) ⟨Nat.le_of_ble_eq_true rfl, Nat.le_of_ble_eq_true rfl⟩ ⟨Nat.le_of_ble_eq_true rfl, Nat.le_of_ble_eq_true rfl⟩ dX7_hear_53 (fun H locs hW hS => ?_)
          obtain ⟨B1, hB1⟩ : ∃ B, B = (s_X2_learn S (q5) (j)) := ⟨_, rfl⟩
          rw [← hB1] at hW
          have ke_B1 : B1.2.2 = S.2.2 := by rw [hB1]; simp only [pif_22, oel_22, k_si, k_sj, pif_same, oel_same, k_X6_set, k_X6_put, k_X0_showTag, k_X4_repeat, k_X7_sendRequest, k_X7_sendRequests, k_X7_beginPhase, k_X7_endPhase, k_X7_again, k_X3_obey, k_X7_serve, k_X7_twice, k_X2_learn]
          have h0_B1 : ¬ gi B1 1 0 2 < 0 := by rw [hB1, gi_learn1]; exact hc0
          refine lv_iload hM.1 hM.2.1 dX7_hear_56 (lv_at hl 0 rfl) ?_
          refine lv_if_eq hM.1 hM.2.1 dX7_hear_58 (tgt := 79) (by decide) (fun _ => ?_) (fun h => absurd (by decide) h)
          refine lv_aload_n hM.1 hM.2.1 dX7_hear_79 rfl (lv_at hl 3 rfl) ?_
          refine lv_aload_n hM.1 hM.2.1 dX7_hear_80 rfl (lv_at hl 2 rfl) ?_
          refine lv_aload_n hM.1 hM.2.1 dX7_hear_81 rfl (lv_at hl 1 rfl) ?_
          refine z_Vi hM (hml.trans hl.1.symm) hW hS hlo zc7 hV.d7 rfl zyX7_hasQuorum lm_X7_277 li_yX7_hasQuorum le_yX7_hasQuorum (As := [.ref (Z.1 2 (q5)), .ref (Z.1 0 (a))]) (rest := []) (c_X7_hasQuorum (hV.of ke_B1) hb_5 hd_15) rfl rfl (Nat.le_of_ble_eq_true rfl) ⟨Nat.le_of_ble_eq_true rfl, Nat.le_of_ble_eq_true rfl⟩ ⟨Nat.le_of_ble_eq_true rfl, Nat.le_of_ble_eq_true rfl⟩ dX7_hear_82 (fun H locs hW hS => ?_)
          refine lv_if_eq hM.1 hM.2.1 dX7_hear_85 (tgt := 124) (by decide) (fun h_85 => ?_) (fun h_85 => ?_)
          ·
            exact z_vret hM hlk hr hW hS (zF.of rfl (by subst hB1; unfold s_X7_hear; rw [oel_s hq_5, oel_s hq_15, pif_neg h_29, pif_pos h_41, pif_pos h_85]; first | done | rfl)) dX7_hear_124
          ·
            refine lv_aload_n hM.1 hM.2.1 dX7_hear_88 rfl (lv_at hl 3 rfl) ?_
            refine lv_aload_n hM.1 hM.2.1 dX7_hear_89 rfl (lv_at hl 2 rfl) ?_
            refine lv_aload_n hM.1 hM.2.1 dX7_hear_90 rfl (lv_at hl 1 rfl) ?_
            refine z_Vi hM (hml.trans hl.1.symm) hW hS hlo zc7 hV.d7 rfl zyX7_endPhase lm_X7_281 li_yX7_endPhase le_yX7_endPhase (As := [.ref (Z.1 2 (q5)), .ref (Z.1 0 (a))]) (rest := []) (c_X7_endPhase (hV.of ke_B1) hb_5 hd_15) rfl rfl (Nat.le_of_ble_eq_true rfl) ⟨Nat.le_of_ble_eq_true rfl, Nat.le_of_ble_eq_true rfl⟩ ⟨Nat.le_of_ble_eq_true rfl, Nat.le_of_ble_eq_true rfl⟩ dX7_hear_91 (fun H locs hW hS => ?_)
            obtain ⟨B2, hB2⟩ : ∃ B, B = (s_X7_endPhase B1 n (q5) (a)) := ⟨_, rfl⟩
            rw [← hB2] at hW
            have ke_B2 : B2.2.2 = S.2.2 := by rw [hB2]; simp only [pif_22, oel_22, k_si, k_sj, pif_same, oel_same, k_X6_set, k_X6_put, k_X0_showTag, k_X4_repeat, k_X7_sendRequest, k_X7_sendRequests, k_X7_beginPhase, k_X7_endPhase, k_X7_again, k_X3_obey, k_X7_serve, k_X7_twice, k_X2_learn, ke_B1]
            have h0_B2 : ¬ gi B2 1 0 2 < 0 := by rw [hB2, gi_end1]; exact h0_B1
            refine lv_istore hM.1 hM.2.1 dX7_hear_94 hl (by decide) (lv' := [(5, .int (r_X7_endPhase B1 n (q5) (a))), (4, .int (0)), (3, .ref (Z.1 0 (a))), (2, .ref (Z.1 2 (q5))), (0, .ref (Z.1 7 (0))), (1, .ref (Z.1 4 (j)))]) rfl (fun ls hl => ?_)
            refine lv_iload hM.1 hM.2.1 dX7_hear_96 (lv_at hl 0 rfl) ?_
            refine lv_if_ne hM.1 hM.2.1 dX7_hear_98 (tgt := 116) (by decide) (fun h_98 => ?_) (fun h_98 => ?_)
            ·
              refine lv_aload_n hM.1 hM.2.1 dX7_hear_116 rfl (lv_at hl 4 rfl) ?_
              refine lv_aload_n hM.1 hM.2.1 dX7_hear_117 rfl (lv_at hl 3 rfl) ?_
              refine lv_aload_n hM.1 hM.2.1 dX7_hear_118 rfl (lv_at hl 2 rfl) ?_
              refine lv_iload hM.1 hM.2.1 dX7_hear_119 (lv_at hl 0 rfl) ?_
              refine z_Vv hM (hml.trans hl.1.symm) hW hS hlo zc7 hV.d7 rfl zyX7_beginPhase lm_X7_252 li_yX7_beginPhase le_yX7_beginPhase (As := [.ref (Z.1 2 (q5)), .ref (Z.1 0 (a)), .int (r_X7_endPhase B1 n (q5) (a))]) (rest := []) (c_X7_beginPhase (hV.of ke_B2) hb_5 hd_15 h0_B2) rfl rfl (Nat.le_of_ble_eq_true rfl) ⟨Nat.le_of_ble_eq_true rfl, Nat.le_of_ble_eq_true rfl⟩ ⟨Nat.le_of_ble_eq_true rfl, Nat.le_of_ble_eq_true rfl⟩ dX7_hear_121 (fun H locs hW hS => ?_)
              obtain ⟨B3, hB3⟩ : ∃ B, B = (s_X7_beginPhase B2 n (q5) (a) (r_X7_endPhase B1 n (q5) (a))) := ⟨_, rfl⟩
              rw [← hB3] at hW
              have ke_B3 : B3.2.2 = S.2.2 := by rw [hB3]; simp only [pif_22, oel_22, k_si, k_sj, pif_same, oel_same, k_X6_set, k_X6_put, k_X0_showTag, k_X4_repeat, k_X7_sendRequest, k_X7_sendRequests, k_X7_beginPhase, k_X7_endPhase, k_X7_again, k_X3_obey, k_X7_serve, k_X7_twice, k_X2_learn, ke_B2]
              exact z_vret hM hlk hr hW hS (zF.of rfl (by subst hB3; subst hB2; subst hB1; unfold s_X7_hear; rw [oel_s hq_5, oel_s hq_15, pif_neg h_29, pif_pos h_41, pif_neg h_85, pif_neg h_98]; first | done | rfl)) dX7_hear_124
            ·
              refine lv_aload_n hM.1 hM.2.1 dX7_hear_101 rfl (lv_at hl 2 rfl) ?_
              refine lv_aload_n hM.1 hM.2.1 dX7_hear_102 rfl (lv_at hl 4 rfl) ?_
              refine z_get hM hW zc7 hV.d7 rfl 8 (by decide) lf_X7_113 (v := .int (gi B2 7 (0) (8))) rfl dX7_hear_103 ?_
              refine z_puti hM hW hS zc0 hd_15 rfl 4 (by decide) rfl lf_X7_221 (Or.inl rfl) (tyX0 4) (tyX0_ok 4 (by decide)) rfl rfl dX7_hear_106 (fun H locs hW hS => ?_)
              refine lv_aload_n hM.1 hM.2.1 dX7_hear_109 rfl (lv_at hl 3 rfl) ?_
              refine z_Vv hM (hml.trans hl.1.symm) hW hS hlo zc2 hd_5 rfl zyX2_rest lm_X7_116 li_yX2_rest le_yX2_rest (As := []) (rest := []) (c_X2_rest hd_5) rfl rfl (Nat.le_of_ble_eq_true rfl) ⟨Nat.le_of_ble_eq_true rfl, Nat.le_of_ble_eq_true rfl⟩ ⟨Nat.le_of_ble_eq_true rfl, Nat.le_of_ble_eq_true rfl⟩ dX7_hear_110 (fun H locs hW hS => ?_)
              refine lv_goto hM.1 hM.2.1 dX7_hear_113 (tgt := 124) (by decide) ?_
              exact z_vret hM hlk hr hW hS (zF.of rfl (by subst hB2; subst hB1; unfold s_X7_hear; rw [oel_s hq_5, oel_s hq_15, pif_neg h_29, pif_pos h_41, pif_neg h_85, pif_pos h_98]; first | done | rfl)) dX7_hear_124
        ·
          refine lv_iconst (v := 1) hM.1 hM.2.1 dX7_hear_44 (by decide) ?_
          refine lv_goto hM.1 hM.2.1 dX7_hear_45 (tgt := 49) (by decide) ?_
          refine lv_istore hM.1 hM.2.1 dX7_hear_49 hl (by decide) (lv' := [(4, .int (1)), (3, .ref (Z.1 0 (a))), (2, .ref (Z.1 2 (q5))), (0, .ref (Z.1 7 (0))), (1, .ref (Z.1 4 (j)))]) rfl (fun ls hl => ?_)
          refine lv_aload_n hM.1 hM.2.1 dX7_hear_51 rfl (lv_at hl 2 rfl) ?_
          refine lv_aload_n hM.1 hM.2.1 dX7_hear_52 rfl (lv_at hl 4 rfl) ?_
          refine z_Vv hM (hml.trans hl.1.symm) hW hS hlo zc2 hd_5 rfl zyX2_learn lm_X7_274 li_yX2_learn le_yX2_learn (As := [.ref (Z.1 4 (j))]) (rest := []) (c_X2_learn hd_5 (hV.d4 hj) (hV.r2 hb_5) (hV.r4 hj)) rfl rfl (Nat.le_of_ble_eq_true rfl) ⟨Nat.le_of_ble_eq_true rfl, Nat.le_of_ble_eq_true rfl⟩ ⟨Nat.le_of_ble_eq_true rfl, Nat.le_of_ble_eq_true rfl⟩ dX7_hear_53 (fun H locs hW hS => ?_)
          obtain ⟨B4, hB4⟩ : ∃ B, B = (s_X2_learn S (q5) (j)) := ⟨_, rfl⟩
          rw [← hB4] at hW
          have ke_B4 : B4.2.2 = S.2.2 := by rw [hB4]; simp only [pif_22, oel_22, k_si, k_sj, pif_same, oel_same, k_X6_set, k_X6_put, k_X0_showTag, k_X4_repeat, k_X7_sendRequest, k_X7_sendRequests, k_X7_beginPhase, k_X7_endPhase, k_X7_again, k_X3_obey, k_X7_serve, k_X7_twice, k_X2_learn]
          have h0_B4 : ¬ gi B4 1 0 2 < 0 := by rw [hB4, gi_learn1]; exact hc0
          refine lv_iload hM.1 hM.2.1 dX7_hear_56 (lv_at hl 0 rfl) ?_
          refine lv_if_eq hM.1 hM.2.1 dX7_hear_58 (tgt := 79) (by decide) (fun h => absurd h (by decide)) (fun _ => ?_)
          refine lv_aload_n hM.1 hM.2.1 dX7_hear_61 rfl (lv_at hl 2 rfl) ?_
          refine z_get hM hW zc2 hd_5 rfl 3 (by decide) lf_X7_189 (v := .int (gi B4 2 (q5) (3))) rfl dX7_hear_62 ?_
          refine lv_iconst (v := 1) hM.1 hM.2.1 dX7_hear_65 (by decide) ?_
          refine lv_icmp_ne hM.1 hM.2.1 dX7_hear_66 (tgt := 79) (by decide) (fun h_66 => ?_) (fun h_66 => ?_)
          ·
            refine lv_aload_n hM.1 hM.2.1 dX7_hear_79 rfl (lv_at hl 3 rfl) ?_
            refine lv_aload_n hM.1 hM.2.1 dX7_hear_80 rfl (lv_at hl 2 rfl) ?_
            refine lv_aload_n hM.1 hM.2.1 dX7_hear_81 rfl (lv_at hl 1 rfl) ?_
            refine z_Vi hM (hml.trans hl.1.symm) hW hS hlo zc7 hV.d7 rfl zyX7_hasQuorum lm_X7_277 li_yX7_hasQuorum le_yX7_hasQuorum (As := [.ref (Z.1 2 (q5)), .ref (Z.1 0 (a))]) (rest := []) (c_X7_hasQuorum (hV.of ke_B4) hb_5 hd_15) rfl rfl (Nat.le_of_ble_eq_true rfl) ⟨Nat.le_of_ble_eq_true rfl, Nat.le_of_ble_eq_true rfl⟩ ⟨Nat.le_of_ble_eq_true rfl, Nat.le_of_ble_eq_true rfl⟩ dX7_hear_82 (fun H locs hW hS => ?_)
            refine lv_if_eq hM.1 hM.2.1 dX7_hear_85 (tgt := 124) (by decide) (fun h_85 => ?_) (fun h_85 => ?_)
            ·
              exact z_vret hM hlk hr hW hS (zF.of rfl (by subst hB4; unfold s_X7_hear; rw [oel_s hq_5, oel_s hq_15, pif_neg h_29, pif_neg h_41, pif_neg h_66, pif_pos h_85]; first | done | rfl)) dX7_hear_124
            ·
              refine lv_aload_n hM.1 hM.2.1 dX7_hear_88 rfl (lv_at hl 3 rfl) ?_
              refine lv_aload_n hM.1 hM.2.1 dX7_hear_89 rfl (lv_at hl 2 rfl) ?_
              refine lv_aload_n hM.1 hM.2.1 dX7_hear_90 rfl (lv_at hl 1 rfl) ?_
              refine z_Vi hM (hml.trans hl.1.symm) hW hS hlo zc7 hV.d7 rfl zyX7_endPhase lm_X7_281 li_yX7_endPhase le_yX7_endPhase (As := [.ref (Z.1 2 (q5)), .ref (Z.1 0 (a))]) (rest := []) (c_X7_endPhase (hV.of ke_B4) hb_5 hd_15) rfl rfl (Nat.le_of_ble_eq_true rfl) ⟨Nat.le_of_ble_eq_true rfl, Nat.le_of_ble_eq_true rfl⟩ ⟨Nat.le_of_ble_eq_true rfl, Nat.le_of_ble_eq_true rfl⟩ dX7_hear_91 (fun H locs hW hS => ?_)
              obtain ⟨B5, hB5⟩ : ∃ B, B = (s_X7_endPhase B4 n (q5) (a)) := ⟨_, rfl⟩
              rw [← hB5] at hW
              have ke_B5 : B5.2.2 = S.2.2 := by rw [hB5]; simp only [pif_22, oel_22, k_si, k_sj, pif_same, oel_same, k_X6_set, k_X6_put, k_X0_showTag, k_X4_repeat, k_X7_sendRequest, k_X7_sendRequests, k_X7_beginPhase, k_X7_endPhase, k_X7_again, k_X3_obey, k_X7_serve, k_X7_twice, k_X2_learn, ke_B4]
              have h0_B5 : ¬ gi B5 1 0 2 < 0 := by rw [hB5, gi_end1]; exact h0_B4
              refine lv_istore hM.1 hM.2.1 dX7_hear_94 hl (by decide) (lv' := [(5, .int (r_X7_endPhase B4 n (q5) (a))), (4, .int (1)), (3, .ref (Z.1 0 (a))), (2, .ref (Z.1 2 (q5))), (0, .ref (Z.1 7 (0))), (1, .ref (Z.1 4 (j)))]) rfl (fun ls hl => ?_)
              refine lv_iload hM.1 hM.2.1 dX7_hear_96 (lv_at hl 0 rfl) ?_
              refine lv_if_ne hM.1 hM.2.1 dX7_hear_98 (tgt := 116) (by decide) (fun h_98 => ?_) (fun h_98 => ?_)
              ·
                refine lv_aload_n hM.1 hM.2.1 dX7_hear_116 rfl (lv_at hl 4 rfl) ?_
                refine lv_aload_n hM.1 hM.2.1 dX7_hear_117 rfl (lv_at hl 3 rfl) ?_
                refine lv_aload_n hM.1 hM.2.1 dX7_hear_118 rfl (lv_at hl 2 rfl) ?_
                refine lv_iload hM.1 hM.2.1 dX7_hear_119 (lv_at hl 0 rfl) ?_
                refine z_Vv hM (hml.trans hl.1.symm) hW hS hlo zc7 hV.d7 rfl zyX7_beginPhase lm_X7_252 li_yX7_beginPhase le_yX7_beginPhase (As := [.ref (Z.1 2 (q5)), .ref (Z.1 0 (a)), .int (r_X7_endPhase B4 n (q5) (a))]) (rest := []) (c_X7_beginPhase (hV.of ke_B5) hb_5 hd_15 h0_B5) rfl rfl (Nat.le_of_ble_eq_true rfl) ⟨Nat.le_of_ble_eq_true rfl, Nat.le_of_ble_eq_true rfl⟩ ⟨Nat.le_of_ble_eq_true rfl, Nat.le_of_ble_eq_true rfl⟩ dX7_hear_121 (fun H locs hW hS => ?_)
                obtain ⟨B6, hB6⟩ : ∃ B, B = (s_X7_beginPhase B5 n (q5) (a) (r_X7_endPhase B4 n (q5) (a))) := ⟨_, rfl⟩
                rw [← hB6] at hW
                have ke_B6 : B6.2.2 = S.2.2 := by rw [hB6]; simp only [pif_22, oel_22, k_si, k_sj, pif_same, oel_same, k_X6_set, k_X6_put, k_X0_showTag, k_X4_repeat, k_X7_sendRequest, k_X7_sendRequests, k_X7_beginPhase, k_X7_endPhase, k_X7_again, k_X3_obey, k_X7_serve, k_X7_twice, k_X2_learn, ke_B5]
                exact z_vret hM hlk hr hW hS (zF.of rfl (by subst hB6; subst hB5; subst hB4; unfold s_X7_hear; rw [oel_s hq_5, oel_s hq_15, pif_neg h_29, pif_neg h_41, pif_neg h_66, pif_neg h_85, pif_neg h_98]; first | done | rfl)) dX7_hear_124
              ·
                refine lv_aload_n hM.1 hM.2.1 dX7_hear_101 rfl (lv_at hl 2 rfl) ?_
                refine lv_aload_n hM.1 hM.2.1 dX7_hear_102 rfl (lv_at hl 4 rfl) ?_
                refine z_get hM hW zc7 hV.d7 rfl 8 (by decide) lf_X7_113 (v := .int (gi B5 7 (0) (8))) rfl dX7_hear_103 ?_
                refine z_puti hM hW hS zc0 hd_15 rfl 4 (by decide) rfl lf_X7_221 (Or.inl rfl) (tyX0 4) (tyX0_ok 4 (by decide)) rfl rfl dX7_hear_106 (fun H locs hW hS => ?_)
                refine lv_aload_n hM.1 hM.2.1 dX7_hear_109 rfl (lv_at hl 3 rfl) ?_
                refine z_Vv hM (hml.trans hl.1.symm) hW hS hlo zc2 hd_5 rfl zyX2_rest lm_X7_116 li_yX2_rest le_yX2_rest (As := []) (rest := []) (c_X2_rest hd_5) rfl rfl (Nat.le_of_ble_eq_true rfl) ⟨Nat.le_of_ble_eq_true rfl, Nat.le_of_ble_eq_true rfl⟩ ⟨Nat.le_of_ble_eq_true rfl, Nat.le_of_ble_eq_true rfl⟩ dX7_hear_110 (fun H locs hW hS => ?_)
                refine lv_goto hM.1 hM.2.1 dX7_hear_113 (tgt := 124) (by decide) ?_
                exact z_vret hM hlk hr hW hS (zF.of rfl (by subst hB5; subst hB4; unfold s_X7_hear; rw [oel_s hq_5, oel_s hq_15, pif_neg h_29, pif_neg h_41, pif_neg h_66, pif_neg h_85, pif_pos h_98]; first | done | rfl)) dX7_hear_124
          ·
            refine lv_aload_n hM.1 hM.2.1 dX7_hear_69 rfl (lv_at hl 3 rfl) ?_
            refine lv_aload_n hM.1 hM.2.1 dX7_hear_70 rfl (lv_at hl 2 rfl) ?_
            refine lv_aload_n hM.1 hM.2.1 dX7_hear_71 rfl (lv_at hl 1 rfl) ?_
            refine lv_iconst (v := 1) hM.1 hM.2.1 dX7_hear_72 (by decide) ?_
            refine z_Vv hM (hml.trans hl.1.symm) hW hS hlo zc7 hV.d7 rfl zyX7_beginPhase lm_X7_252 li_yX7_beginPhase le_yX7_beginPhase (As := [.ref (Z.1 2 (q5)), .ref (Z.1 0 (a)), .int (1)]) (rest := []) (c_X7_beginPhase (hV.of ke_B4) hb_5 hd_15 h0_B4) rfl rfl (Nat.le_of_ble_eq_true rfl) ⟨Nat.le_of_ble_eq_true rfl, Nat.le_of_ble_eq_true rfl⟩ ⟨Nat.le_of_ble_eq_true rfl, Nat.le_of_ble_eq_true rfl⟩ dX7_hear_73 (fun H locs hW hS => ?_)
            obtain ⟨B7, hB7⟩ : ∃ B, B = (s_X7_beginPhase B4 n (q5) (a) (1)) := ⟨_, rfl⟩
            rw [← hB7] at hW
            have ke_B7 : B7.2.2 = S.2.2 := by rw [hB7]; simp only [pif_22, oel_22, k_si, k_sj, pif_same, oel_same, k_X6_set, k_X6_put, k_X0_showTag, k_X4_repeat, k_X7_sendRequest, k_X7_sendRequests, k_X7_beginPhase, k_X7_endPhase, k_X7_again, k_X3_obey, k_X7_serve, k_X7_twice, k_X2_learn, ke_B4]
            refine lv_goto hM.1 hM.2.1 dX7_hear_76 (tgt := 124) (by decide) ?_
            exact z_vret hM hlk hr hW hS (zF.of rfl (by subst hB7; subst hB4; unfold s_X7_hear; rw [oel_s hq_5, oel_s hq_15, pif_neg h_29, pif_neg h_41, pif_pos h_66]; first | done | rfl)) dX7_hear_124
      ·
        exact z_vret hM hlk hr hW hS (zF.of rfl (by unfold s_X7_hear; rw [oel_s hq_5, oel_s hq_15, pif_pos h_29]; first | done | rfl)) dX7_hear_32
end
section
/-! what Air.take does, as a picture -/
theorem lTk_1 (pm : Nat → Nat) : ∀ (f j : Nat) (T : zS), (lTk pm f j T).1 = T.1 ∧ (lTk pm f j T).2.1 = T.2.1 := by
  intro f
  induction f with
  | zero => intro j T; exact ⟨rfl, rfl⟩
  | succ f ih => intro j T; exact ih (j + 1) (sr T 15 (0) (ix ((nI j) - (1))) (some (pm j)))
theorem lTk_gr (pm : Nat → Nat) : ∀ (f j : Nat) (T : zS), 1 ≤ j → j + f ≤ 300 → ∀ k i x, gr (lTk pm f j T) k i x = if k = 15 ∧ i = 0 ∧ j ≤ x + 1 ∧ x + 1 < j + f then some (pm (x + 1)) else gr T k i x := by
  intro f
  induction f with
  | zero =>
    intro j T h1 h2 k i x
    rw [if_neg (by omega)]
    rfl
  | succ f ih =>
    intro j T h1 h2 k i x
    have e : lTk pm (f + 1) j T = lTk pm f (j + 1) (sr T 15 (0) (ix ((nI j) - (1))) (some (pm j))) := rfl
    rw [e, ih (j + 1) _ (by omega) (by omega), gr_sr, nI_sub1 h1 (by omega), ix_nI (by omega)]
    by_cases hk : k = 15 ∧ i = 0
    · obtain ⟨rfl, rfl⟩ := hk
      by_cases hx : x = j - 1
      · subst hx
        rw [if_neg (by omega), if_pos (by omega), if_pos (by omega), show j - 1 + 1 = j by omega]
      · by_cases h3 : j + 1 ≤ x + 1 ∧ x + 1 < j + 1 + f
        · rw [if_pos (by omega), if_pos (by omega)]
        · rw [if_neg (by omega), if_neg (by omega), if_neg (by omega)]
    · rw [if_neg (by omega), if_neg (by omega), if_neg (by omega)]
/-- the rows behind the taking of row i0 of cn -/
def pmT (pm : Nat → Nat) (tk cn i0 : Nat) (x : Nat) : Nat := if x < i0 then pm x else if x + 1 < cn then pm (x + 1) else if x + 1 = cn then tk else pm x
theorem take_gr {S : zS} {pm : Nat → Nat} {tk cn q : Nat} {k : Int32} (hq : r_X1_at S pm k = some q) (hcn : gi S 1 0 2 = nI cn) (hcm : cn ≤ 300) (hpm : ∀ j, j < 300 → gr S 15 0 j = some (pm j)) :
    (∀ k' i x, ¬ (k' = 15 ∧ i = 0 ∧ x < 300) → ¬ (k' = 1 ∧ i = 0 ∧ x = 1) → gr (s_X1_take S pm tk cn k) k' i x = gr S k' i x) ∧ gr (s_X1_take S pm tk cn k) 1 0 1 = some (pm (ix k)) ∧ ∀ x, x < 300 → gr (s_X1_take S pm tk cn k) 15 0 x = some (pmT pm tk cn (ix k) x) := by
  obtain ⟨rfl, h0, h1, h2⟩ := rAt_cases hq
  rw [hcn] at h1
  have hk : ix k < cn := ix_lt_nI h0 h1 (by omega)
  unfold s_X1_take
  rw [oel_s hq]
  unfold fTk
  have e1 : gi (lTk pm (cn - (ix k + 1)) (ix k + 1) S) 1 0 2 = nI cn := by rw [← hcn]; unfold gi; rw [(lTk_1 pm _ _ S).1]
  rw [e1, nI_sub1 (by omega) (by omega), ix_nI (by omega)]
  refine ⟨fun k' i x n1 n2 => ?_, ?_, fun x hx => ?_⟩
  · rw [gr_sr, if_neg n2, gr_sr, if_neg (by omega), gr_si, lTk_gr pm _ _ _ (by omega) (by omega), if_neg (by omega)]
  · rw [gr_sr, if_pos ⟨rfl, rfl, rfl⟩]
  · rw [gr_sr, if_neg (by omega), gr_sr]
    unfold pmT
    by_cases hx1 : x = cn - 1
    · subst hx1
      rw [if_pos ⟨rfl, rfl, rfl⟩, if_neg (by omega), if_neg (by omega), if_pos (by omega)]
    · rw [if_neg (by omega), gr_si, lTk_gr pm _ _ _ (by omega) (by omega)]
      by_cases ha : x < ix k
      · rw [if_neg (by omega), if_pos ha, hpm x hx]
      · rw [if_neg ha]
        by_cases hb : x + 1 < cn
        · rw [if_pos (by omega), if_pos hb]
        · rw [if_neg (by omega), if_neg hb, if_neg (by omega), hpm x hx]
theorem take_gi {S : zS} {pm : Nat → Nat} {tk cn q : Nat} {k : Int32} (hq : r_X1_at S pm k = some q) (hcn : gi S 1 0 2 = nI cn) (hcm : cn ≤ 300) :
    (∀ k' i x, ¬ (k' = 1 ∧ i = 0 ∧ x = 2) → gi (s_X1_take S pm tk cn k) k' i x = gi S k' i x) ∧ gi (s_X1_take S pm tk cn k) 1 0 2 = nI (cn - 1) ∧ (∀ k' i x, gj (s_X1_take S pm tk cn k) k' i x = gj S k' i x) ∧ ix k < cn := by
  obtain ⟨rfl, h0, h1, h2⟩ := rAt_cases hq
  rw [hcn] at h1
  have hk : ix k < cn := ix_lt_nI h0 h1 (by omega)
  unfold s_X1_take
  rw [oel_s hq]
  unfold fTk
  have e0 : ∀ k' i x, gi (lTk pm (cn - (ix k + 1)) (ix k + 1) S) k' i x = gi S k' i x := fun k' i x => by unfold gi; rw [(lTk_1 pm _ _ S).1]
  have ej : ∀ k' i x, gj (lTk pm (cn - (ix k + 1)) (ix k + 1) S) k' i x = gj S k' i x := fun k' i x => by unfold gj; rw [(lTk_1 pm _ _ S).2]
  refine ⟨fun k' i x n1 => ?_, ?_, fun k' i x => ?_, hk⟩
  · rw [gi_sr, gi_sr, gi_si, if_neg n1, e0]
  · rw [gi_sr, gi_sr, gi_si, if_pos ⟨rfl, rfl, rfl⟩, e0, hcn, nI_sub1 (by omega) (by omega)]
  · rw [gj_sr, gj_sr, gj_si, ej]
theorem zV.rows {n : Nat} {Z : zZ} {R R' : zR} (h : zV n Z R) (he : ∀ k i x, ¬ (k = 15 ∧ i = 0 ∧ x < 300) → ¬ (k = 1 ∧ i = 0 ∧ x = 1) → R' k i x = R k i x) (h4 : (∀ j, j < 300 → R' 15 0 j = some (pmR R' j) ∧ pmR R' j < 301) ∧ R' 1 0 1 = some (tkR R') ∧ tkR R' < 301 ∧ (∀ i j, i < 300 → j < 300 → pmR R' i = pmR R' j → i = j) ∧ ∀ j, j < 300 → pmR R' j ≠ tkR R') : zV n Z R' := by
  obtain ⟨⟨⟨a1, a2, a3, a4, a5, a6, a7⟩, b1, b2, b3⟩, ⟨c1, c2, c3, c4⟩, d, ⟨f1, -⟩, g5, g6, g7⟩ := h
  have e : ∀ k i x, k ≠ 15 → k ≠ 1 → R' k i x = R k i x := fun k i x h1 h2 => he k i x (fun q => h1 q.1) (fun q => h2 q.1)
  refine ⟨⟨⟨a1, ?_, ?_, ?_, ?_, ?_, ?_⟩, b1, ?_, b3⟩, ⟨c1, c2, c3, fun c hc => ?_⟩, fun c hc => ?_, ⟨fun j hj => ?_, h4⟩, fun t ht => ?_, fun a ha => ?_, fun c hc => ?_⟩
  · rw [e _ _ _ (by decide) (by decide)]; exact a2
  · rw [e _ _ _ (by decide) (by decide)]; exact a3
  · rw [e _ _ _ (by decide) (by decide)]; exact a4
  · rw [e _ _ _ (by decide) (by decide)]; exact a5
  · rw [e _ _ _ (by decide) (by decide)]; exact a6
  · rw [e _ _ _ (by decide) (by decide)]; exact a7
  · rw [he _ _ _ (by decide) (by decide)]; exact b2
  · rw [e _ _ _ (by decide) (by decide), e _ _ _ (by decide) (by decide)]; exact c4 c hc
  · rw [e _ _ _ (by decide) (by decide), e _ _ _ (by decide) (by decide)]; exact d c hc
  · rw [e _ _ _ (by decide) (by decide)]; exact f1 j hj
  · rw [e _ _ _ (by decide) (by decide), e _ _ _ (by decide) (by decide)]; exact g5 t ht
  · rw [e _ _ _ (by decide) (by decide)]; exact g6 a ha
  · rcases g7 c hc with q | ⟨a, q1, q2, q3⟩
    · exact Or.inl (by rw [e _ _ _ (by decide) (by decide)]; exact q)
    · exact Or.inr ⟨a, q1, by rw [e _ _ _ (by decide) (by decide)]; exact q2, by rw [e _ _ _ (by decide) (by decide)]; exact q3⟩
def sxT (cn i0 x : Nat) : Nat := if x < i0 then x else if x + 1 < cn then x + 1 else if x + 1 = cn then 300 else x
def peT (pm : Nat → Nat) (tk : Nat) (y : Nat) : Nat := if y = 300 then tk else pm y
theorem pmT_eq (pm : Nat → Nat) {tk cn i0 x : Nat} (hx : x < 300) (hc : cn ≤ 300) : pmT pm tk cn i0 x = peT pm tk (sxT cn i0 x) := by
  unfold pmT peT sxT
  by_cases h1 : x < i0
  · rw [if_pos h1, if_pos h1, if_neg (by omega)]
  · rw [if_neg h1, if_neg h1]
    by_cases h2 : x + 1 < cn
    · rw [if_pos h2, if_pos h2, if_neg (by omega)]
    · rw [if_neg h2, if_neg h2]
      by_cases h3 : x + 1 = cn
      · rw [if_pos h3, if_pos h3, if_pos rfl]
      · rw [if_neg h3, if_neg h3, if_neg (by omega)]
theorem sxT_le {cn i0 x : Nat} (hx : x < 300) (hc : cn ≤ 300) : sxT cn i0 x ≤ 300 := by
  unfold sxT
  (repeat' split) <;> omega
theorem sxT_inj {cn i0 x y : Nat} (h0 : i0 < cn) (hx : x < 300) (hy : y < 300) (hc : cn ≤ 300) (e : sxT cn i0 x = sxT cn i0 y) : x = y := by
  unfold sxT at e
  (repeat' split at e) <;> omega
theorem sxT_ne {cn i0 x : Nat} (h0 : i0 < cn) (hx : x < 300) (hc : cn ≤ 300) : sxT cn i0 x ≠ i0 := by
  unfold sxT
  (repeat' split) <;> omega
theorem peT_inj {pm : Nat → Nat} {tk : Nat} (hi : ∀ i j, i < 300 → j < 300 → pm i = pm j → i = j) (ht : ∀ j, j < 300 → pm j ≠ tk) {x y : Nat} (hx : x ≤ 300) (hy : y ≤ 300) (e : peT pm tk x = peT pm tk y) : x = y := by
  unfold peT at e
  by_cases h1 : x = 300 <;> by_cases h2 : y = 300
  · omega
  · rw [if_pos h1, if_neg h2] at e
    exact absurd e.symm (ht y (by omega))
  · rw [if_neg h1, if_pos h2] at e
    exact absurd e (ht x (by omega))
  · rw [if_neg h1, if_neg h2] at e
    exact hi x y (by omega) (by omega) e
theorem pmT_lt {pm : Nat → Nat} {tk cn i0 x : Nat} (h : ∀ j, j < 300 → pm j < 301) (ht : tk < 301) (hx : x < 300) (hc : cn ≤ 300) : pmT pm tk cn i0 x < 301 := by
  rw [pmT_eq pm hx hc]
  have := sxT_le (i0 := i0) hx hc
  unfold peT
  by_cases h1 : sxT cn i0 x = 300
  · rw [if_pos h1]; exact ht
  · rw [if_neg h1]; exact h _ (by omega)
theorem pmT_inj {pm : Nat → Nat} {tk cn i0 : Nat} (hi : ∀ i j, i < 300 → j < 300 → pm i = pm j → i = j) (ht : ∀ j, j < 300 → pm j ≠ tk) (h0 : i0 < cn) (hc : cn ≤ 300) {x y : Nat} (hx : x < 300) (hy : y < 300) (e : pmT pm tk cn i0 x = pmT pm tk cn i0 y) : x = y := by
  rw [pmT_eq pm hx hc, pmT_eq pm hy hc] at e
  exact sxT_inj h0 hx hy hc (peT_inj hi ht (sxT_le hx hc) (sxT_le hy hc) e)
theorem pmT_ne {pm : Nat → Nat} {tk cn i0 : Nat} (hi : ∀ i j, i < 300 → j < 300 → pm i = pm j → i = j) (ht : ∀ j, j < 300 → pm j ≠ tk) (h0 : i0 < cn) (hc : cn ≤ 300) {x : Nat} (hx : x < 300) : pmT pm tk cn i0 x ≠ pm i0 := by
  rw [pmT_eq pm hx hc]
  intro e
  have e2 : peT pm tk (sxT cn i0 x) = peT pm tk i0 := by
    rw [e]; unfold peT; rw [if_neg (by omega)]
  exact sxT_ne h0 hx hc (peT_inj hi ht (sxT_le hx hc) (by omega) e2)
theorem pmR_of {T : zS} {x y : Nat} (h : gr T 15 0 x = some y) : pmR T.2.2 x = y := by
  unfold pmR
  unfold gr at h
  rw [h]; rfl
theorem tkR_of {T : zS} {y : Nat} (h : gr T 1 0 1 = some y) : tkR T.2.2 = y := by
  unfold tkR
  unfold gr at h
  rw [h]; rfl
theorem take_zV {S : zS} {n cn q : Nat} {Z : zZ} {k : Int32} (hV : zV n Z S.2.2) (hq : r_X1_at S (pmR S.2.2) k = some q) (hcn : gi S 1 0 2 = nI cn) (hcm : cn ≤ 300) :
    zV n Z (s_X1_take S (pmR S.2.2) (tkR S.2.2) cn k).2.2 ∧ (∀ x, x < 300 → pmR (s_X1_take S (pmR S.2.2) (tkR S.2.2) cn k).2.2 x = pmT (pmR S.2.2) (tkR S.2.2) cn (ix k) x) ∧ tkR (s_X1_take S (pmR S.2.2) (tkR S.2.2) cn k).2.2 = pmR S.2.2 (ix k) := by
  obtain ⟨g1, g2, g3⟩ := take_gr (tk := tkR S.2.2) hq hcn hcm hV.pm
  have hk := (take_gi (tk := tkR S.2.2) hq hcn hcm).2.2.2
  have p1 : ∀ x, x < 300 → pmR (s_X1_take S (pmR S.2.2) (tkR S.2.2) cn k).2.2 x = pmT (pmR S.2.2) (tkR S.2.2) cn (ix k) x := fun x hx => pmR_of (g3 x hx)
  have p2 : tkR (s_X1_take S (pmR S.2.2) (tkR S.2.2) cn k).2.2 = pmR S.2.2 (ix k) := tkR_of g2
  obtain ⟨f1, f2, f3, f4, f5, f6⟩ := hV.2.2.2.1
  refine ⟨hV.rows g1 ⟨fun j hj => ⟨by rw [p1 j hj]; exact g3 j hj, by rw [p1 j hj]; exact pmT_lt (fun x hx => (f2 x hx).2) f4 hj hcm⟩, by rw [p2]; exact g2, by rw [p2]; exact (f2 _ (by omega)).2, fun i j hi hj e => ?_, fun j hj => ?_⟩, p1, p2⟩
  · rw [p1 i hi, p1 j hj] at e
    exact pmT_inj f5 f6 hk hcm hi hj e
  · rw [p1 j hj, p2]
    exact pmT_ne f5 f6 hk hcm hj
end
section
/-- what holds of the class's state between its calls -/
def cI (n : Nat) (Z : zZ) (S : zS) : Prop := zV n Z S.2.2 ∧ (∃ cn, cn ≤ 300 ∧ gi S 1 0 2 = nI cn) ∧ ∀ j, j < 301 → isB (gi S 4 j 1)
theorem cI.cn {n : Nat} {Z : zZ} {S : zS} (h : cI n Z S) : gi S 1 0 2 = nI (ix (gi S 1 0 2)) ∧ ix (gi S 1 0 2) ≤ 300 := by
  obtain ⟨cn, h1, h2⟩ := h.2.1
  rw [h2, ix_nI (by omega)]
  exact ⟨rfl, h1⟩
theorem cI.c0 {n : Nat} {Z : zZ} {S : zS} (h : cI n Z S) : ¬ gi S 1 0 2 < 0 := by
  obtain ⟨cn, h1, h2⟩ := h.2.1
  rw [h2]; exact nI_pos (by omega)
theorem isB_take {S : zS} {pm : Nat → Nat} {k : Int32} : isB (r_X1_take S pm k) := by
  unfold r_X1_take
  cases r_X1_at S pm k with
  | none => exact isB_0
  | some q => exact isB_1
theorem r_take_some {S : zS} {pm : Nat → Nat} {k : Int32} {q : Nat} (h : r_X1_at S pm k = some q) : r_X1_take S pm k = 1 := by unfold r_X1_take; rw [oel_s h]
noncomputable def r_X7_lose (S : zS) (n : Nat) (x : Int32) : Int32 := (r_X1_take S (pmR S.2.2) (x))
noncomputable def s_X7_lose (S : zS) (n : Nat) (x : Int32) : zS := ((s_X1_take S (pmR S.2.2) (tkR S.2.2) (ix (gi S 1 0 2)) (x)))
set_option maxHeartbeats 400000 in
set_option maxRecDepth 100000 in
theorem c_X7_lose {l : Launch} {D : va_G} {ar : Nat → ClassId} {A : Nat → Prop} {Z : zZ} {S : zS} {n : Nat} {x : Int32} (hI : cI n Z S)  : zMet l yX7_lose prog_1_method_11_code 2 (some .boolean) ({ frames := 2, cells := 0, slots := 0, locals := 44 } : Room) D ar A Z S [.ref (Z.1 7 (0)), .int (x)] rvI (zF (r_X7_lose S n x) Z (s_X7_lose S n x)) := by
  refine z_body (by decide +kernel) (Nat.le_of_ble_eq_true rfl) ?_
  intro pX eX sX mX bX methX cX ls hM hr hlk hml hin hl hW hlo
  have hM : zM pX cX mX _ sX prog_1_method_11_code RX7 D ar := hM
  have hS : va_S A sX.heap sX.heap [] := va_S.rf
  have hl : lv_has ls 2 [(0, .ref (Z.1 7 (0))), (1, .int (x))] := hl
  have hV := hI.1
  have hc0 := hI.c0
  refine lv_aload_n hM.1 hM.2.1 dX7_lose_0 rfl (lv_at hl 0 rfl) ?_
  refine z_getr hM hW zc7 hI.1.d7 rfl 4 (by decide) lf_X7_65 (t := 1) (j := 0) rfl hV.r74 dX7_lose_1 (fun hd1_1 => ?_)
  refine lv_iload_n hM.1 hM.2.1 dX7_lose_4 rfl (lv_at hl 1 rfl) ?_
  refine z_Vi hM (hml.trans hl.1.symm) hW hS hlo zc1 hd1_1 rfl zyX1_take lm_X7_130 li_yX1_take le_yX1_take (As := [.int (x)]) (rest := []) (c_X1_take hV.d1 hV.r10 hV.l15 hV.pm hV.tk hI.cn.1 hI.cn.2) rfl rfl (Nat.le_of_ble_eq_true rfl) ⟨Nat.le_of_ble_eq_true rfl, Nat.le_of_ble_eq_true rfl⟩ ⟨Nat.le_of_ble_eq_true rfl, Nat.le_of_ble_eq_true rfl⟩ dX7_lose_5 (fun H locs hW hS => ?_)
  exact z_iret hM hlk hr (narrow_isB isB_take) hW hS (zF.of (by unfold r_X7_lose; rfl) (by unfold s_X7_lose; rfl)) dX7_lose_8

noncomputable def r_X7_deliver (S : zS) (n : Nat) (x : Int32) : Int32 := 
  (oel (r_X1_at S (pmR S.2.2) (x)) (0) (fun q5 => 
    (pif ((r_X7_canPass S n (q5)) = (0)) (0) 
      (pif ((gi (s_X1_take S (pmR S.2.2) (tkR S.2.2) (ix (gi S 1 0 2)) (x)) 4 (q5) (1)) = (0)) (1) (1)))))
noncomputable def s_X7_deliver (S : zS) (n : Nat) (x : Int32) : zS := 
  (oel (r_X1_at S (pmR S.2.2) (x)) (S) (fun q5 => 
    (pif ((r_X7_canPass S n (q5)) = (0)) (S) 
      (pif ((gi (s_X1_take S (pmR S.2.2) (tkR S.2.2) (ix (gi S 1 0 2)) (x)) 4 (q5) (1)) = (0)) ((s_X7_serve (si (s_X1_take S (pmR S.2.2) (tkR S.2.2) (ix (gi S 1 0 2)) (x)) 7 (0) (8) ((gi (s_X1_take S (pmR S.2.2) (tkR S.2.2) (ix (gi S 1 0 2)) (x)) 7 (0) (8)) + (1))) n (q5))) ((s_X7_hear (si (s_X1_take S (pmR S.2.2) (tkR S.2.2) (ix (gi S 1 0 2)) (x)) 7 (0) (8) ((gi (s_X1_take S (pmR S.2.2) (tkR S.2.2) (ix (gi S 1 0 2)) (x)) 7 (0) (8)) + (1))) n (q5)))))))
set_option maxHeartbeats 400000 in
set_option maxRecDepth 100000 in
theorem c_X7_deliver {l : Launch} {D : va_G} {ar : Nat → ClassId} {A : Nat → Prop} {Z : zZ} {S : zS} {n : Nat} {x : Int32} (hI : cI n Z S)  : zMet l yX7_deliver prog_1_method_9_code 3 (some .boolean) ({ frames := 5, cells := 0, slots := 0, locals := 121 } : Room) D ar A Z S [.ref (Z.1 7 (0)), .int (x)] rvI (zF (r_X7_deliver S n x) Z (s_X7_deliver S n x)) := by
  refine z_body (by decide +kernel) (Nat.le_of_ble_eq_true rfl) ?_
  intro pX eX sX mX bX methX cX ls hM hr hlk hml hin hl hW hlo
  have hM : zM pX cX mX _ sX prog_1_method_9_code RX7 D ar := hM
  have hS : va_S A sX.heap sX.heap [] := va_S.rf
  have hl : lv_has ls 3 [(0, .ref (Z.1 7 (0))), (1, .int (x))] := hl
  have hV := hI.1
  have hc0 := hI.c0
  refine lv_aload_n hM.1 hM.2.1 dX7_deliver_0 rfl (lv_at hl 0 rfl) ?_
  refine z_getr hM hW zc7 hI.1.d7 rfl 4 (by decide) lf_X7_65 (t := 1) (j := 0) rfl hV.r74 dX7_deliver_1 (fun hd1_1 => ?_)
  refine lv_iload_n hM.1 hM.2.1 dX7_deliver_4 rfl (lv_at hl 1 rfl) ?_
  refine z_Vr hM (hml.trans hl.1.symm) hW hS hlo zc1 hd1_1 rfl zyX1_at lm_X7_122 li_yX1_at le_yX1_at (As := [.int (x)]) (rest := []) (c_X1_at hV.d1 hV.r10 hV.l15 hV.pm) rfl rfl (Nat.le_of_ble_eq_true rfl) ⟨Nat.le_of_ble_eq_true rfl, Nat.le_of_ble_eq_true rfl⟩ ⟨Nat.le_of_ble_eq_true rfl, Nat.le_of_ble_eq_true rfl⟩ dX7_deliver_5 (fun H locs hW hS => ?_)
  rcases hq_5 : r_X1_at S (pmR S.2.2) (x) with _ | q5
  ·
    refine lv_astore_nN hM.1 hM.2.1 dX7_deliver_8 rfl hl (by decide) (lv' := [(2, .null), (0, .ref (Z.1 7 (0))), (1, .int (x))]) rfl (fun ls hl => ?_)
    refine lv_aload_nN hM.1 hM.2.1 dX7_deliver_9 rfl (lv_at hl 0 rfl) ?_
    refine lv_ifnullN hM.1 hM.2.1 dX7_deliver_10 (tgt := 21) (by decide) ?_
    refine lv_iconst (v := 0) hM.1 hM.2.1 dX7_deliver_21 (by decide) ?_
    exact z_iret hM hlk hr rfl hW hS (zF.of (by unfold r_X7_deliver; rw [oel_n hq_5]; first | done | rfl) (by unfold s_X7_deliver; rw [oel_n hq_5]; first | done | rfl)) dX7_deliver_22
  ·
    obtain ⟨he_5, hb_5⟩ := rAt_some hV hq_5
    have hd_5 := hV.d4 hb_5
    refine lv_astore_n hM.1 hM.2.1 dX7_deliver_8 rfl hl (by decide) (lv' := [(2, .ref (Z.1 4 (q5))), (0, .ref (Z.1 7 (0))), (1, .int (x))]) rfl (fun ls hl => ?_)
    refine lv_aload_n hM.1 hM.2.1 dX7_deliver_9 rfl (lv_at hl 0 rfl) ?_
    refine lv_ifnull hM.1 hM.2.1 dX7_deliver_10 ?_
    refine lv_aload_n hM.1 hM.2.1 dX7_deliver_13 rfl (lv_at hl 1 rfl) ?_
    refine lv_aload_n hM.1 hM.2.1 dX7_deliver_14 rfl (lv_at hl 0 rfl) ?_
    refine z_Vi hM (hml.trans hl.1.symm) hW hS hlo zc7 hI.1.d7 rfl zyX7_canPass lm_X7_126 li_yX7_canPass le_yX7_canPass (As := [.ref (Z.1 4 (q5))]) (rest := []) (c_X7_canPass hV hd_5) rfl rfl (Nat.le_of_ble_eq_true rfl) ⟨Nat.le_of_ble_eq_true rfl, Nat.le_of_ble_eq_true rfl⟩ ⟨Nat.le_of_ble_eq_true rfl, Nat.le_of_ble_eq_true rfl⟩ dX7_deliver_15 (fun H locs hW hS => ?_)
    refine lv_if_ne hM.1 hM.2.1 dX7_deliver_18 (tgt := 23) (by decide) (fun h_18 => ?_) (fun h_18 => ?_)
    ·
      refine lv_aload_n hM.1 hM.2.1 dX7_deliver_23 rfl (lv_at hl 1 rfl) ?_
      refine z_getr hM hW zc7 hI.1.d7 rfl 4 (by decide) lf_X7_65 (t := 1) (j := 0) rfl hV.r74 dX7_deliver_24 (fun hd2_24 => ?_)
      refine lv_iload_n hM.1 hM.2.1 dX7_deliver_27 rfl (lv_at hl 2 rfl) ?_
      refine z_Vi hM (hml.trans hl.1.symm) hW hS hlo zc1 hd2_24 rfl zyX1_take lm_X7_130 li_yX1_take le_yX1_take (As := [.int (x)]) (rest := []) (c_X1_take hV.d1 hV.r10 hV.l15 hV.pm hV.tk hI.cn.1 hI.cn.2) rfl rfl (Nat.le_of_ble_eq_true rfl) ⟨Nat.le_of_ble_eq_true rfl, Nat.le_of_ble_eq_true rfl⟩ ⟨Nat.le_of_ble_eq_true rfl, Nat.le_of_ble_eq_true rfl⟩ dX7_deliver_28 (fun H locs hW hS => ?_)
      obtain ⟨B1, hB1⟩ : ∃ B, B = (s_X1_take S (pmR S.2.2) (tkR S.2.2) (ix (gi S 1 0 2)) (x)) := ⟨_, rfl⟩
      rw [← hB1] at hW
      have hV1 : zV n Z B1.2.2 := by rw [hB1]; exact (take_zV hV hq_5 hI.cn.1 hI.cn.2).1
      have g1 := take_gi (tk := tkR S.2.2) hq_5 hI.cn.1 hI.cn.2
      rw [← hB1] at g1
      have h0_B1 : ¬ gi B1 1 0 2 < 0 := by rw [g1.2.1]; exact nI_pos (by have := hI.cn.2; omega)
      refine lv_pop hM.1 hM.2.1 dX7_deliver_31 rfl ?_
      refine lv_aload_n hM.1 hM.2.1 dX7_deliver_32 rfl (lv_at hl 1 rfl) ?_
      refine lv_dup hM.1 hM.2.1 dX7_deliver_33 rfl ?_
      refine z_get hM hW zc7 hI.1.d7 rfl 8 (by decide) lf_X7_113 (v := .int (gi B1 7 (0) (8))) rfl dX7_deliver_34 ?_
      refine lv_iconst (v := 1) hM.1 hM.2.1 dX7_deliver_37 (by decide) ?_
      refine lv_iadd hM.1 hM.2.1 dX7_deliver_38 ?_
      refine z_puti hM hW hS zc7 hI.1.d7 rfl 8 (by decide) rfl lf_X7_113 (Or.inl rfl) (tyX7 8) (tyX7_ok 8 (by decide)) rfl rfl dX7_deliver_39 (fun H locs hW hS => ?_)
      refine lv_aload_n hM.1 hM.2.1 dX7_deliver_42 rfl (lv_at hl 0 rfl) ?_
      refine z_get hM hW zc4 hd_5 rfl 1 (by decide) lf_X7_134 (v := .int (gi B1 4 (q5) (1))) rfl dX7_deliver_43 ?_
      refine lv_if_eq hM.1 hM.2.1 dX7_deliver_46 (tgt := 57) (by decide) (fun h_46 => ?_) (fun h_46 => ?_)
      ·
        refine lv_aload_n hM.1 hM.2.1 dX7_deliver_57 rfl (lv_at hl 1 rfl) ?_
        refine lv_aload_n hM.1 hM.2.1 dX7_deliver_58 rfl (lv_at hl 0 rfl) ?_
        refine z_Vv hM (hml.trans hl.1.symm) hW hS hlo zc7 hI.1.d7 rfl zyX7_serve lm_X7_144 li_yX7_serve le_yX7_serve (As := [.ref (Z.1 4 (q5))]) (rest := []) (c_X7_serve hV1 hb_5 (by rw [gi_si, if_neg (by simp), g1.1 _ _ _ (by simp)]; exact hI.2.2 _ hb_5) (by show ¬ gi B1 1 0 2 < 0; exact h0_B1)) rfl rfl (Nat.le_of_ble_eq_true rfl) ⟨Nat.le_of_ble_eq_true rfl, Nat.le_of_ble_eq_true rfl⟩ ⟨Nat.le_of_ble_eq_true rfl, Nat.le_of_ble_eq_true rfl⟩ dX7_deliver_59 (fun H locs hW hS => ?_)
        refine lv_iconst (v := 1) hM.1 hM.2.1 dX7_deliver_62 (by decide) ?_
        exact z_iret hM hlk hr rfl hW hS (zF.of (by subst hB1; unfold r_X7_deliver; rw [oel_s hq_5, pif_neg h_18, pif_pos h_46]; first | done | rfl) (by subst hB1; unfold s_X7_deliver; rw [oel_s hq_5, pif_neg h_18, pif_pos h_46]; first | done | rfl)) dX7_deliver_63
      ·
        refine lv_aload_n hM.1 hM.2.1 dX7_deliver_49 rfl (lv_at hl 1 rfl) ?_
        refine lv_aload_n hM.1 hM.2.1 dX7_deliver_50 rfl (lv_at hl 0 rfl) ?_
        refine z_Vv hM (hml.trans hl.1.symm) hW hS hlo zc7 hI.1.d7 rfl zyX7_hear lm_X7_140 li_yX7_hear le_yX7_hear (As := [.ref (Z.1 4 (q5))]) (rest := []) (c_X7_hear hV1 hb_5 (by show ¬ gi B1 1 0 2 < 0; exact h0_B1)) rfl rfl (Nat.le_of_ble_eq_true rfl) ⟨Nat.le_of_ble_eq_true rfl, Nat.le_of_ble_eq_true rfl⟩ ⟨Nat.le_of_ble_eq_true rfl, Nat.le_of_ble_eq_true rfl⟩ dX7_deliver_51 (fun H locs hW hS => ?_)
        refine lv_goto hM.1 hM.2.1 dX7_deliver_54 (tgt := 62) (by decide) ?_
        refine lv_iconst (v := 1) hM.1 hM.2.1 dX7_deliver_62 (by decide) ?_
        exact z_iret hM hlk hr rfl hW hS (zF.of (by subst hB1; unfold r_X7_deliver; rw [oel_s hq_5, pif_neg h_18, pif_neg h_46]; first | done | rfl) (by subst hB1; unfold s_X7_deliver; rw [oel_s hq_5, pif_neg h_18, pif_neg h_46]; first | done | rfl)) dX7_deliver_63
    ·
      refine lv_iconst (v := 0) hM.1 hM.2.1 dX7_deliver_21 (by decide) ?_
      exact z_iret hM hlk hr rfl hW hS (zF.of (by unfold r_X7_deliver; rw [oel_s hq_5, pif_pos h_18]; first | done | rfl) (by unfold s_X7_deliver; rw [oel_s hq_5, pif_pos h_18]; first | done | rfl)) dX7_deliver_22
end
section
/-- one settle, from k on, with d delivered -/
noncomputable def lSet (n : Nat) (x : Int32) : Nat → Int32 → Int32 → zS → zS × Int32
  | 0, _, d, T => (T, d)
  | f + 1, k, d, T => pif ((x) ≤ (d)) (T, d) (pif ((gi T 1 (0) (2)) ≤ (k)) (T, d) (pif ((r_X7_deliver T n (k)) = (0)) (lSet n x f (k + 1) d (s_X7_deliver T n (k))) (lSet n x f k (d + 1) (s_X7_deliver T n (k)))))
noncomputable def s_X7_settle (S : zS) (n : Nat) (x : Int32) : zS := pif ((0) ≤ (x)) (lSet n x 1000000 0 0 S).1 S
noncomputable def r_X7_settle (S : zS) (n : Nat) (x : Int32) : Int32 := pif ((0) ≤ (x)) (lSet n x 1000000 0 0 S).2 (-1)
theorem zV.begin {n : Nat} {Z : zZ} {R : zR} (h : zV n Z R) {c a : Nat} (hc : c < 4) (ha : Z.2.1 0 a) (ha2 : a < 200) : zV n Z (up3 (up3 R 12 0 a (some a)) 2 c 2 (some a)) := by
  obtain ⟨⟨a1, b1⟩, ⟨c1, c2, c3, c4⟩, d, f, g5, g6, g7⟩ := h
  have e : ∀ k i x, ¬ (k = 12 ∧ i = 0 ∧ x = a) → ¬ (k = 2 ∧ i = c ∧ x = 2) → up3 (up3 R 12 0 a (some a)) 2 c 2 (some a) k i x = R k i x := fun k i x h1 h2 => by rw [up3_eq, if_neg h2, up3_eq, if_neg h1]
  refine ⟨⟨a1, b1⟩, ⟨c1, c2, c3, c4⟩, fun c' hc' => ?_, f, g5, fun b hb => ?_, fun c' hc' => ?_⟩
  · rw [e 2 c' 1 (by omega) (by omega), e _ _ _ (by omega) (by omega)]; exact d c' hc'
  · by_cases hab : b = a
    · subst hab
      exact Or.inr ⟨by rw [up3_eq, if_neg (by omega), up3_eq, if_pos ⟨rfl, rfl, rfl⟩], ha⟩
    · rw [e _ _ _ (by omega) (by omega)]; exact g6 b hb
  · have e12 : ∀ b, b < 200 → R 12 0 b = some b → up3 (up3 R 12 0 a (some a)) 2 c 2 (some a) 12 0 b = some b := fun b hb hr => by
      by_cases hab : b = a
      · subst hab; rw [up3_eq, if_neg (by omega), up3_eq, if_pos ⟨rfl, rfl, rfl⟩]
      · rw [e _ _ _ (by omega) (by omega)]; exact hr
    by_cases hcc : c' = c
    · subst hcc
      exact Or.inr ⟨a, ha2, by rw [up3_eq, if_pos ⟨rfl, rfl, rfl⟩], by rw [up3_eq, if_neg (by omega), up3_eq, if_pos ⟨rfl, rfl, rfl⟩]⟩
    · rcases g7 c' hc' with q | ⟨b, q1, q2, q3⟩
      · exact Or.inl (by rw [e _ _ _ (by omega) (by omega)]; exact q)
      · exact Or.inr ⟨b, q1, by rw [e _ _ _ (by omega) (by omega)]; exact q2, e12 b q1 q3⟩
set_option maxHeartbeats 400000 in
set_option maxRecDepth 100000 in
theorem c_X7_settle {l : Launch} {D : va_G} {ar : Nat → ClassId} {A : Nat → Prop} {Z : zZ} {S : zS} {n : Nat} {x : Int32} (hI : cI n Z S) (hD : ∀ T y, cI n Z T → cI n Z (s_X7_deliver T n y)) : zMet l yX7_settle prog_1_method_10_code 5 (some .int) ({ frames := 6, cells := 0, slots := 0, locals := 143 } : Room) D ar A Z S [.ref (Z.1 7 (0)), .int (x)] rvI (zF (r_X7_settle S n x) Z (s_X7_settle S n x)) := by
  refine z_body (by decide +kernel) (Nat.le_of_ble_eq_true rfl) ?_
  intro pX eX sX mX bX methX cX ls hM hr hlk hml hin hl hW hlo
  have hM : zM pX cX mX _ sX prog_1_method_10_code RX7 D ar := hM
  have hS : va_S A sX.heap sX.heap [] := va_S.rf
  have hl : lv_has ls 5 [(0, .ref (Z.1 7 (0))), (1, .int (x))] := hl
  have loop : ∀ (f st : Nat) (k d : Int32) (T : zS) (ls : Array Slot) (H : Heap) (locs : List Loc), st + f = 1000000 → cI n Z T → (lSet n x f k d T).1 = s_X7_settle S n x → (lSet n x f k d T).2 = r_X7_settle S n x → lv_has ls 5 [(4, .int (nI st)), (3, .int (k)), (2, .int (d)), (0, .ref (Z.1 7 (0))), (1, .int (x))] → zW D ar A Z T H → va_S A sX.heap H locs → W pX l eX ({ frames := 6, cells := 0, slots := 0, locals := 143 } : Room) sX mX ([.ref (Z.1 7 (0)), .int (x)] : List Value).toArray bX methX cX H locs 0 0 (MQ bX (zQ D ar A rvI (zF (r_X7_settle S n x) Z (s_X7_settle S n x))) ([.ref (Z.1 7 (0)), .int (x)] : List Value).toArray sX 0 0 A) (F0 mX 13 ls []) := by
    intro f
    induction f with
    | zero =>
      intro st k d T ls H locs hf hT hE1 hE2 hl hW hS
      have hV := hT.1
      have hc9 : (1000000 : Int32) ≤ nI st := by rw [show st = 1000000 by omega]; exact Int32.le_refl _
      refine lv_iload hM.1 hM.2.1 dX7_settle_13 (lv_at hl 0 rfl) ?_
      refine lv_ldc hM.1 hM.2.1 hM.2.2.1 (hM.2.2.2.1 _ lq_const) dX7_settle_15 ?_
      refine lv_icmp_ge hM.1 hM.2.1 dX7_settle_17 (tgt := 59) (by decide) (fun _ => ?_) (fun h => absurd hc9 h)
      refine lv_iload_n hM.1 hM.2.1 dX7_settle_59 rfl (lv_at hl 2 rfl) ?_
      exact z_iret hM hlk hr rfl hW hS (zF.of hE2 hE1) dX7_settle_60
    | succ f ih =>
      intro st k d T ls H locs hf hT hE1 hE2 hl hW hS
      have hV := hT.1
      have hc9 : ¬ (1000000 : Int32) ≤ nI st := nI_ge (a := st) (b := 1000000) (by omega) (by omega)
      refine lv_iload hM.1 hM.2.1 dX7_settle_13 (lv_at hl 0 rfl) ?_
      refine lv_ldc hM.1 hM.2.1 hM.2.2.1 (hM.2.2.2.1 _ lq_const) dX7_settle_15 ?_
      refine lv_icmp_ge hM.1 hM.2.1 dX7_settle_17 (tgt := 59) (by decide) (fun h => absurd h hc9) (fun _ => ?_)
      refine lv_iload_n hM.1 hM.2.1 dX7_settle_20 rfl (lv_at hl 2 rfl) ?_
      refine lv_iload_n hM.1 hM.2.1 dX7_settle_21 rfl (lv_at hl 4 rfl) ?_
      refine lv_icmp_ge hM.1 hM.2.1 dX7_settle_22 (tgt := 59) (by decide) (fun h_22 => ?_) (fun h_22 => ?_)
      ·
        refine lv_iload_n hM.1 hM.2.1 dX7_settle_59 rfl (lv_at hl 2 rfl) ?_
        exact z_iret hM hlk hr rfl hW hS (zF.of (by rw [show lSet n x (f + 1) k d T = pif _ _ _ from rfl, pif_pos h_22] at hE2; exact hE2) (by rw [show lSet n x (f + 1) k d T = pif _ _ _ from rfl, pif_pos h_22] at hE1; exact hE1)) dX7_settle_60
      ·
        refine lv_iload_n hM.1 hM.2.1 dX7_settle_25 rfl (lv_at hl 1 rfl) ?_
        refine lv_aload_n hM.1 hM.2.1 dX7_settle_26 rfl (lv_at hl 3 rfl) ?_
        refine z_getr hM hW zc7 hI.1.d7 rfl 4 (by decide) lf_X7_65 (t := 1) (j := 0) rfl hV.r74 dX7_settle_27 (fun hd1_27 => ?_)
        refine z_get hM hW zc1 hd1_27 rfl 2 (by decide) lf_X7_148 (v := .int (gi T 1 (0) (2))) rfl dX7_settle_30 ?_
        refine lv_icmp_ge hM.1 hM.2.1 dX7_settle_33 (tgt := 59) (by decide) (fun h_33 => ?_) (fun h_33 => ?_)
        ·
          refine lv_iload_n hM.1 hM.2.1 dX7_settle_59 rfl (lv_at hl 2 rfl) ?_
          exact z_iret hM hlk hr rfl hW hS (zF.of (by rw [show lSet n x (f + 1) k d T = pif _ _ _ from rfl, pif_neg h_22, pif_pos h_33] at hE2; exact hE2) (by rw [show lSet n x (f + 1) k d T = pif _ _ _ from rfl, pif_neg h_22, pif_pos h_33] at hE1; exact hE1)) dX7_settle_60
        ·
          refine lv_aload_n hM.1 hM.2.1 dX7_settle_36 rfl (lv_at hl 3 rfl) ?_
          refine lv_iload_n hM.1 hM.2.1 dX7_settle_37 rfl (lv_at hl 1 rfl) ?_
          refine z_Vi hM (hml.trans hl.1.symm) hW hS hlo zc7 hI.1.d7 rfl zyX7_deliver lm_X7_151 li_yX7_deliver le_yX7_deliver (As := [.int (k)]) (rest := []) (c_X7_deliver hT) rfl rfl (Nat.le_of_ble_eq_true rfl) ⟨Nat.le_of_ble_eq_true rfl, Nat.le_of_ble_eq_true rfl⟩ ⟨Nat.le_of_ble_eq_true rfl, Nat.le_of_ble_eq_true rfl⟩ dX7_settle_38 (fun H locs hW hS => ?_)
          refine lv_if_eq hM.1 hM.2.1 dX7_settle_41 (tgt := 50) (by decide) (fun h_41 => ?_) (fun h_41 => ?_)
          ·
            refine lv_iinc hM.1 hM.2.1 dX7_settle_50 hl (k := 1) rfl (v := k + 1) rfl (by decide) (lv' := [(3, .int (k + 1)), (4, .int (nI st)), (2, .int (d)), (0, .ref (Z.1 7 (0))), (1, .int (x))]) rfl (fun ls hl => ?_)
            refine lv_iinc hM.1 hM.2.1 dX7_settle_53 hl (k := 1) rfl (v := nI (st + 1)) (nI_succ _).symm (by decide) (lv' := [(4, .int (nI (st + 1))), (3, .int (k + 1)), (2, .int (d)), (0, .ref (Z.1 7 (0))), (1, .int (x))]) rfl (fun ls hl => ?_)
            refine lv_goto hM.1 hM.2.1 dX7_settle_56 (tgt := 13) (by decide) ?_
            exact ih (st + 1) _ _ _ ls H locs (by omega) (hD _ _ hT) (by rw [show lSet n x (f + 1) k d T = pif _ _ _ from rfl, pif_neg h_22, pif_neg h_33, pif_pos h_41] at hE1; exact hE1) (by rw [show lSet n x (f + 1) k d T = pif _ _ _ from rfl, pif_neg h_22, pif_neg h_33, pif_pos h_41] at hE2; exact hE2) (lv_sub hl [0, 1, 2, 3, 4] rfl) hW hS
          ·
            refine lv_iinc hM.1 hM.2.1 dX7_settle_44 hl (k := 2) rfl (v := d + 1) rfl (by decide) (lv' := [(2, .int (d + 1)), (4, .int (nI st)), (3, .int (k)), (0, .ref (Z.1 7 (0))), (1, .int (x))]) rfl (fun ls hl => ?_)
            refine lv_goto hM.1 hM.2.1 dX7_settle_47 (tgt := 53) (by decide) ?_
            refine lv_iinc hM.1 hM.2.1 dX7_settle_53 hl (k := 1) rfl (v := nI (st + 1)) (nI_succ _).symm (by decide) (lv' := [(4, .int (nI (st + 1))), (2, .int (d + 1)), (3, .int (k)), (0, .ref (Z.1 7 (0))), (1, .int (x))]) rfl (fun ls hl => ?_)
            refine lv_goto hM.1 hM.2.1 dX7_settle_56 (tgt := 13) (by decide) ?_
            exact ih (st + 1) _ _ _ ls H locs (by omega) (hD _ _ hT) (by rw [show lSet n x (f + 1) k d T = pif _ _ _ from rfl, pif_neg h_22, pif_neg h_33, pif_neg h_41] at hE1; exact hE1) (by rw [show lSet n x (f + 1) k d T = pif _ _ _ from rfl, pif_neg h_22, pif_neg h_33, pif_neg h_41] at hE2; exact hE2) (lv_sub hl [0, 2, 1, 3, 4] rfl) hW hS
  refine lv_iload_n hM.1 hM.2.1 dX7_settle_0 rfl (lv_at hl 1 rfl) ?_
  refine lv_if_ge hM.1 hM.2.1 dX7_settle_1 (tgt := 6) (by decide) (fun h_1 => ?_) (fun h_1 => ?_)
  ·
    refine lv_iconst (v := 0) hM.1 hM.2.1 dX7_settle_6 (by decide) ?_
    refine lv_istore_n hM.1 hM.2.1 dX7_settle_7 rfl hl (by decide) (lv' := [(2, .int (0)), (0, .ref (Z.1 7 (0))), (1, .int (x))]) rfl (fun ls hl => ?_)
    refine lv_iconst (v := 0) hM.1 hM.2.1 dX7_settle_8 (by decide) ?_
    refine lv_istore_n hM.1 hM.2.1 dX7_settle_9 rfl hl (by decide) (lv' := [(3, .int (0)), (2, .int (0)), (0, .ref (Z.1 7 (0))), (1, .int (x))]) rfl (fun ls hl => ?_)
    refine lv_iconst (v := 0) hM.1 hM.2.1 dX7_settle_10 (by decide) ?_
    refine lv_istore hM.1 hM.2.1 dX7_settle_11 hl (by decide) (lv' := [(4, .int (0)), (3, .int (0)), (2, .int (0)), (0, .ref (Z.1 7 (0))), (1, .int (x))]) rfl (fun ls hl => ?_)
    exact loop 1000000 0 0 0 S ls _ _ (by omega) hI (by unfold s_X7_settle; rw [pif_pos h_1]) (by unfold r_X7_settle; rw [pif_pos h_1]) (lv_sub hl [0, 1, 2, 3, 4] rfl) hW hS
  ·
    refine lv_iconst (v := (-1)) hM.1 hM.2.1 dX7_settle_4 (by decide) ?_
    exact z_iret hM hlk hr rfl hW hS (zF.of (by unfold r_X7_settle; rw [pif_neg h_1]) (by unfold s_X7_settle; rw [pif_neg h_1])) dX7_settle_5

noncomputable def r_X7_beginAct (S : zS) (n : Nat) (c a : Nat) (x : Int32) : Int32 := (gi (s_X7_beginPhase (s_X6_put (si (sr (si (si (si (sr S 12 (0) (ix (gi S 7 (0) (7))) (some (a))) 7 (0) (7) ((gi S 7 (0) (7)) + (1))) 7 (0) (8) ((gi S 7 (0) (8)) + (1))) 0 (a) (3) ((gi S 7 (0) (8)) + (1))) 2 (c) (2) (some (a))) 2 (c) (4) (0)) (10 + c) (0) (0) (0)) n (c) (a) (x)) 0 (a) (0))
noncomputable def s_X7_beginAct (S : zS) (n : Nat) (c a : Nat) (x : Int32) : zS := ((s_X7_beginPhase (s_X6_put (si (sr (si (si (si (sr S 12 (0) (ix (gi S 7 (0) (7))) (some (a))) 7 (0) (7) ((gi S 7 (0) (7)) + (1))) 7 (0) (8) ((gi S 7 (0) (8)) + (1))) 0 (a) (3) ((gi S 7 (0) (8)) + (1))) 2 (c) (2) (some (a))) 2 (c) (4) (0)) (10 + c) (0) (0) (0)) n (c) (a) (x)))
set_option maxHeartbeats 400000 in
set_option maxRecDepth 100000 in
theorem c_X7_beginAct {l : Launch} {D : va_G} {ar : Nat → ClassId} {A : Nat → Prop} {Z : zZ} {S : zS} {n : Nat} {c a : Nat} {x : Int32} (hV : zV n Z S.2.2) (hc : c < 4) (ha : Z.2.1 0 a) (hac : gi S 7 0 7 = nI a) (ha2 : a < 200) (hc0 : ¬ gi S 1 0 2 < 0) : zMet l yX7_beginAct prog_1_method_29_code 4 (some .int) ({ frames := 4, cells := 0, slots := 0, locals := 96 } : Room) D ar A Z S [.ref (Z.1 7 (0)), .ref (Z.1 2 (c)), .ref (Z.1 0 (a)), .int (x)] rvI (zF (r_X7_beginAct S n c a x) Z (s_X7_beginAct S n c a x)) := by
  refine z_body (by decide +kernel) (Nat.le_of_ble_eq_true rfl) ?_
  intro pX eX sX mX bX methX cX ls hM hr hlk hml hin hl hW hlo
  have hM : zM pX cX mX _ sX prog_1_method_29_code RX7 D ar := hM
  have hS : va_S A sX.heap sX.heap [] := va_S.rf
  have hl : lv_has ls 4 [(0, .ref (Z.1 7 (0))), (1, .ref (Z.1 2 (c))), (2, .ref (Z.1 0 (a))), (3, .int (x))] := hl
  refine lv_aload_n hM.1 hM.2.1 dX7_beginAct_0 rfl (lv_at hl 0 rfl) ?_
  refine z_get hM hW zc7 hV.d7 rfl 7 (by decide) lf_X7_91 (v := .int (gi S 7 (0) (7))) rfl dX7_beginAct_1 ?_
  refine lv_aload_n hM.1 hM.2.1 dX7_beginAct_4 rfl (lv_at hl 0 rfl) ?_
  refine z_getr hM hW zc7 hV.d7 rfl 3 (by decide) lf_X7_58 (t := 12) (j := 0) rfl hV.r73 dX7_beginAct_5 (fun hd1_5 => ?_)
  refine z_alen hM hW hd1_5 (by decide) rfl 3 rfl (v := 200) (by rw [hV.l12]; rfl) dX7_beginAct_8 ?_
  refine lv_icmp_lt hM.1 hM.2.1 dX7_beginAct_9 (tgt := 14) (by decide) (fun _ => ?_) (fun h => absurd (by rw [hac]; exact nI_lt (a := a) (b := 200) ha2 (by decide)) h)
  refine lv_aload_n hM.1 hM.2.1 dX7_beginAct_14 rfl (lv_at hl 0 rfl) ?_
  refine z_getr hM hW zc7 hV.d7 rfl 3 (by decide) lf_X7_58 (t := 12) (j := 0) rfl hV.r73 dX7_beginAct_15 (fun hd2_15 => ?_)
  refine lv_aload_n hM.1 hM.2.1 dX7_beginAct_18 rfl (lv_at hl 0 rfl) ?_
  refine z_get hM hW zc7 hV.d7 rfl 7 (by decide) lf_X7_91 (v := .int (gi S 7 (0) (7))) rfl dX7_beginAct_19 ?_
  refine lv_aload_n hM.1 hM.2.1 dX7_beginAct_22 rfl (lv_at hl 2 rfl) ?_
  refine z_aast hM hW hS hd2_15 (by decide) rfl 3 rfl (t := 0) (q := a) (fun _ => rfl) zc0 ha rfl (by rw [hac, hV.l12]; exact nI_in ha2 (by decide)) dX7_beginAct_23 (fun H locs hW hS => ?_)
  refine lv_aload_n hM.1 hM.2.1 dX7_beginAct_24 rfl (lv_at hl 0 rfl) ?_
  refine lv_dup hM.1 hM.2.1 dX7_beginAct_25 rfl ?_
  refine z_get hM hW zc7 hV.d7 rfl 7 (by decide) lf_X7_91 (v := .int (gi S 7 (0) (7))) rfl dX7_beginAct_26 ?_
  refine lv_iconst (v := 1) hM.1 hM.2.1 dX7_beginAct_29 (by decide) ?_
  refine lv_iadd hM.1 hM.2.1 dX7_beginAct_30 ?_
  refine z_puti hM hW hS zc7 hV.d7 rfl 7 (by decide) rfl lf_X7_91 (Or.inl rfl) (tyX7 7) (tyX7_ok 7 (by decide)) rfl rfl dX7_beginAct_31 (fun H locs hW hS => ?_)
  refine lv_aload_n hM.1 hM.2.1 dX7_beginAct_34 rfl (lv_at hl 0 rfl) ?_
  refine lv_dup hM.1 hM.2.1 dX7_beginAct_35 rfl ?_
  refine z_get hM hW zc7 hV.d7 rfl 8 (by decide) lf_X7_113 (v := .int (gi S 7 (0) (8))) rfl dX7_beginAct_36 ?_
  refine lv_iconst (v := 1) hM.1 hM.2.1 dX7_beginAct_39 (by decide) ?_
  refine lv_iadd hM.1 hM.2.1 dX7_beginAct_40 ?_
  refine z_puti hM hW hS zc7 hV.d7 rfl 8 (by decide) rfl lf_X7_113 (Or.inl rfl) (tyX7 8) (tyX7_ok 8 (by decide)) rfl rfl dX7_beginAct_41 (fun H locs hW hS => ?_)
  refine lv_aload_n hM.1 hM.2.1 dX7_beginAct_44 rfl (lv_at hl 2 rfl) ?_
  refine lv_aload_n hM.1 hM.2.1 dX7_beginAct_45 rfl (lv_at hl 0 rfl) ?_
  refine z_get hM hW zc7 hV.d7 rfl 8 (by decide) lf_X7_113 (v := .int ((gi S 7 (0) (8)) + (1))) rfl dX7_beginAct_46 ?_
  refine z_puti hM hW hS zc0 ha rfl 3 (by decide) rfl lf_X7_218 (Or.inl rfl) (tyX0 3) (tyX0_ok 3 (by decide)) rfl rfl dX7_beginAct_49 (fun H locs hW hS => ?_)
  refine lv_aload_n hM.1 hM.2.1 dX7_beginAct_52 rfl (lv_at hl 1 rfl) ?_
  refine lv_aload_n hM.1 hM.2.1 dX7_beginAct_53 rfl (lv_at hl 2 rfl) ?_
  refine z_putr hM hW hS zc2 (hV.d2 hc) rfl 2 (by decide) (t := 0) (j := a) rfl ha lf_X7_105 (Or.inl rfl) (tyX2 2) (tyX2_ok 2 (by decide)) (fun _ => rfl) (fun _ => rfl) dX7_beginAct_54 (fun H locs hW hS => ?_)
  refine lv_aload_n hM.1 hM.2.1 dX7_beginAct_57 rfl (lv_at hl 1 rfl) ?_
  refine lv_iconst (v := 0) hM.1 hM.2.1 dX7_beginAct_58 (by decide) ?_
  refine z_puti hM hW hS zc2 (hV.d2 hc) rfl 4 (by decide) rfl lf_X7_246 (Or.inl rfl) (tyX2 4) (tyX2_ok 4 (by decide)) rfl rfl dX7_beginAct_59 (fun H locs hW hS => ?_)
  refine lv_aload_n hM.1 hM.2.1 dX7_beginAct_62 rfl (lv_at hl 1 rfl) ?_
  refine z_getr hM hW zc2 (hV.d2 hc) rfl 1 (by decide) lf_X7_247 (t := 6) (j := 10 + c) rfl (hV.r2 hc) dX7_beginAct_63 (fun hd3_63 => ?_)
  refine lv_iconst (v := 0) hM.1 hM.2.1 dX7_beginAct_66 (by decide) ?_
  refine lv_iconst (v := 0) hM.1 hM.2.1 dX7_beginAct_67 (by decide) ?_
  refine lv_lconst (v := 0) hM.1 hM.2.1 dX7_beginAct_68 (by decide) ?_
  refine z_Vv hM (hml.trans hl.1.symm) hW hS hlo zc6 hd3_63 rfl zyX6_put lm_X7_248 li_yX6_put le_yX6_put (As := [.int (0), .int (0), .long (0)]) (rest := []) (c_X6_put hd3_63) rfl rfl (Nat.le_of_ble_eq_true rfl) ⟨Nat.le_of_ble_eq_true rfl, Nat.le_of_ble_eq_true rfl⟩ ⟨Nat.le_of_ble_eq_true rfl, Nat.le_of_ble_eq_true rfl⟩ dX7_beginAct_69 (fun H locs hW hS => ?_)
  obtain ⟨B1, hB1⟩ : ∃ B, B = (s_X6_put (si (sr (si (si (si (sr S 12 (0) (ix (gi S 7 (0) (7))) (some (a))) 7 (0) (7) ((gi S 7 (0) (7)) + (1))) 7 (0) (8) ((gi S 7 (0) (8)) + (1))) 0 (a) (3) ((gi S 7 (0) (8)) + (1))) 2 (c) (2) (some (a))) 2 (c) (4) (0)) (10 + c) (0) (0) (0)) := ⟨_, rfl⟩
  rw [← hB1] at hW
  refine lv_aload_n hM.1 hM.2.1 dX7_beginAct_72 rfl (lv_at hl 0 rfl) ?_
  refine lv_aload_n hM.1 hM.2.1 dX7_beginAct_73 rfl (lv_at hl 1 rfl) ?_
  refine lv_aload_n hM.1 hM.2.1 dX7_beginAct_74 rfl (lv_at hl 2 rfl) ?_
  refine lv_iload_n hM.1 hM.2.1 dX7_beginAct_75 rfl (lv_at hl 3 rfl) ?_
  refine z_Vv hM (hml.trans hl.1.symm) hW hS hlo zc7 hV.d7 rfl zyX7_beginPhase lm_X7_252 li_yX7_beginPhase le_yX7_beginPhase (As := [.ref (Z.1 2 (c)), .ref (Z.1 0 (a)), .int (x)]) (rest := []) (c_X7_beginPhase (by rw [hB1]; exact (by show zV n Z (up3 (up3 S.2.2 12 0 (ix (gi S 7 0 7)) (some a)) 2 c 2 (some a)); rw [hac, ix_nI (by omega)]; exact hV.begin hc ha ha2)) hc ha (by rw [hB1]; exact hc0)) rfl rfl (Nat.le_of_ble_eq_true rfl) ⟨Nat.le_of_ble_eq_true rfl, Nat.le_of_ble_eq_true rfl⟩ ⟨Nat.le_of_ble_eq_true rfl, Nat.le_of_ble_eq_true rfl⟩ dX7_beginAct_76 (fun H locs hW hS => ?_)
  obtain ⟨B2, hB2⟩ : ∃ B, B = (s_X7_beginPhase B1 n (c) (a) (x)) := ⟨_, rfl⟩
  rw [← hB2] at hW
  refine lv_aload_n hM.1 hM.2.1 dX7_beginAct_79 rfl (lv_at hl 2 rfl) ?_
  refine z_get hM hW zc0 ha rfl 0 (by decide) lf_X7_119 (v := .int (gi B2 0 (a) (0))) rfl dX7_beginAct_80 ?_
  exact z_iret hM hlk hr rfl hW hS (zF.of (by subst hB2; subst hB1; unfold r_X7_beginAct; rfl) (by subst hB2; subst hB1; unfold s_X7_beginAct; rfl)) dX7_beginAct_83
end
