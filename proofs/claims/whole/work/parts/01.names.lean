-- ===== PART A: goes FIRST, ahead of the names: the tables' words, and 'selects' of the private methods out of them =====
/-- a private method of a class that the tables say can be made, by its rows of tables_1 -/
def lw_okq (q : MethodName × Nat) : Prop := (q.1.cls ≠ "java/lang/invoke/MethodHandle" ∧ q.1.cls ≠ "java/lang/invoke/VarHandle") ∧ Cond.instantiable q.1.cls q.2 ∈ tables_1 ∧ Cond.privateMethod q.1 ∈ tables_1 ∧ Cond.instanceMethod q.1 ∈ tables_1
theorem lw_p0 : lw_okq (⟨"TeleStack$Ground", "runOut", "()V"⟩, 14) := ⟨⟨by decide +kernel, by decide +kernel⟩, List.mem_of_getElem? (i := 69) (by decide +kernel), List.mem_of_getElem? (i := 287) (by decide +kernel), List.mem_of_getElem? (i := 288) (by decide +kernel)⟩
theorem lw_p1 : lw_okq (⟨"TeleStack$Ground", "alarm", "(I)V"⟩, 14) := ⟨⟨by decide +kernel, by decide +kernel⟩, List.mem_of_getElem? (i := 69) (by decide +kernel), List.mem_of_getElem? (i := 291) (by decide +kernel), List.mem_of_getElem? (i := 292) (by decide +kernel)⟩
theorem lw_p2 : lw_okq (⟨"TeleStack$Ground", "isSending", "()Z"⟩, 14) := ⟨⟨by decide +kernel, by decide +kernel⟩, List.mem_of_getElem? (i := 69) (by decide +kernel), List.mem_of_getElem? (i := 303) (by decide +kernel), List.mem_of_getElem? (i := 304) (by decide +kernel)⟩
theorem lw_p3 : lw_okq (⟨"TeleStack$Ground", "tryAgain", "()V"⟩, 14) := ⟨⟨by decide +kernel, by decide +kernel⟩, List.mem_of_getElem? (i := 69) (by decide +kernel), List.mem_of_getElem? (i := 307) (by decide +kernel), List.mem_of_getElem? (i := 308) (by decide +kernel)⟩
theorem lw_p4 : lw_okq (⟨"TeleStack$Ground", "sendStart", "(LTeleStack$UpFrames;)I"⟩, 14) := ⟨⟨by decide +kernel, by decide +kernel⟩, List.mem_of_getElem? (i := 69) (by decide +kernel), List.mem_of_getElem? (i := 315) (by decide +kernel), List.mem_of_getElem? (i := 316) (by decide +kernel)⟩
theorem lw_p5 : lw_okq (⟨"TeleStack$Ground", "send", "(LTeleStack$UpFrames;III)I"⟩, 14) := ⟨⟨by decide +kernel, by decide +kernel⟩, List.mem_of_getElem? (i := 69) (by decide +kernel), List.mem_of_getElem? (i := 319) (by decide +kernel), List.mem_of_getElem? (i := 320) (by decide +kernel)⟩
theorem lw_p6 : lw_okq (⟨"TeleStack$Ground", "sendCommand", "(LTeleStack$UpFrames;)I"⟩, 14) := ⟨⟨by decide +kernel, by decide +kernel⟩, List.mem_of_getElem? (i := 69) (by decide +kernel), List.mem_of_getElem? (i := 327) (by decide +kernel), List.mem_of_getElem? (i := 328) (by decide +kernel)⟩
theorem lw_p7 : lw_okq (⟨"TeleStack$Ground", "sendSlot", "(LTeleStack$UpFrames;)I"⟩, 14) := ⟨⟨by decide +kernel, by decide +kernel⟩, List.mem_of_getElem? (i := 69) (by decide +kernel), List.mem_of_getElem? (i := 351) (by decide +kernel), List.mem_of_getElem? (i := 352) (by decide +kernel)⟩
theorem lw_p8 : lw_okq (⟨"java/lang/Throwable", "fillInStackTrace", "(I)Ljava/lang/Throwable;"⟩, 6) := ⟨⟨by decide +kernel, by decide +kernel⟩, List.mem_of_getElem? (i := 430) (by decide +kernel), List.mem_of_getElem? (i := 428) (by decide +kernel), List.mem_of_getElem? (i := 429) (by decide +kernel)⟩
theorem lw_p9 : lw_okq (⟨"TeleStack$Craft", "receiveCommand", "(II)V"⟩, 5) := ⟨⟨by decide +kernel, by decide +kernel⟩, List.mem_of_getElem? (i := 137) (by decide +kernel), List.mem_of_getElem? (i := 582) (by decide +kernel), List.mem_of_getElem? (i := 583) (by decide +kernel)⟩
theorem lw_p10 : lw_okq (⟨"TeleStack$Craft", "receiveExpected", "(I)V"⟩, 5) := ⟨⟨by decide +kernel, by decide +kernel⟩, List.mem_of_getElem? (i := 137) (by decide +kernel), List.mem_of_getElem? (i := 586) (by decide +kernel), List.mem_of_getElem? (i := 587) (by decide +kernel)⟩
theorem lw_p11 : lw_okq (⟨"TeleStack$Craft", "reopen", "()V"⟩, 5) := ⟨⟨by decide +kernel, by decide +kernel⟩, List.mem_of_getElem? (i := 137) (by decide +kernel), List.mem_of_getElem? (i := 591) (by decide +kernel), List.mem_of_getElem? (i := 592) (by decide +kernel)⟩
theorem lw_p12 : lw_okq (⟨"TeleStack$Ground", "hearAtStart", "(IZI)V"⟩, 14) := ⟨⟨by decide +kernel, by decide +kernel⟩, List.mem_of_getElem? (i := 69) (by decide +kernel), List.mem_of_getElem? (i := 666) (by decide +kernel), List.mem_of_getElem? (i := 667) (by decide +kernel)⟩
theorem lw_p13 : lw_okq (⟨"TeleStack$Ground", "acknowledge", "(II)V"⟩, 14) := ⟨⟨by decide +kernel, by decide +kernel⟩, List.mem_of_getElem? (i := 69) (by decide +kernel), List.mem_of_getElem? (i := 671) (by decide +kernel), List.mem_of_getElem? (i := 672) (by decide +kernel)⟩
theorem lw_p14 : lw_okq (⟨"TeleStack$Ground", "hearWithNonePending", "(ZI)V"⟩, 14) := ⟨⟨by decide +kernel, by decide +kernel⟩, List.mem_of_getElem? (i := 69) (by decide +kernel), List.mem_of_getElem? (i := 679) (by decide +kernel), List.mem_of_getElem? (i := 680) (by decide +kernel)⟩
theorem lw_p15 : lw_okq (⟨"TeleStack$Ground", "hearWithSomePending", "(ZIZ)V"⟩, 14) := ⟨⟨by decide +kernel, by decide +kernel⟩, List.mem_of_getElem? (i := 69) (by decide +kernel), List.mem_of_getElem? (i := 683) (by decide +kernel), List.mem_of_getElem? (i := 684) (by decide +kernel)⟩
def lw_privs_1 : List (MethodName × Nat) := [(⟨"TeleStack$Ground", "runOut", "()V"⟩, 14), (⟨"TeleStack$Ground", "alarm", "(I)V"⟩, 14), (⟨"TeleStack$Ground", "isSending", "()Z"⟩, 14), (⟨"TeleStack$Ground", "tryAgain", "()V"⟩, 14), (⟨"TeleStack$Ground", "sendStart", "(LTeleStack$UpFrames;)I"⟩, 14), (⟨"TeleStack$Ground", "send", "(LTeleStack$UpFrames;III)I"⟩, 14), (⟨"TeleStack$Ground", "sendCommand", "(LTeleStack$UpFrames;)I"⟩, 14), (⟨"TeleStack$Ground", "sendSlot", "(LTeleStack$UpFrames;)I"⟩, 14), (⟨"java/lang/Throwable", "fillInStackTrace", "(I)Ljava/lang/Throwable;"⟩, 6), (⟨"TeleStack$Craft", "receiveCommand", "(II)V"⟩, 5), (⟨"TeleStack$Craft", "receiveExpected", "(I)V"⟩, 5), (⟨"TeleStack$Craft", "reopen", "()V"⟩, 5), (⟨"TeleStack$Ground", "hearAtStart", "(IZI)V"⟩, 14), (⟨"TeleStack$Ground", "acknowledge", "(II)V"⟩, 14), (⟨"TeleStack$Ground", "hearWithNonePending", "(ZI)V"⟩, 14), (⟨"TeleStack$Ground", "hearWithSomePending", "(ZIZ)V"⟩, 14)]
theorem lw_r1 : ∀ q ∈ lw_privs_1, lw_okq q := List.forall_mem_cons.mpr ⟨lw_p0, List.forall_mem_cons.mpr ⟨lw_p1, List.forall_mem_cons.mpr ⟨lw_p2, List.forall_mem_cons.mpr ⟨lw_p3, List.forall_mem_cons.mpr ⟨lw_p4, List.forall_mem_cons.mpr ⟨lw_p5, List.forall_mem_cons.mpr ⟨lw_p6, List.forall_mem_cons.mpr ⟨lw_p7, List.forall_mem_cons.mpr ⟨lw_p8, List.forall_mem_cons.mpr ⟨lw_p9, List.forall_mem_cons.mpr ⟨lw_p10, List.forall_mem_cons.mpr ⟨lw_p11, List.forall_mem_cons.mpr ⟨lw_p12, List.forall_mem_cons.mpr ⟨lw_p13, List.forall_mem_cons.mpr ⟨lw_p14, List.forall_mem_cons.mpr ⟨lw_p15, fun _ h => absurd h List.not_mem_nil⟩⟩⟩⟩⟩⟩⟩⟩⟩⟩⟩⟩⟩⟩⟩⟩
theorem lw_p16 : lw_okq (⟨"TeleStack$Ground", "resend", "()V"⟩, 14) := ⟨⟨by decide +kernel, by decide +kernel⟩, List.mem_of_getElem? (i := 69) (by decide +kernel), List.mem_of_getElem? (i := 687) (by decide +kernel), List.mem_of_getElem? (i := 688) (by decide +kernel)⟩
theorem lw_p17 : lw_okq (⟨"TeleStack$Stream", "writeHead", "(II)V"⟩, 4) := ⟨⟨by decide +kernel, by decide +kernel⟩, List.mem_of_getElem? (i := 165) (by decide +kernel), List.mem_of_getElem? (i := 710) (by decide +kernel), List.mem_of_getElem? (i := 711) (by decide +kernel)⟩
theorem lw_p18 : lw_okq (⟨"TeleStack$Stream", "put", "(IZ)V"⟩, 4) := ⟨⟨by decide +kernel, by decide +kernel⟩, List.mem_of_getElem? (i := 165) (by decide +kernel), List.mem_of_getElem? (i := 714) (by decide +kernel), List.mem_of_getElem? (i := 715) (by decide +kernel)⟩
theorem lw_p19 : lw_okq (⟨"TeleStack$Stream", "writeIdle", "()V"⟩, 4) := ⟨⟨by decide +kernel, by decide +kernel⟩, List.mem_of_getElem? (i := 165) (by decide +kernel), List.mem_of_getElem? (i := 730) (by decide +kernel), List.mem_of_getElem? (i := 731) (by decide +kernel)⟩
theorem lw_p20 : lw_okq (⟨"TeleStack$Stream", "removeFrame", "()V"⟩, 4) := ⟨⟨by decide +kernel, by decide +kernel⟩, List.mem_of_getElem? (i := 165) (by decide +kernel), List.mem_of_getElem? (i := 738) (by decide +kernel), List.mem_of_getElem? (i := 739) (by decide +kernel)⟩
theorem lw_p21 : lw_okq (⟨"TeleStack$Assembler", "read", "(ILTeleStack$Received;)V"⟩, 7) := ⟨⟨by decide +kernel, by decide +kernel⟩, List.mem_of_getElem? (i := 183) (by decide +kernel), List.mem_of_getElem? (i := 746) (by decide +kernel), List.mem_of_getElem? (i := 747) (by decide +kernel)⟩
theorem lw_p22 : lw_okq (⟨"TeleStackModel", "fails", "(ZZ)Z"⟩, 41) := ⟨⟨by decide +kernel, by decide +kernel⟩, List.mem_of_getElem? (i := 821) (by decide +kernel), List.mem_of_getElem? (i := 962) (by decide +kernel), List.mem_of_getElem? (i := 963) (by decide +kernel)⟩
theorem lw_p23 : lw_okq (⟨"TeleStackModel", "ends", "()V"⟩, 41) := ⟨⟨by decide +kernel, by decide +kernel⟩, List.mem_of_getElem? (i := 821) (by decide +kernel), List.mem_of_getElem? (i := 978) (by decide +kernel), List.mem_of_getElem? (i := 979) (by decide +kernel)⟩
theorem lw_p24 : lw_okq (⟨"TeleStackModel", "rings", "()V"⟩, 41) := ⟨⟨by decide +kernel, by decide +kernel⟩, List.mem_of_getElem? (i := 821) (by decide +kernel), List.mem_of_getElem? (i := 990) (by decide +kernel), List.mem_of_getElem? (i := 991) (by decide +kernel)⟩
theorem lw_p25 : lw_okq (⟨"TeleStackModel", "alarm", "(I)V"⟩, 41) := ⟨⟨by decide +kernel, by decide +kernel⟩, List.mem_of_getElem? (i := 821) (by decide +kernel), List.mem_of_getElem? (i := 994) (by decide +kernel), List.mem_of_getElem? (i := 995) (by decide +kernel)⟩
theorem lw_p26 : lw_okq (⟨"TeleStackModel", "resend", "(I)V"⟩, 41) := ⟨⟨by decide +kernel, by decide +kernel⟩, List.mem_of_getElem? (i := 821) (by decide +kernel), List.mem_of_getElem? (i := 998) (by decide +kernel), List.mem_of_getElem? (i := 999) (by decide +kernel)⟩
theorem lw_p27 : lw_okq (⟨"TeleStackModel", "sends", "(III)I"⟩, 41) := ⟨⟨by decide +kernel, by decide +kernel⟩, List.mem_of_getElem? (i := 821) (by decide +kernel), List.mem_of_getElem? (i := 1002) (by decide +kernel), List.mem_of_getElem? (i := 1003) (by decide +kernel)⟩
theorem lw_p28 : lw_okq (⟨"TeleStackModel", "out", "(I)V"⟩, 41) := ⟨⟨by decide +kernel, by decide +kernel⟩, List.mem_of_getElem? (i := 821) (by decide +kernel), List.mem_of_getElem? (i := 1010) (by decide +kernel), List.mem_of_getElem? (i := 1011) (by decide +kernel)⟩
theorem lw_p29 : lw_okq (⟨"TeleStackModel", "comes", "(II)V"⟩, 41) := ⟨⟨by decide +kernel, by decide +kernel⟩, List.mem_of_getElem? (i := 821) (by decide +kernel), List.mem_of_getElem? (i := 1014) (by decide +kernel), List.mem_of_getElem? (i := 1015) (by decide +kernel)⟩
theorem lw_p30 : lw_okq (⟨"TeleStackModel", "read", "(IZZ)V"⟩, 41) := ⟨⟨by decide +kernel, by decide +kernel⟩, List.mem_of_getElem? (i := 821) (by decide +kernel), List.mem_of_getElem? (i := 1034) (by decide +kernel), List.mem_of_getElem? (i := 1035) (by decide +kernel)⟩
theorem lw_p31 : lw_okq (⟨"TeleStackModel", "puts", "(II)V"⟩, 41) := ⟨⟨by decide +kernel, by decide +kernel⟩, List.mem_of_getElem? (i := 821) (by decide +kernel), List.mem_of_getElem? (i := 1042) (by decide +kernel), List.mem_of_getElem? (i := 1043) (by decide +kernel)⟩
def lw_privs_2 : List (MethodName × Nat) := [(⟨"TeleStack$Ground", "resend", "()V"⟩, 14), (⟨"TeleStack$Stream", "writeHead", "(II)V"⟩, 4), (⟨"TeleStack$Stream", "put", "(IZ)V"⟩, 4), (⟨"TeleStack$Stream", "writeIdle", "()V"⟩, 4), (⟨"TeleStack$Stream", "removeFrame", "()V"⟩, 4), (⟨"TeleStack$Assembler", "read", "(ILTeleStack$Received;)V"⟩, 7), (⟨"TeleStackModel", "fails", "(ZZ)Z"⟩, 41), (⟨"TeleStackModel", "ends", "()V"⟩, 41), (⟨"TeleStackModel", "rings", "()V"⟩, 41), (⟨"TeleStackModel", "alarm", "(I)V"⟩, 41), (⟨"TeleStackModel", "resend", "(I)V"⟩, 41), (⟨"TeleStackModel", "sends", "(III)I"⟩, 41), (⟨"TeleStackModel", "out", "(I)V"⟩, 41), (⟨"TeleStackModel", "comes", "(II)V"⟩, 41), (⟨"TeleStackModel", "read", "(IZZ)V"⟩, 41), (⟨"TeleStackModel", "puts", "(II)V"⟩, 41)]
theorem lw_r2 : ∀ q ∈ lw_privs_2, lw_okq q := List.forall_mem_cons.mpr ⟨lw_p16, List.forall_mem_cons.mpr ⟨lw_p17, List.forall_mem_cons.mpr ⟨lw_p18, List.forall_mem_cons.mpr ⟨lw_p19, List.forall_mem_cons.mpr ⟨lw_p20, List.forall_mem_cons.mpr ⟨lw_p21, List.forall_mem_cons.mpr ⟨lw_p22, List.forall_mem_cons.mpr ⟨lw_p23, List.forall_mem_cons.mpr ⟨lw_p24, List.forall_mem_cons.mpr ⟨lw_p25, List.forall_mem_cons.mpr ⟨lw_p26, List.forall_mem_cons.mpr ⟨lw_p27, List.forall_mem_cons.mpr ⟨lw_p28, List.forall_mem_cons.mpr ⟨lw_p29, List.forall_mem_cons.mpr ⟨lw_p30, List.forall_mem_cons.mpr ⟨lw_p31, fun _ h => absurd h List.not_mem_nil⟩⟩⟩⟩⟩⟩⟩⟩⟩⟩⟩⟩⟩⟩⟩⟩
theorem lw_p32 : lw_okq (⟨"TeleStackModel", "comesDown", "(III)V"⟩, 41) := ⟨⟨by decide +kernel, by decide +kernel⟩, List.mem_of_getElem? (i := 821) (by decide +kernel), List.mem_of_getElem? (i := 1050) (by decide +kernel), List.mem_of_getElem? (i := 1051) (by decide +kernel)⟩
theorem lw_p33 : lw_okq (⟨"TeleStackModel", "readCell", "(II)V"⟩, 41) := ⟨⟨by decide +kernel, by decide +kernel⟩, List.mem_of_getElem? (i := 821) (by decide +kernel), List.mem_of_getElem? (i := 1054) (by decide +kernel), List.mem_of_getElem? (i := 1055) (by decide +kernel)⟩
theorem lw_p34 : lw_okq (⟨"TeleStackModel", "marks", "()I"⟩, 41) := ⟨⟨by decide +kernel, by decide +kernel⟩, List.mem_of_getElem? (i := 821) (by decide +kernel), List.mem_of_getElem? (i := 1062) (by decide +kernel), List.mem_of_getElem? (i := 1063) (by decide +kernel)⟩
def lw_privs_3 : List (MethodName × Nat) := [(⟨"TeleStackModel", "comesDown", "(III)V"⟩, 41), (⟨"TeleStackModel", "readCell", "(II)V"⟩, 41), (⟨"TeleStackModel", "marks", "()I"⟩, 41)]
theorem lw_r3 : ∀ q ∈ lw_privs_3, lw_okq q := List.forall_mem_cons.mpr ⟨lw_p32, List.forall_mem_cons.mpr ⟨lw_p33, List.forall_mem_cons.mpr ⟨lw_p34, fun _ h => absurd h List.not_mem_nil⟩⟩⟩
def lw_privs : List (MethodName × Nat) := lw_privs_1 ++ (lw_privs_2 ++ (lw_privs_3))
def lw_tbl : List Cond := k2_sels lw_privs ++ tables_1
theorem lw_privs_ok : ∀ q ∈ lw_privs, lw_okq q := by
  show ∀ q ∈ lw_privs_1 ++ (lw_privs_2 ++ (lw_privs_3)), lw_okq q
  exact List.forall_mem_append.mpr ⟨lw_r1, List.forall_mem_append.mpr ⟨lw_r2, lw_r3⟩⟩
/-- the words that stay good through calls -/
def Gw : List Cond := lw_tbl.filter goodWord
theorem gw_in {w : Cond} (h : w ∈ lw_tbl) (hg : goodWord w = true) : w ∈ Gw := List.mem_filter.mpr ⟨h, hg⟩
theorem gm {w : Cond} (i : Nat) (h : tables_1[i]? = some w) (hg : goodWord w = true) : w ∈ Gw := gw_in (List.mem_append_right _ (List.mem_of_getElem? h)) hg
theorem gs {w : Cond} (h : w ∈ k2_sels lw_privs) (hg : goodWord w = true) : w ∈ Gw := gw_in (List.mem_append_left _ h) hg
theorem gw_good {w : Cond} (h : w ∈ Gw) : (w.onTables && w.keeps) = true ∨ ∃ ty, w = .arrayClass ty := good_of_word (List.mem_filter.mp h).2
abbrev R_T : String := "TeleStack"
def FT_T : u_T := fun k => match k with
  | 0 => ("TeleStack", "upFrames", "LTeleStack$UpFrames;", true)
  | 1 => ("TeleStack", "reports", "LTeleStack$Reports;", true)
  | 2 => ("TeleStack", "station", "LTeleStack$Ground;", true)
  | 3 => ("TeleStack", "vessel", "LTeleStack$Craft;", true)
  | 4 => ("TeleStack", "streams", "[LTeleStack$Stream;", true)
  | 5 => ("TeleStack", "assemblers", "[LTeleStack$Assembler;", true)
  | 6 => ("TeleStack", "downFrame", "LTeleStack$DownFrame;", true)
  | _ => ("TeleStack", "received", "LTeleStack$Received;", true)
def Fy_T : Nat → FieldType := fun k => match k with
  | 0 => .object "TeleStack$UpFrames"
  | 1 => .object "TeleStack$Reports"
  | 2 => .object "TeleStack$Ground"
  | 3 => .object "TeleStack$Craft"
  | 4 => .array (.object "TeleStack$Stream")
  | 5 => .array (.object "TeleStack$Assembler")
  | 6 => .object "TeleStack$DownFrame"
  | _ => .object "TeleStack$Received"
theorem nm_T : ∀ a, a < 8 → ∀ b, b < 8 → a ≠ b → (FT_T a).2.1 ≠ (FT_T b).2.1 := by decide +kernel
theorem ty_T : ∀ k, k < 8 → parseFieldDescriptor (FT_T k).2.2.1 = some (Fy_T k) := by decide +kernel
theorem uw_T : ∀ w ∈ u_ws R_T FT_T 8, w ∈ Gw := fun w h => gw_in ((by decide +kernel : ∀ w ∈ u_ws R_T FT_T 8, w ∈ lw_tbl) w h) ((by decide +kernel : ∀ w ∈ u_ws R_T FT_T 8, goodWord w = true) w h)
abbrev R_As : String := "TeleStack$Assembler"
def FT_As : u_T := fun k => match k with
  | 0 => ("TeleStack$Assembler", "channel", "I", true)
  | 1 => ("TeleStack$Assembler", "awaited", "I", false)
  | 2 => ("TeleStack$Assembler", "inStep", "Z", false)
  | 3 => ("TeleStack$Assembler", "cellsRead", "I", false)
  | 4 => ("TeleStack$Assembler", "tag", "I", false)
  | 5 => ("TeleStack$Assembler", "length", "I", false)
  | _ => ("TeleStack$Assembler", "sum", "I", false)
def Fy_As : Nat → FieldType := fun k => match k with
  | 0 => .int
  | 1 => .int
  | 2 => .boolean
  | 3 => .int
  | 4 => .int
  | 5 => .int
  | _ => .int
theorem nm_As : ∀ a, a < 7 → ∀ b, b < 7 → a ≠ b → (FT_As a).2.1 ≠ (FT_As b).2.1 := by decide +kernel
theorem ty_As : ∀ k, k < 7 → parseFieldDescriptor (FT_As k).2.2.1 = some (Fy_As k) := by decide +kernel
theorem uw_As : ∀ w ∈ u_ws R_As FT_As 7, w ∈ Gw := fun w h => gw_in ((by decide +kernel : ∀ w ∈ u_ws R_As FT_As 7, w ∈ lw_tbl) w h) ((by decide +kernel : ∀ w ∈ u_ws R_As FT_As 7, goodWord w = true) w h)
abbrev R_Cr : String := "TeleStack$Craft"
def FT_Cr : u_T := fun k => match k with
  | 0 => ("TeleStack$Craft", "queue", "[I", true)
  | 1 => ("TeleStack$Craft", "queued", "I", false)
  | 2 => ("TeleStack$Craft", "gate", "I", false)
  | 3 => ("TeleStack$Craft", "expected", "I", false)
  | _ => ("TeleStack$Craft", "again", "Z", false)
def Fy_Cr : Nat → FieldType := fun k => match k with
  | 0 => .array .int
  | 1 => .int
  | 2 => .int
  | 3 => .int
  | _ => .boolean
theorem nm_Cr : ∀ a, a < 5 → ∀ b, b < 5 → a ≠ b → (FT_Cr a).2.1 ≠ (FT_Cr b).2.1 := by decide +kernel
theorem ty_Cr : ∀ k, k < 5 → parseFieldDescriptor (FT_Cr k).2.2.1 = some (Fy_Cr k) := by decide +kernel
theorem uw_Cr : ∀ w ∈ u_ws R_Cr FT_Cr 5, w ∈ Gw := fun w h => gw_in ((by decide +kernel : ∀ w ∈ u_ws R_Cr FT_Cr 5, w ∈ lw_tbl) w h) ((by decide +kernel : ∀ w ∈ u_ws R_Cr FT_Cr 5, goodWord w = true) w h)
abbrev R_Df : String := "TeleStack$DownFrame"
def FT_Df : u_T := fun k => match k with
  | 0 => ("TeleStack$DownFrame", "cells", "[I", true)
  | 1 => ("TeleStack$DownFrame", "count", "I", false)
  | _ => ("TeleStack$DownFrame", "pointer", "I", false)
def Fy_Df : Nat → FieldType := fun k => match k with
  | 0 => .array .int
  | 1 => .int
  | _ => .int
theorem nm_Df : ∀ a, a < 3 → ∀ b, b < 3 → a ≠ b → (FT_Df a).2.1 ≠ (FT_Df b).2.1 := by decide +kernel
theorem ty_Df : ∀ k, k < 3 → parseFieldDescriptor (FT_Df k).2.2.1 = some (Fy_Df k) := by decide +kernel
theorem uw_Df : ∀ w ∈ u_ws R_Df FT_Df 3, w ∈ Gw := fun w h => gw_in ((by decide +kernel : ∀ w ∈ u_ws R_Df FT_Df 3, w ∈ lw_tbl) w h) ((by decide +kernel : ∀ w ∈ u_ws R_Df FT_Df 3, goodWord w = true) w h)
abbrev R_Gr : String := "TeleStack$Ground"
def FT_Gr : u_T := fun k => match k with
  | 0 => ("TeleStack$Ground", "pending", "LTeleStack$Unacknowledged;", true)
  | 1 => ("TeleStack$Ground", "mode", "I", false)
  | 2 => ("TeleStack$Ground", "next", "I", false)
  | 3 => ("TeleStack$Ground", "oldest", "I", false)
  | 4 => ("TeleStack$Ground", "slotFull", "Z", false)
  | 5 => ("TeleStack$Ground", "slot", "I", false)
  | 6 => ("TeleStack$Ground", "tries", "I", false)
  | 7 => ("TeleStack$Ground", "timer", "I", false)
  | 8 => ("TeleStack$Ground", "reason", "I", false)
  | 9 => ("TeleStack$Ground", "window", "I", false)
  | 10 => ("TeleStack$Ground", "limit", "I", false)
  | 11 => ("TeleStack$Ground", "span", "I", false)
  | 12 => ("TeleStack$Ground", "startKind", "I", false)
  | _ => ("TeleStack$Ground", "startDue", "Z", false)
def Fy_Gr : Nat → FieldType := fun k => match k with
  | 0 => .object "TeleStack$Unacknowledged"
  | 1 => .int
  | 2 => .int
  | 3 => .int
  | 4 => .boolean
  | 5 => .int
  | 6 => .int
  | 7 => .int
  | 8 => .int
  | 9 => .int
  | 10 => .int
  | 11 => .int
  | 12 => .int
  | _ => .boolean
theorem nm_Gr : ∀ a, a < 14 → ∀ b, b < 14 → a ≠ b → (FT_Gr a).2.1 ≠ (FT_Gr b).2.1 := by decide +kernel
theorem ty_Gr : ∀ k, k < 14 → parseFieldDescriptor (FT_Gr k).2.2.1 = some (Fy_Gr k) := by decide +kernel
theorem uw_Gr : ∀ w ∈ u_ws R_Gr FT_Gr 14, w ∈ Gw := fun w h => gw_in ((by decide +kernel : ∀ w ∈ u_ws R_Gr FT_Gr 14, w ∈ lw_tbl) w h) ((by decide +kernel : ∀ w ∈ u_ws R_Gr FT_Gr 14, goodWord w = true) w h)
abbrev R_Rc : String := "TeleStack$Received"
def FT_Rc : u_T := fun k => match k with
  | 0 => ("TeleStack$Received", "channels", "[I", true)
  | 1 => ("TeleStack$Received", "tags", "[I", true)
  | 2 => ("TeleStack$Received", "lengths", "[I", true)
  | 3 => ("TeleStack$Received", "sums", "[I", true)
  | _ => ("TeleStack$Received", "size", "I", false)
def Fy_Rc : Nat → FieldType := fun k => match k with
  | 0 => .array .int
  | 1 => .array .int
  | 2 => .array .int
  | 3 => .array .int
  | _ => .int
theorem nm_Rc : ∀ a, a < 5 → ∀ b, b < 5 → a ≠ b → (FT_Rc a).2.1 ≠ (FT_Rc b).2.1 := by decide +kernel
theorem ty_Rc : ∀ k, k < 5 → parseFieldDescriptor (FT_Rc k).2.2.1 = some (Fy_Rc k) := by decide +kernel
theorem uw_Rc : ∀ w ∈ u_ws R_Rc FT_Rc 5, w ∈ Gw := fun w h => gw_in ((by decide +kernel : ∀ w ∈ u_ws R_Rc FT_Rc 5, w ∈ lw_tbl) w h) ((by decide +kernel : ∀ w ∈ u_ws R_Rc FT_Rc 5, goodWord w = true) w h)
abbrev R_Rp : String := "TeleStack$Reports"
def FT_Rp : u_T := fun k => match k with
  | 0 => ("TeleStack$Reports", "expected", "[I", true)
  | 1 => ("TeleStack$Reports", "again", "[Z", true)
  | 2 => ("TeleStack$Reports", "gates", "[I", true)
  | _ => ("TeleStack$Reports", "size", "I", false)
def Fy_Rp : Nat → FieldType := fun k => match k with
  | 0 => .array .int
  | 1 => .array .boolean
  | 2 => .array .int
  | _ => .int
theorem nm_Rp : ∀ a, a < 4 → ∀ b, b < 4 → a ≠ b → (FT_Rp a).2.1 ≠ (FT_Rp b).2.1 := by decide +kernel
theorem ty_Rp : ∀ k, k < 4 → parseFieldDescriptor (FT_Rp k).2.2.1 = some (Fy_Rp k) := by decide +kernel
theorem uw_Rp : ∀ w ∈ u_ws R_Rp FT_Rp 4, w ∈ Gw := fun w h => gw_in ((by decide +kernel : ∀ w ∈ u_ws R_Rp FT_Rp 4, w ∈ lw_tbl) w h) ((by decide +kernel : ∀ w ∈ u_ws R_Rp FT_Rp 4, goodWord w = true) w h)
abbrev R_St : String := "TeleStack$Stream"
def FT_St : u_T := fun k => match k with
  | 0 => ("TeleStack$Stream", "cells", "[I", true)
  | 1 => ("TeleStack$Stream", "tags", "[Z", true)
  | 2 => ("TeleStack$Stream", "size", "I", false)
  | _ => ("TeleStack$Stream", "count", "I", false)
def Fy_St : Nat → FieldType := fun k => match k with
  | 0 => .array .int
  | 1 => .array .boolean
  | 2 => .int
  | _ => .int
theorem nm_St : ∀ a, a < 4 → ∀ b, b < 4 → a ≠ b → (FT_St a).2.1 ≠ (FT_St b).2.1 := by decide +kernel
theorem ty_St : ∀ k, k < 4 → parseFieldDescriptor (FT_St k).2.2.1 = some (Fy_St k) := by decide +kernel
theorem uw_St : ∀ w ∈ u_ws R_St FT_St 4, w ∈ Gw := fun w h => gw_in ((by decide +kernel : ∀ w ∈ u_ws R_St FT_St 4, w ∈ lw_tbl) w h) ((by decide +kernel : ∀ w ∈ u_ws R_St FT_St 4, goodWord w = true) w h)
abbrev R_Un : String := "TeleStack$Unacknowledged"
def FT_Un : u_T := fun k => match k with
  | 0 => ("TeleStack$Unacknowledged", "numbers", "[I", true)
  | 1 => ("TeleStack$Unacknowledged", "commands", "[I", true)
  | 2 => ("TeleStack$Unacknowledged", "marks", "[Z", true)
  | _ => ("TeleStack$Unacknowledged", "size", "I", false)
def Fy_Un : Nat → FieldType := fun k => match k with
  | 0 => .array .int
  | 1 => .array .int
  | 2 => .array .boolean
  | _ => .int
theorem nm_Un : ∀ a, a < 4 → ∀ b, b < 4 → a ≠ b → (FT_Un a).2.1 ≠ (FT_Un b).2.1 := by decide +kernel
theorem ty_Un : ∀ k, k < 4 → parseFieldDescriptor (FT_Un k).2.2.1 = some (Fy_Un k) := by decide +kernel
theorem uw_Un : ∀ w ∈ u_ws R_Un FT_Un 4, w ∈ Gw := fun w h => gw_in ((by decide +kernel : ∀ w ∈ u_ws R_Un FT_Un 4, w ∈ lw_tbl) w h) ((by decide +kernel : ∀ w ∈ u_ws R_Un FT_Un 4, goodWord w = true) w h)
abbrev R_Uf : String := "TeleStack$UpFrames"
def FT_Uf : u_T := fun k => match k with
  | 0 => ("TeleStack$UpFrames", "kinds", "[I", true)
  | 1 => ("TeleStack$UpFrames", "numbers", "[I", true)
  | 2 => ("TeleStack$UpFrames", "commands", "[I", true)
  | _ => ("TeleStack$UpFrames", "size", "I", false)
def Fy_Uf : Nat → FieldType := fun k => match k with
  | 0 => .array .int
  | 1 => .array .int
  | 2 => .array .int
  | _ => .int
theorem nm_Uf : ∀ a, a < 4 → ∀ b, b < 4 → a ≠ b → (FT_Uf a).2.1 ≠ (FT_Uf b).2.1 := by decide +kernel
theorem ty_Uf : ∀ k, k < 4 → parseFieldDescriptor (FT_Uf k).2.2.1 = some (Fy_Uf k) := by decide +kernel
theorem uw_Uf : ∀ w ∈ u_ws R_Uf FT_Uf 4, w ∈ Gw := fun w h => gw_in ((by decide +kernel : ∀ w ∈ u_ws R_Uf FT_Uf 4, w ∈ lw_tbl) w h) ((by decide +kernel : ∀ w ∈ u_ws R_Uf FT_Uf 4, goodWord w = true) w h)
abbrev R_M : String := "TeleStackModel"
def FT_M : u_T := fun k => match k with
  | 0 => ("TeleStackModel", "thrown", "I", false)
  | 1 => ("TeleStackModel", "mode", "I", false)
  | 2 => ("TeleStackModel", "next", "I", false)
  | 3 => ("TeleStackModel", "oldest", "I", false)
  | 4 => ("TeleStackModel", "tries", "I", false)
  | 5 => ("TeleStackModel", "timer", "I", false)
  | 6 => ("TeleStackModel", "reason", "I", false)
  | 7 => ("TeleStackModel", "window", "I", false)
  | 8 => ("TeleStackModel", "limit", "I", false)
  | 9 => ("TeleStackModel", "span", "I", false)
  | 10 => ("TeleStackModel", "full", "Z", false)
  | 11 => ("TeleStackModel", "slot", "I", false)
  | 12 => ("TeleStackModel", "due", "Z", false)
  | 13 => ("TeleStackModel", "begins", "I", false)
  | 14 => ("TeleStackModel", "open", "I", false)
  | 15 => ("TeleStackModel", "commands", "[I", true)
  | 16 => ("TeleStackModel", "marked", "[Z", true)
  | 17 => ("TeleStackModel", "flights", "I", false)
  | 18 => ("TeleStackModel", "kind", "[I", true)
  | 19 => ("TeleStackModel", "number", "[I", true)
  | 20 => ("TeleStackModel", "word", "[I", true)
  | 21 => ("TeleStackModel", "gate", "I", false)
  | 22 => ("TeleStackModel", "expected", "I", false)
  | 23 => ("TeleStackModel", "again", "Z", false)
  | 24 => ("TeleStackModel", "queued", "I", false)
  | 25 => ("TeleStackModel", "queue", "[I", true)
  | 26 => ("TeleStackModel", "reports", "I", false)
  | 27 => ("TeleStackModel", "report", "[I", true)
  | 28 => ("TeleStackModel", "from", "[I", true)
  | 29 => ("TeleStackModel", "cells", "[I", true)
  | 30 => ("TeleStackModel", "stream", "[I", true)
  | 31 => ("TeleStackModel", "made", "[I", true)
  | 32 => ("TeleStackModel", "awaits", "[I", true)
  | 33 => ("TeleStackModel", "lostStep", "[Z", true)
  | 34 => ("TeleStackModel", "has", "[I", true)
  | 35 => ("TeleStackModel", "tag", "[I", true)
  | 36 => ("TeleStackModel", "size", "[I", true)
  | 37 => ("TeleStackModel", "sum", "[I", true)
  | 38 => ("TeleStackModel", "frame", "[I", true)
  | 39 => ("TeleStackModel", "packets", "I", false)
  | _ => ("TeleStackModel", "got", "[I", true)
def Fy_M : Nat → FieldType := fun k => match k with
  | 0 => .int
  | 1 => .int
  | 2 => .int
  | 3 => .int
  | 4 => .int
  | 5 => .int
  | 6 => .int
  | 7 => .int
  | 8 => .int
  | 9 => .int
  | 10 => .boolean
  | 11 => .int
  | 12 => .boolean
  | 13 => .int
  | 14 => .int
  | 15 => .array .int
  | 16 => .array .boolean
  | 17 => .int
  | 18 => .array .int
  | 19 => .array .int
  | 20 => .array .int
  | 21 => .int
  | 22 => .int
  | 23 => .boolean
  | 24 => .int
  | 25 => .array .int
  | 26 => .int
  | 27 => .array .int
  | 28 => .array .int
  | 29 => .array .int
  | 30 => .array .int
  | 31 => .array .int
  | 32 => .array .int
  | 33 => .array .boolean
  | 34 => .array .int
  | 35 => .array .int
  | 36 => .array .int
  | 37 => .array .int
  | 38 => .array .int
  | 39 => .int
  | _ => .array .int
theorem nm_M : ∀ a, a < 41 → ∀ b, b < 41 → a ≠ b → (FT_M a).2.1 ≠ (FT_M b).2.1 := by decide +kernel
theorem ty_M : ∀ k, k < 41 → parseFieldDescriptor (FT_M k).2.2.1 = some (Fy_M k) := by decide +kernel
theorem uw_M : ∀ w ∈ u_ws R_M FT_M 41, w ∈ Gw := fun w h => gw_in ((by decide +kernel : ∀ w ∈ u_ws R_M FT_M 41, w ∈ lw_tbl) w h) ((by decide +kernel : ∀ w ∈ u_ws R_M FT_M 41, goodWord w = true) w h)
abbrev R_L : String := "TeleStackLaw"
abbrev R_Ma : String := "java/lang/Math"
abbrev vwCl : List vw_C := [(R_T, FT_T, 8), (R_As, FT_As, 7), (R_Cr, FT_Cr, 5), (R_Df, FT_Df, 3), (R_Gr, FT_Gr, 14), (R_Rc, FT_Rc, 5), (R_Rp, FT_Rp, 4), (R_St, FT_St, 4), (R_Un, FT_Un, 4), (R_Uf, FT_Uf, 4), (R_M, FT_M, 41)]
abbrev b_T_init : ByteArray := prog_1_method_1_code
def y_T_init : MethodName := ⟨R_T, "<init>", "()V"⟩
abbrev b_T_tune : ByteArray := prog_1_method_2_code
def y_T_tune : MethodName := ⟨R_T, "tune", "(III)V"⟩
abbrev b_T_number : ByteArray := prog_1_method_3_code
def y_T_number : MethodName := ⟨R_T, "number", "(I)V"⟩
abbrev b_T_begin : ByteArray := prog_1_method_4_code
def y_T_begin : MethodName := ⟨R_T, "begin", "(I)V"⟩
abbrev b_T_end : ByteArray := prog_1_method_5_code
def y_T_end : MethodName := ⟨R_T, "end", "()V"⟩
abbrev b_T_command : ByteArray := prog_1_method_6_code
def y_T_command : MethodName := ⟨R_T, "command", "(I)Z"⟩
abbrev b_T_tick : ByteArray := prog_1_method_7_code
def y_T_tick : MethodName := ⟨R_T, "tick", "()I"⟩
abbrev b_T_raise : ByteArray := prog_1_method_8_code
def y_T_raise : MethodName := ⟨R_T, "raise", "(I)V"⟩
abbrev b_T_drop : ByteArray := prog_1_method_9_code
def y_T_drop : MethodName := ⟨R_T, "drop", "(I)V"⟩
abbrev b_T_take : ByteArray := prog_1_method_10_code
def y_T_take : MethodName := ⟨R_T, "take", "()I"⟩
abbrev b_T_report : ByteArray := prog_1_method_11_code
def y_T_report : MethodName := ⟨R_T, "report", "()Z"⟩
abbrev b_T_answer : ByteArray := prog_1_method_12_code
def y_T_answer : MethodName := ⟨R_T, "answer", "(IZ)V"⟩
abbrev b_T_packet : ByteArray := prog_1_method_13_code
def y_T_packet : MethodName := ⟨R_T, "packet", "(III)Z"⟩
abbrev b_T_frame : ByteArray := prog_1_method_14_code
def y_T_frame : MethodName := ⟨R_T, "frame", "(IZ)I"⟩
abbrev b_T_ground : ByteArray := prog_1_method_15_code
def y_T_ground : MethodName := ⟨R_T, "ground", "(I)I"⟩
abbrev b_T_craft : ByteArray := prog_1_method_16_code
def y_T_craft : MethodName := ⟨R_T, "craft", "(I)I"⟩
abbrev b_T_flight : ByteArray := prog_1_method_17_code
def y_T_flight : MethodName := ⟨R_T, "flight", "(II)I"⟩
abbrev b_T_packets : ByteArray := prog_1_method_18_code
def y_T_packets : MethodName := ⟨R_T, "packets", "()I"⟩
abbrev b_T_got : ByteArray := prog_1_method_19_code
def y_T_got : MethodName := ⟨R_T, "got", "(II)I"⟩
abbrev b_T_isWithin : ByteArray := prog_1_method_20_code
def y_T_isWithin : MethodName := ⟨R_T, "isWithin", "(III)Z"⟩
abbrev b_T_isChannel : ByteArray := prog_1_method_21_code
def y_T_isChannel : MethodName := ⟨R_T, "isChannel", "(I)Z"⟩
abbrev b_T_following : ByteArray := prog_1_method_22_code
def y_T_following : MethodName := ⟨R_T, "following", "(I)I"⟩
abbrev b_T_distance : ByteArray := prog_1_method_23_code
def y_T_distance : MethodName := ⟨R_T, "distance", "(II)I"⟩
abbrev b_M_init : ByteArray := prog_12_method_1_code
def y_M_init : MethodName := ⟨R_M, "<init>", "()V"⟩
abbrev b_M_thrown : ByteArray := prog_12_method_2_code
def y_M_thrown : MethodName := ⟨R_M, "thrown", "()I"⟩
abbrev b_M_outside : ByteArray := prog_12_method_3_code
def y_M_outside : MethodName := ⟨R_M, "outside", "(III)Z"⟩
abbrev b_M_fails : ByteArray := prog_12_method_4_code
def y_M_fails : MethodName := ⟨R_M, "fails", "(ZZ)Z"⟩
abbrev b_M_tune : ByteArray := prog_12_method_5_code
def y_M_tune : MethodName := ⟨R_M, "tune", "(III)V"⟩
abbrev b_M_number : ByteArray := prog_12_method_6_code
def y_M_number : MethodName := ⟨R_M, "number", "(I)V"⟩
abbrev b_M_begin : ByteArray := prog_12_method_7_code
def y_M_begin : MethodName := ⟨R_M, "begin", "(I)V"⟩
abbrev b_M_ends : ByteArray := prog_12_method_8_code
def y_M_ends : MethodName := ⟨R_M, "ends", "()V"⟩
abbrev b_M_alarm : ByteArray := prog_12_method_9_code
def y_M_alarm : MethodName := ⟨R_M, "alarm", "(I)V"⟩
abbrev b_M_end : ByteArray := prog_12_method_10_code
def y_M_end : MethodName := ⟨R_M, "end", "()V"⟩
abbrev b_M_command : ByteArray := prog_12_method_11_code
def y_M_command : MethodName := ⟨R_M, "command", "(I)Z"⟩
abbrev b_M_resend : ByteArray := prog_12_method_12_code
def y_M_resend : MethodName := ⟨R_M, "resend", "(I)V"⟩
abbrev b_M_sends : ByteArray := prog_12_method_13_code
def y_M_sends : MethodName := ⟨R_M, "sends", "(III)I"⟩
abbrev b_M_rings : ByteArray := prog_12_method_14_code
def y_M_rings : MethodName := ⟨R_M, "rings", "()V"⟩
abbrev b_M_tick : ByteArray := prog_12_method_15_code
def y_M_tick : MethodName := ⟨R_M, "tick", "()I"⟩
abbrev b_M_out : ByteArray := prog_12_method_16_code
def y_M_out : MethodName := ⟨R_M, "out", "(I)V"⟩
abbrev b_M_raise : ByteArray := prog_12_method_17_code
def y_M_raise : MethodName := ⟨R_M, "raise", "(I)V"⟩
abbrev b_M_comes : ByteArray := prog_12_method_18_code
def y_M_comes : MethodName := ⟨R_M, "comes", "(II)V"⟩
abbrev b_M_drop : ByteArray := prog_12_method_19_code
def y_M_drop : MethodName := ⟨R_M, "drop", "(I)V"⟩
abbrev b_M_take : ByteArray := prog_12_method_20_code
def y_M_take : MethodName := ⟨R_M, "take", "()I"⟩
abbrev b_M_report : ByteArray := prog_12_method_21_code
def y_M_report : MethodName := ⟨R_M, "report", "()Z"⟩
abbrev b_M_answer : ByteArray := prog_12_method_22_code
def y_M_answer : MethodName := ⟨R_M, "answer", "(IZ)V"⟩
abbrev b_M_read : ByteArray := prog_12_method_23_code
def y_M_read : MethodName := ⟨R_M, "read", "(IZZ)V"⟩
abbrev b_M_puts : ByteArray := prog_12_method_24_code
def y_M_puts : MethodName := ⟨R_M, "puts", "(II)V"⟩
abbrev b_M_packet : ByteArray := prog_12_method_25_code
def y_M_packet : MethodName := ⟨R_M, "packet", "(III)Z"⟩
abbrev b_M_frame : ByteArray := prog_12_method_26_code
def y_M_frame : MethodName := ⟨R_M, "frame", "(IZ)I"⟩
abbrev b_M_comesDown : ByteArray := prog_12_method_27_code
def y_M_comesDown : MethodName := ⟨R_M, "comesDown", "(III)V"⟩
abbrev b_M_readCell : ByteArray := prog_12_method_28_code
def y_M_readCell : MethodName := ⟨R_M, "readCell", "(II)V"⟩
abbrev b_M_marks : ByteArray := prog_12_method_29_code
def y_M_marks : MethodName := ⟨R_M, "marks", "()I"⟩
abbrev b_M_ground : ByteArray := prog_12_method_30_code
def y_M_ground : MethodName := ⟨R_M, "ground", "(I)I"⟩
abbrev b_M_craft : ByteArray := prog_12_method_31_code
def y_M_craft : MethodName := ⟨R_M, "craft", "(I)I"⟩
abbrev b_M_flight : ByteArray := prog_12_method_32_code
def y_M_flight : MethodName := ⟨R_M, "flight", "(II)I"⟩
abbrev b_M_packets : ByteArray := prog_12_method_33_code
def y_M_packets : MethodName := ⟨R_M, "packets", "()I"⟩
abbrev b_M_got : ByteArray := prog_12_method_34_code
def y_M_got : MethodName := ⟨R_M, "got", "(II)I"⟩
abbrev b_As_init : ByteArray := prog_2_method_1_code
def y_As_init : MethodName := ⟨R_As, "<init>", "(I)V"⟩
abbrev b_As_receive : ByteArray := prog_2_method_2_code
def y_As_receive : MethodName := ⟨R_As, "receive", "(LTeleStack$DownFrame;LTeleStack$Received;)V"⟩
abbrev b_As_read : ByteArray := prog_2_method_3_code
def y_As_read : MethodName := ⟨R_As, "read", "(ILTeleStack$Received;)V"⟩
abbrev b_Cr_init : ByteArray := prog_3_method_1_code
def y_Cr_init : MethodName := ⟨R_Cr, "<init>", "()V"⟩
abbrev b_Cr_queued : ByteArray := prog_3_method_2_code
def y_Cr_queued : MethodName := ⟨R_Cr, "queued", "()I"⟩
abbrev b_Cr_takeFirst : ByteArray := prog_3_method_3_code
def y_Cr_takeFirst : MethodName := ⟨R_Cr, "takeFirst", "()I"⟩
abbrev b_Cr_receive : ByteArray := prog_3_method_4_code
def y_Cr_receive : MethodName := ⟨R_Cr, "receive", "(III)V"⟩
abbrev b_Cr_tell : ByteArray := prog_3_method_5_code
def y_Cr_tell : MethodName := ⟨R_Cr, "tell", "(I)I"⟩
abbrev b_Cr_reopen : ByteArray := prog_3_method_6_code
def y_Cr_reopen : MethodName := ⟨R_Cr, "reopen", "()V"⟩
abbrev b_Cr_receiveCommand : ByteArray := prog_3_method_7_code
def y_Cr_receiveCommand : MethodName := ⟨R_Cr, "receiveCommand", "(II)V"⟩
abbrev b_Cr_receiveExpected : ByteArray := prog_3_method_8_code
def y_Cr_receiveExpected : MethodName := ⟨R_Cr, "receiveExpected", "(I)V"⟩
abbrev b_Df_init : ByteArray := prog_4_method_1_code
def y_Df_init : MethodName := ⟨R_Df, "<init>", "()V"⟩
abbrev b_Gr_init : ByteArray := prog_5_method_1_code
def y_Gr_init : MethodName := ⟨R_Gr, "<init>", "()V"⟩
abbrev b_Gr_isIdle : ByteArray := prog_5_method_2_code
def y_Gr_isIdle : MethodName := ⟨R_Gr, "isIdle", "()Z"⟩
abbrev b_Gr_takesCommands : ByteArray := prog_5_method_3_code
def y_Gr_takesCommands : MethodName := ⟨R_Gr, "takesCommands", "()Z"⟩
abbrev b_Gr_adjust : ByteArray := prog_5_method_4_code
def y_Gr_adjust : MethodName := ⟨R_Gr, "adjust", "(III)V"⟩
abbrev b_Gr_renumber : ByteArray := prog_5_method_5_code
def y_Gr_renumber : MethodName := ⟨R_Gr, "renumber", "(I)V"⟩
abbrev b_Gr_start : ByteArray := prog_5_method_6_code
def y_Gr_start : MethodName := ⟨R_Gr, "start", "(I)V"⟩
abbrev b_Gr_finish : ByteArray := prog_5_method_7_code
def y_Gr_finish : MethodName := ⟨R_Gr, "finish", "()V"⟩
abbrev b_Gr_offer : ByteArray := prog_5_method_8_code
def y_Gr_offer : MethodName := ⟨R_Gr, "offer", "(I)Z"⟩
abbrev b_Gr_pass : ByteArray := prog_5_method_9_code
def y_Gr_pass : MethodName := ⟨R_Gr, "pass", "(LTeleStack$UpFrames;)I"⟩
abbrev b_Gr_hear : ByteArray := prog_5_method_10_code
def y_Gr_hear : MethodName := ⟨R_Gr, "hear", "(IZI)V"⟩
abbrev b_Gr_tell : ByteArray := prog_5_method_11_code
def y_Gr_tell : MethodName := ⟨R_Gr, "tell", "(I)I"⟩
abbrev b_Gr_isSending : ByteArray := prog_5_method_12_code
def y_Gr_isSending : MethodName := ⟨R_Gr, "isSending", "()Z"⟩
abbrev b_Gr_alarm : ByteArray := prog_5_method_13_code
def y_Gr_alarm : MethodName := ⟨R_Gr, "alarm", "(I)V"⟩
abbrev b_Gr_tryAgain : ByteArray := prog_5_method_14_code
def y_Gr_tryAgain : MethodName := ⟨R_Gr, "tryAgain", "()V"⟩
abbrev b_Gr_resend : ByteArray := prog_5_method_15_code
def y_Gr_resend : MethodName := ⟨R_Gr, "resend", "()V"⟩
abbrev b_Gr_runOut : ByteArray := prog_5_method_16_code
def y_Gr_runOut : MethodName := ⟨R_Gr, "runOut", "()V"⟩
abbrev b_Gr_sendStart : ByteArray := prog_5_method_17_code
def y_Gr_sendStart : MethodName := ⟨R_Gr, "sendStart", "(LTeleStack$UpFrames;)I"⟩
abbrev b_Gr_sendCommand : ByteArray := prog_5_method_18_code
def y_Gr_sendCommand : MethodName := ⟨R_Gr, "sendCommand", "(LTeleStack$UpFrames;)I"⟩
abbrev b_Gr_sendSlot : ByteArray := prog_5_method_19_code
def y_Gr_sendSlot : MethodName := ⟨R_Gr, "sendSlot", "(LTeleStack$UpFrames;)I"⟩
abbrev b_Gr_send : ByteArray := prog_5_method_20_code
def y_Gr_send : MethodName := ⟨R_Gr, "send", "(LTeleStack$UpFrames;III)I"⟩
abbrev b_Gr_hearAtStart : ByteArray := prog_5_method_21_code
def y_Gr_hearAtStart : MethodName := ⟨R_Gr, "hearAtStart", "(IZI)V"⟩
abbrev b_Gr_acknowledge : ByteArray := prog_5_method_22_code
def y_Gr_acknowledge : MethodName := ⟨R_Gr, "acknowledge", "(II)V"⟩
abbrev b_Gr_hearWithNonePending : ByteArray := prog_5_method_23_code
def y_Gr_hearWithNonePending : MethodName := ⟨R_Gr, "hearWithNonePending", "(ZI)V"⟩
abbrev b_Gr_hearWithSomePending : ByteArray := prog_5_method_24_code
def y_Gr_hearWithSomePending : MethodName := ⟨R_Gr, "hearWithSomePending", "(ZIZ)V"⟩
abbrev b_Rc_init : ByteArray := prog_6_method_1_code
def y_Rc_init : MethodName := ⟨R_Rc, "<init>", "()V"⟩
abbrev b_Rc_size : ByteArray := prog_6_method_2_code
def y_Rc_size : MethodName := ⟨R_Rc, "size", "()I"⟩
abbrev b_Rc_has : ByteArray := prog_6_method_3_code
def y_Rc_has : MethodName := ⟨R_Rc, "has", "(I)Z"⟩
abbrev b_Rc_tell : ByteArray := prog_6_method_4_code
def y_Rc_tell : MethodName := ⟨R_Rc, "tell", "(II)I"⟩
abbrev b_Rc_add : ByteArray := prog_6_method_5_code
def y_Rc_add : MethodName := ⟨R_Rc, "add", "(IIII)V"⟩
abbrev b_Rp_init : ByteArray := prog_7_method_1_code
def y_Rp_init : MethodName := ⟨R_Rp, "<init>", "()V"⟩
abbrev b_Rp_size : ByteArray := prog_7_method_2_code
def y_Rp_size : MethodName := ⟨R_Rp, "size", "()I"⟩
abbrev b_Rp_has : ByteArray := prog_7_method_3_code
def y_Rp_has : MethodName := ⟨R_Rp, "has", "(I)Z"⟩
abbrev b_Rp_expected : ByteArray := prog_7_method_4_code
def y_Rp_expected : MethodName := ⟨R_Rp, "expected", "(I)I"⟩
abbrev b_Rp_again : ByteArray := prog_7_method_5_code
def y_Rp_again : MethodName := ⟨R_Rp, "again", "(I)Z"⟩
abbrev b_Rp_gate : ByteArray := prog_7_method_6_code
def y_Rp_gate : MethodName := ⟨R_Rp, "gate", "(I)I"⟩
abbrev b_Rp_add : ByteArray := prog_7_method_7_code
def y_Rp_add : MethodName := ⟨R_Rp, "add", "(LTeleStack$Craft;)Z"⟩
abbrev b_Rp_remove : ByteArray := prog_7_method_8_code
def y_Rp_remove : MethodName := ⟨R_Rp, "remove", "(I)V"⟩
abbrev b_St_init : ByteArray := prog_8_method_1_code
def y_St_init : MethodName := ⟨R_St, "<init>", "()V"⟩
abbrev b_St_size : ByteArray := prog_8_method_2_code
def y_St_size : MethodName := ⟨R_St, "size", "()I"⟩
abbrev b_St_write : ByteArray := prog_8_method_3_code
def y_St_write : MethodName := ⟨R_St, "write", "(II)Z"⟩
abbrev b_St_fill : ByteArray := prog_8_method_4_code
def y_St_fill : MethodName := ⟨R_St, "fill", "(LTeleStack$DownFrame;)V"⟩
abbrev b_St_writeIdle : ByteArray := prog_8_method_5_code
def y_St_writeIdle : MethodName := ⟨R_St, "writeIdle", "()V"⟩
abbrev b_St_writeHead : ByteArray := prog_8_method_6_code
def y_St_writeHead : MethodName := ⟨R_St, "writeHead", "(II)V"⟩
abbrev b_St_put : ByteArray := prog_8_method_7_code
def y_St_put : MethodName := ⟨R_St, "put", "(IZ)V"⟩
abbrev b_St_removeFrame : ByteArray := prog_8_method_8_code
def y_St_removeFrame : MethodName := ⟨R_St, "removeFrame", "()V"⟩
abbrev b_Un_init : ByteArray := prog_9_method_1_code
def y_Un_init : MethodName := ⟨R_Un, "<init>", "()V"⟩
abbrev b_Un_size : ByteArray := prog_9_method_2_code
def y_Un_size : MethodName := ⟨R_Un, "size", "()I"⟩
abbrev b_Un_numberOf : ByteArray := prog_9_method_3_code
def y_Un_numberOf : MethodName := ⟨R_Un, "numberOf", "(I)I"⟩
abbrev b_Un_commandOf : ByteArray := prog_9_method_4_code
def y_Un_commandOf : MethodName := ⟨R_Un, "commandOf", "(I)I"⟩
abbrev b_Un_add : ByteArray := prog_9_method_5_code
def y_Un_add : MethodName := ⟨R_Un, "add", "(II)V"⟩
abbrev b_Un_removeFirst : ByteArray := prog_9_method_6_code
def y_Un_removeFirst : MethodName := ⟨R_Un, "removeFirst", "(I)V"⟩
abbrev b_Un_clear : ByteArray := prog_9_method_7_code
def y_Un_clear : MethodName := ⟨R_Un, "clear", "()V"⟩
abbrev b_Un_markAll : ByteArray := prog_9_method_8_code
def y_Un_markAll : MethodName := ⟨R_Un, "markAll", "()V"⟩
abbrev b_Un_unmark : ByteArray := prog_9_method_9_code
def y_Un_unmark : MethodName := ⟨R_Un, "unmark", "(I)V"⟩
abbrev b_Un_firstMarked : ByteArray := prog_9_method_10_code
def y_Un_firstMarked : MethodName := ⟨R_Un, "firstMarked", "()I"⟩
abbrev b_Un_countMarked : ByteArray := prog_9_method_11_code
def y_Un_countMarked : MethodName := ⟨R_Un, "countMarked", "()I"⟩
abbrev b_Uf_init : ByteArray := prog_10_method_1_code
def y_Uf_init : MethodName := ⟨R_Uf, "<init>", "()V"⟩
abbrev b_Uf_size : ByteArray := prog_10_method_2_code
def y_Uf_size : MethodName := ⟨R_Uf, "size", "()I"⟩
abbrev b_Uf_has : ByteArray := prog_10_method_3_code
def y_Uf_has : MethodName := ⟨R_Uf, "has", "(I)Z"⟩
abbrev b_Uf_kind : ByteArray := prog_10_method_4_code
def y_Uf_kind : MethodName := ⟨R_Uf, "kind", "(I)I"⟩
abbrev b_Uf_numberOf : ByteArray := prog_10_method_5_code
def y_Uf_numberOf : MethodName := ⟨R_Uf, "numberOf", "(I)I"⟩
abbrev b_Uf_commandOf : ByteArray := prog_10_method_6_code
def y_Uf_commandOf : MethodName := ⟨R_Uf, "commandOf", "(I)I"⟩
abbrev b_Uf_tell : ByteArray := prog_10_method_7_code
def y_Uf_tell : MethodName := ⟨R_Uf, "tell", "(II)I"⟩
abbrev b_Uf_add : ByteArray := prog_10_method_8_code
def y_Uf_add : MethodName := ⟨R_Uf, "add", "(III)V"⟩
abbrev b_Uf_remove : ByteArray := prog_10_method_9_code
def y_Uf_remove : MethodName := ⟨R_Uf, "remove", "(I)V"⟩
abbrev b_L_tune : ByteArray := method_3_code
def y_L_tune : MethodName := ⟨R_L, "tune", "(LTeleStack;III)I"⟩
abbrev b_L_number : ByteArray := method_4_code
def y_L_number : MethodName := ⟨R_L, "number", "(LTeleStack;I)I"⟩
abbrev b_L_begin : ByteArray := method_5_code
def y_L_begin : MethodName := ⟨R_L, "begin", "(LTeleStack;I)I"⟩
abbrev b_L_end : ByteArray := method_6_code
def y_L_end : MethodName := ⟨R_L, "end", "(LTeleStack;)I"⟩
abbrev b_L_command : ByteArray := method_7_code
def y_L_command : MethodName := ⟨R_L, "command", "(LTeleStack;I[J)I"⟩
abbrev b_L_raise : ByteArray := method_8_code
def y_L_raise : MethodName := ⟨R_L, "raise", "(LTeleStack;I)I"⟩
abbrev b_L_drop : ByteArray := method_9_code
def y_L_drop : MethodName := ⟨R_L, "drop", "(LTeleStack;I)I"⟩
abbrev b_L_take : ByteArray := method_10_code
def y_L_take : MethodName := ⟨R_L, "take", "(LTeleStack;[J)I"⟩
abbrev b_L_answer : ByteArray := method_11_code
def y_L_answer : MethodName := ⟨R_L, "answer", "(LTeleStack;IZ)I"⟩
abbrev b_L_packet : ByteArray := method_12_code
def y_L_packet : MethodName := ⟨R_L, "packet", "(LTeleStack;III[J)I"⟩
abbrev b_L_frame : ByteArray := method_13_code
def y_L_frame : MethodName := ⟨R_L, "frame", "(LTeleStack;IZ[J)I"⟩
abbrev b_L_ground : ByteArray := method_14_code
def y_L_ground : MethodName := ⟨R_L, "ground", "(LTeleStack;I[J)I"⟩
abbrev b_L_craft : ByteArray := method_15_code
def y_L_craft : MethodName := ⟨R_L, "craft", "(LTeleStack;I[J)I"⟩
abbrev b_L_flight : ByteArray := method_16_code
def y_L_flight : MethodName := ⟨R_L, "flight", "(LTeleStack;II[J)I"⟩
abbrev b_L_got : ByteArray := method_17_code
def y_L_got : MethodName := ⟨R_L, "got", "(LTeleStack;II[J)I"⟩
abbrev b_L_law : ByteArray := code
def y_L_law : MethodName := ⟨R_L, "law", "([I)Z"⟩
abbrev b_Ma_floorMod : ByteArray := prog_17_method_50_code
def y_Ma_floorMod : MethodName := ⟨R_Ma, "floorMod", "(II)I"⟩
abbrev b_Ma_max : ByteArray := prog_17_method_65_code
def y_Ma_max : MethodName := ⟨R_Ma, "max", "(II)I"⟩
