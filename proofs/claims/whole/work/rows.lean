section
-- ===== PART A: goes FIRST, ahead of the names: the tables' words, and 'selects' of the private methods out of them =====
/-- a private method of a class that the tables say can be made, by its rows of tables_1 -/
def lw_okq (q : MethodName × Nat) : Prop := (q.1.cls ≠ "java/lang/invoke/MethodHandle" ∧ q.1.cls ≠ "java/lang/invoke/VarHandle") ∧ Cond.instantiable q.1.cls q.2 ∈ tables_1 ∧ Cond.privateMethod q.1 ∈ tables_1 ∧ Cond.instanceMethod q.1 ∈ tables_1
theorem lw_p0 : lw_okq (⟨"TeleStack$Ground", "runOut", "()V"⟩, 14) := ⟨⟨by decide +kernel, by decide +kernel⟩, List.mem_of_getElem? (i := 69) (by decide +kernel), List.mem_of_getElem? (i := 287) (by decide +kernel), List.mem_of_getElem? (i := 288) (by decide +kernel)⟩
theorem lw_p1 : lw_okq (⟨"TeleStack$Ground", "alarm", "(I)V"⟩, 14) := ⟨⟨by decide +kernel, by decide +kernel⟩, List.mem_of_getElem? (i := 69) (by decide +kernel), List.mem_of_getElem? (i := 291) (by decide +kernel), List.mem_of_getElem? (i := 292) (by decide +kernel)⟩
theorem lw_p2 : lw_okq (⟨"TeleStack$Ground", "isSending", "()Z"⟩, 14) := ⟨⟨by decide +kernel, by decide +kernel⟩, List.mem_of_getElem? (i := 69) (by decide +kernel), List.mem_of_getElem? (i := 303) (by decide +kernel), List.mem_of_getElem? (i := 304) (by decide +kernel)⟩
theorem lw_p3 : lw_okq (⟨"TeleStack$Ground", "tryAgain", "()V"⟩, 14) := ⟨⟨by decide +kernel, by decide +kernel⟩, List.mem_of_getElem? (i := 69) (by decide +kernel), List.mem_of_getElem? (i := 307) (by decide +kernel), List.mem_of_getElem? (i := 308) (by decide +kernel)⟩
theorem lw_p4 : lw_okq (⟨"TeleStack$Ground", "sendStart", "(LTeleStack$UpFrames;)I"⟩, 14) := ⟨⟨by decide +kernel, by decide +kernel⟩, List.mem_of_getElem? (i := 69) (by decide +kernel), List.mem_of_getElem? (i := 315) (by decide +kernel), List.mem_of_getElem? (i := 316) (by decide +kernel)⟩
theorem lw_p5 : lw_okq (⟨"TeleStack$Ground", "send", "(LTeleStack$UpFrames;III)I"⟩, 14) := ⟨⟨by decide +kernel, by decide +kernel⟩, List.mem_of_getElem? (i := 69) (by decide +kernel), List.mem_of_getElem? (i := 319) (by decide +kernel), List.mem_of_getElem? (i := 320) (by decide +kernel)⟩
theorem lw_p6 : lw_okq (⟨"TeleStack$Ground", "sendCommand", "(LTeleStack$UpFrames;)I"⟩, 14) := ⟨⟨by decide +kernel, by decide +kernel⟩, List.mem_of_getElem? (i := 69) (by decide +kernel), List.mem_of_getElem? (i := 327) (by decide +kernel), List.mem_of_getElem? (i := 328) (by decide +kernel)⟩
theorem lw_p7 : lw_okq (⟨"TeleStack$Ground", "sendSlot", "(LTeleStack$UpFrames;)I"⟩, 14) := ⟨⟨by decide +kernel, by decide +kernel⟩, List.mem_of_getElem? (i := 69) (by decide +kernel), List.mem_of_getElem? (i := 351) (by decide +kernel), List.mem_of_getElem? (i := 352) (by decide +kernel)⟩
theorem lw_p8 : lw_okq (⟨"java/lang/Throwable", "fillInStackTrace", "(I)Ljava/lang/Throwable;"⟩, 6) := ⟨⟨by decide +kernel, by decide +kernel⟩, List.mem_of_getElem? (i := 430) (by decide +kernel), List.mem_of_getElem? (i := 428) (by decide +kernel), List.mem_of_getElem? (i := 429) (by decide +kernel)⟩
theorem lw_p9 : lw_okq (⟨"TeleStack$Craft", "receiveCommand", "(II)V"⟩, 5) := ⟨⟨by decide +kernel, by decide +kernel⟩, List.mem_of_getElem? (i := 137) (by decide +kernel), List.mem_of_getElem? (i := 582) (by decide +kernel), List.mem_of_getElem? (i := 583) (by decide +kernel)⟩
theorem lw_p10 : lw_okq (⟨"TeleStack$Craft", "receiveExpected", "(I)V"⟩, 5) := ⟨⟨by decide +kernel, by decide +kernel⟩, List.mem_of_getElem? (i := 137) (by decide +kernel), List.mem_of_getElem? (i := 586) (by decide +kernel), List.mem_of_getElem? (i := 587) (by decide +kernel)⟩
theorem lw_p11 : lw_okq (⟨"TeleStack$Craft", "reopen", "()V"⟩, 5) := ⟨⟨by decide +kernel, by decide +kernel⟩, List.mem_of_getElem? (i := 137) (by decide +kernel), List.mem_of_getElem? (i := 591) (by decide +kernel), List.mem_of_getElem? (i := 592) (by decide +kernel)⟩
theorem lw_p12 : lw_okq (⟨"TeleStack$Ground", "hearAtStart", "(IZI)V"⟩, 14) := ⟨⟨by decide +kernel, by decide +kernel⟩, List.mem_of_getElem? (i := 69) (by decide +kernel), List.mem_of_getElem? (i := 666) (by decide +kernel), List.mem_of_getElem? (i := 667) (by decide +kernel)⟩
theorem lw_p13 : lw_okq (⟨"TeleStack$Ground", "acknowledge", "(II)V"⟩, 14) := ⟨⟨by decide +kernel, by decide +kernel⟩, List.mem_of_getElem? (i := 69) (by decide +kernel), List.mem_of_getElem? (i := 671) (by decide +kernel), List.mem_of_getElem? (i := 672) (by decide +kernel)⟩
theorem lw_p14 : lw_okq (⟨"TeleStack$Ground", "hearWithNonePending", "(ZI)V"⟩, 14) := ⟨⟨by decide +kernel, by decide +kernel⟩, List.mem_of_getElem? (i := 69) (by decide +kernel), List.mem_of_getElem? (i := 679) (by decide +kernel), List.mem_of_getElem? (i := 680) (by decide +kernel)⟩
theorem lw_p15 : lw_okq (⟨"TeleStack$Ground", "hearWithSomePending", "(ZIZ)V"⟩, 14) := ⟨⟨by decide +kernel, by decide +kernel⟩, List.mem_of_getElem? (i := 69) (by decide +kernel), List.mem_of_getElem? (i := 683) (by decide +kernel), List.mem_of_getElem? (i := 684) (by decide +kernel)⟩
def lw_privs_1 : List (MethodName × Nat) := [(⟨"TeleStack$Ground", "runOut", "()V"⟩, 14), (⟨"TeleStack$Ground", "alarm", "(I)V"⟩, 14), (⟨"TeleStack$Ground", "isSending", "()Z"⟩, 14), (⟨"TeleStack$Ground", "tryAgain", "()V"⟩, 14), (⟨"TeleStack$Ground", "sendStart", "(LTeleStack$UpFrames;)I"⟩, 14), (⟨"TeleStack$Ground", "send", "(LTeleStack$UpFrames;III)I"⟩, 14), (⟨"TeleStack$Ground", "sendCommand", "(LTeleStack$UpFrames;)I"⟩, 14), (⟨"TeleStack$Ground", "sendSlot", "(LTeleStack$UpFrames;)I"⟩, 14), (⟨"java/lang/Throwable", "fillInStackTrace", "(I)Ljava/lang/Throwable;"⟩, 6), (⟨"TeleStack$Craft", "receiveCommand", "(II)V"⟩, 5), (⟨"TeleStack$Craft", "receiveExpected", "(I)V"⟩, 5), (⟨"TeleStack$Craft", "reopen", "()V"⟩, 5), (⟨"TeleStack$Ground", "hearAtStart", "(IZI)V"⟩, 14), (⟨"TeleStack$Ground", "acknowledge", "(II)V"⟩, 14), (⟨"TeleStack$Ground", "hearWithNonePending", "(ZI)V"⟩, 14), (⟨"TeleStack$Ground", "hearWithSomePending", "(ZIZ)V"⟩, 14)]
theorem lw_r1 : ∀ q ∈ lw_privs_1, lw_okq q := List.forall_mem_cons.mpr ⟨lw_p0, List.forall_mem_cons.mpr ⟨lw_p1, List.forall_mem_cons.mpr ⟨lw_p2, List.forall_mem_cons.mpr ⟨lw_p3, List.forall_mem_cons.mpr ⟨lw_p4, List.forall_mem_cons.mpr ⟨lw_p5, List.forall_mem_cons.mpr ⟨lw_p6, List.forall_mem_cons.mpr ⟨lw_p7, List.forall_mem_cons.mpr ⟨lw_p8, List.forall_mem_cons.mpr ⟨lw_p9, List.forall_mem_cons.mpr ⟨lw_p10, List.forall_mem_cons.mpr ⟨lw_p11, List.forall_mem_cons.mpr ⟨lw_p12, List.forall_mem_cons.mpr ⟨lw_p13, List.forall_mem_cons.mpr ⟨lw_p14, List.forall_mem_cons.mpr ⟨lw_p15, fun _ h => absurd h List.not_mem_nil⟩⟩⟩⟩⟩⟩⟩⟩⟩⟩⟩⟩⟩⟩⟩⟩
theorem lw_p16 : lw_okq (⟨"TeleStack$Ground", "resend", "()V"⟩, 14) := ⟨⟨by decide +kernel, by decide +kernel⟩, List.mem_of_getElem? (i := 69) (by decide +kernel), List.mem_of_getElem? (i := 687) (by decide +kernel), List.mem_of_getElem? (i := 688) (by decide +kernel)⟩
theorem lw_p17 : lw_okq (⟨"TeleStack$Stream", "writeHead", "(II)V"⟩, 4) := ⟨⟨by decide +kernel, by decide +kernel⟩, List.mem_of_getElem? (i := 165) (by decide +kernel), List.mem_of_getElem? (i := 710) (by decide +kernel), List.mem_of_getElem? (i := 711) (by decide +kernel)⟩
theorem lw_p18 : lw_okq (⟨"TeleStack$Stream", "put", "(IZ)V"⟩, 4) := ⟨⟨by decide +kernel, by decide +kernel⟩, List.mem_of_getElem? (i := 165) (by decide +kernel), List.mem_of_getElem? (i := 714) (by decide +kernel), List.mem_of_getElem? (i := 715) (by decide +kernel)⟩
theorem lw_p19 : lw_okq (⟨"TeleStack$Stream", "writeIdle", "()V"⟩, 4) := ⟨⟨by decide +kernel, by decide +kernel⟩, List.mem_of_getElem? (i := 165) (by decide +kernel), List.mem_of_getElem? (i := 730) (by decide +kernel), List.mem_of_getElem? (i := 731) (by decide +kernel)⟩
theorem lw_p20 : lw_okq (⟨"TeleStack$Stream", "removeFrame", "()V"⟩, 4) := ⟨⟨by decide +kernel, by decide +kernel⟩, List.mem_of_getElem? (i := 165) (by decide +kernel), List.mem_of_getElem? (i := 738) (by decide +kernel), List.mem_of_getElem? (i := 739) (by decide +kernel)⟩
theorem lw_p21 : lw_okq (⟨"TeleStack$Assembler", "read", "(ILTeleStack$Received;)V"⟩, 7) := ⟨⟨by decide +kernel, by decide +kernel⟩, List.mem_of_getElem? (i := 183) (by decide +kernel), List.mem_of_getElem? (i := 746) (by decide +kernel), List.mem_of_getElem? (i := 747) (by decide +kernel)⟩
theorem lw_p22 : lw_okq (⟨"TeleStackModel", "fails", "(ZZ)Z"⟩, 41) := ⟨⟨by decide +kernel, by decide +kernel⟩, List.mem_of_getElem? (i := 821) (by decide +kernel), List.mem_of_getElem? (i := 962) (by decide +kernel), List.mem_of_getElem? (i := 963) (by decide +kernel)⟩
theorem lw_p23 : lw_okq (⟨"TeleStackModel", "ends", "()V"⟩, 41) := ⟨⟨by decide +kernel, by decide +kernel⟩, List.mem_of_getElem? (i := 821) (by decide +kernel), List.mem_of_getElem? (i := 978) (by decide +kernel), List.mem_of_getElem? (i := 979) (by decide +kernel)⟩
theorem lw_p24 : lw_okq (⟨"TeleStackModel", "rings", "()V"⟩, 41) := ⟨⟨by decide +kernel, by decide +kernel⟩, List.mem_of_getElem? (i := 821) (by decide +kernel), List.mem_of_getElem? (i := 990) (by decide +kernel), List.mem_of_getElem? (i := 991) (by decide +kernel)⟩
theorem lw_p25 : lw_okq (⟨"TeleStackModel", "alarm", "(I)V"⟩, 41) := ⟨⟨by decide +kernel, by decide +kernel⟩, List.mem_of_getElem? (i := 821) (by decide +kernel), List.mem_of_getElem? (i := 994) (by decide +kernel), List.mem_of_getElem? (i := 995) (by decide +kernel)⟩
theorem lw_p26 : lw_okq (⟨"TeleStackModel", "resend", "(I)V"⟩, 41) := ⟨⟨by decide +kernel, by decide +kernel⟩, List.mem_of_getElem? (i := 821) (by decide +kernel), List.mem_of_getElem? (i := 998) (by decide +kernel), List.mem_of_getElem? (i := 999) (by decide +kernel)⟩
theorem lw_p27 : lw_okq (⟨"TeleStackModel", "sends", "(III)I"⟩, 41) := ⟨⟨by decide +kernel, by decide +kernel⟩, List.mem_of_getElem? (i := 821) (by decide +kernel), List.mem_of_getElem? (i := 1002) (by decide +kernel), List.mem_of_getElem? (i := 1003) (by decide +kernel)⟩
theorem lw_p28 : lw_okq (⟨"TeleStackModel", "out", "(I)V"⟩, 41) := ⟨⟨by decide +kernel, by decide +kernel⟩, List.mem_of_getElem? (i := 821) (by decide +kernel), List.mem_of_getElem? (i := 1010) (by decide +kernel), List.mem_of_getElem? (i := 1011) (by decide +kernel)⟩
theorem lw_p29 : lw_okq (⟨"TeleStackModel", "comes", "(II)V"⟩, 41) := ⟨⟨by decide +kernel, by decide +kernel⟩, List.mem_of_getElem? (i := 821) (by decide +kernel), List.mem_of_getElem? (i := 1014) (by decide +kernel), List.mem_of_getElem? (i := 1015) (by decide +kernel)⟩
theorem lw_p30 : lw_okq (⟨"TeleStackModel", "read", "(IZZ)V"⟩, 41) := ⟨⟨by decide +kernel, by decide +kernel⟩, List.mem_of_getElem? (i := 821) (by decide +kernel), List.mem_of_getElem? (i := 1034) (by decide +kernel), List.mem_of_getElem? (i := 1035) (by decide +kernel)⟩
theorem lw_p31 : lw_okq (⟨"TeleStackModel", "puts", "(II)V"⟩, 41) := ⟨⟨by decide +kernel, by decide +kernel⟩, List.mem_of_getElem? (i := 821) (by decide +kernel), List.mem_of_getElem? (i := 1042) (by decide +kernel), List.mem_of_getElem? (i := 1043) (by decide +kernel)⟩
def lw_privs_2 : List (MethodName × Nat) := [(⟨"TeleStack$Ground", "resend", "()V"⟩, 14), (⟨"TeleStack$Stream", "writeHead", "(II)V"⟩, 4), (⟨"TeleStack$Stream", "put", "(IZ)V"⟩, 4), (⟨"TeleStack$Stream", "writeIdle", "()V"⟩, 4), (⟨"TeleStack$Stream", "removeFrame", "()V"⟩, 4), (⟨"TeleStack$Assembler", "read", "(ILTeleStack$Received;)V"⟩, 7), (⟨"TeleStackModel", "fails", "(ZZ)Z"⟩, 41), (⟨"TeleStackModel", "ends", "()V"⟩, 41), (⟨"TeleStackModel", "rings", "()V"⟩, 41), (⟨"TeleStackModel", "alarm", "(I)V"⟩, 41), (⟨"TeleStackModel", "resend", "(I)V"⟩, 41), (⟨"TeleStackModel", "sends", "(III)I"⟩, 41), (⟨"TeleStackModel", "out", "(I)V"⟩, 41), (⟨"TeleStackModel", "comes", "(II)V"⟩, 41), (⟨"TeleStackModel", "read", "(IZZ)V"⟩, 41), (⟨"TeleStackModel", "puts", "(II)V"⟩, 41)]
theorem lw_r2 : ∀ q ∈ lw_privs_2, lw_okq q := List.forall_mem_cons.mpr ⟨lw_p16, List.forall_mem_cons.mpr ⟨lw_p17, List.forall_mem_cons.mpr ⟨lw_p18, List.forall_mem_cons.mpr ⟨lw_p19, List.forall_mem_cons.mpr ⟨lw_p20, List.forall_mem_cons.mpr ⟨lw_p21, List.forall_mem_cons.mpr ⟨lw_p22, List.forall_mem_cons.mpr ⟨lw_p23, List.forall_mem_cons.mpr ⟨lw_p24, List.forall_mem_cons.mpr ⟨lw_p25, List.forall_mem_cons.mpr ⟨lw_p26, List.forall_mem_cons.mpr ⟨lw_p27, List.forall_mem_cons.mpr ⟨lw_p28, List.forall_mem_cons.mpr ⟨lw_p29, List.forall_mem_cons.mpr ⟨lw_p30, List.forall_mem_cons.mpr ⟨lw_p31, fun _ h => absurd h List.not_mem_nil⟩⟩⟩⟩⟩⟩⟩⟩⟩⟩⟩⟩⟩⟩⟩⟩
theorem lw_p32 : lw_okq (⟨"TeleStackModel", "comesDown", "(III)V"⟩, 41) := ⟨⟨by decide +kernel, by decide +kernel⟩, List.mem_of_getElem? (i := 821) (by decide +kernel), List.mem_of_getElem? (i := 1050) (by decide +kernel), List.mem_of_getElem? (i := 1051) (by decide +kernel)⟩
theorem lw_p33 : lw_okq (⟨"TeleStackModel", "readCell", "(II)V"⟩, 41) := ⟨⟨by decide +kernel, by decide +kernel⟩, List.mem_of_getElem? (i := 821) (by decide +kernel), List.mem_of_getElem? (i := 1054) (by decide +kernel), List.mem_of_getElem? (i := 1055) (by decide +kernel)⟩
theorem lw_p34 : lw_okq (⟨"TeleStackModel", "marks", "()I"⟩, 41) := ⟨⟨by decide +kernel, by decide +kernel⟩, List.mem_of_getElem? (i := 821) (by decide +kernel), List.mem_of_getElem? (i := 1062) (by decide +kernel), List.mem_of_getElem? (i := 1063) (by decide +kernel)⟩
def lw_privs_3 : List (MethodName × Nat) := [(⟨"TeleStackModel", "comesDown", "(III)V"⟩, 41), (⟨"TeleStackModel", "readCell", "(II)V"⟩, 41), (⟨"TeleStackModel", "marks", "()I"⟩, 41)]
theorem lw_r3 : ∀ q ∈ lw_privs_3, lw_okq q := List.forall_mem_cons.mpr ⟨lw_p32, List.forall_mem_cons.mpr ⟨lw_p33, List.forall_mem_cons.mpr ⟨lw_p34, fun _ h => absurd h List.not_mem_nil⟩⟩⟩
def lw_privs : List (MethodName × Nat) := lw_privs_1 ++ (lw_privs_2 ++ (lw_privs_3))
def lw_tbl : List Cond := k2_sels lw_privs ++ tables_1
theorem lw_privs_ok : ∀ q ∈ lw_privs, lw_okq q := by
  show ∀ q ∈ lw_privs_1 ++ (lw_privs_2 ++ (lw_privs_3)), lw_okq q
  exact List.forall_mem_append.mpr ⟨lw_r1, List.forall_mem_append.mpr ⟨lw_r2, lw_r3⟩⟩
/-- the words that stay good through calls -/
def Gw : List Cond := lw_tbl.filter goodWord
theorem gw_in {w : Cond} (h : w ∈ lw_tbl) (hg : goodWord w = true) : w ∈ Gw := List.mem_filter.mpr ⟨h, hg⟩
theorem gm {w : Cond} (i : Nat) (h : tables_1[i]? = some w) (hg : goodWord w = true) : w ∈ Gw := gw_in (List.mem_append_right _ (List.mem_of_getElem? h)) hg
theorem gs {w : Cond} (h : w ∈ k2_sels lw_privs) (hg : goodWord w = true) : w ∈ Gw := gw_in (List.mem_append_left _ h) hg
theorem gw_good {w : Cond} (h : w ∈ Gw) : (w.onTables && w.keeps) = true ∨ ∃ ty, w = .arrayClass ty := good_of_word (List.mem_filter.mp h).2
abbrev R_T : String := "TeleStack"
def FT_T : u_T := fun k => match k with
  | 0 => ("TeleStack", "upFrames", "LTeleStack$UpFrames;", true)
  | 1 => ("TeleStack", "reports", "LTeleStack$Reports;", true)
  | 2 => ("TeleStack", "station", "LTeleStack$Ground;", true)
  | 3 => ("TeleStack", "vessel", "LTeleStack$Craft;", true)
  | 4 => ("TeleStack", "streams", "[LTeleStack$Stream;", true)
  | 5 => ("TeleStack", "assemblers", "[LTeleStack$Assembler;", true)
  | 6 => ("TeleStack", "downFrame", "LTeleStack$DownFrame;", true)
  | _ => ("TeleStack", "received", "LTeleStack$Received;", true)
def Fy_T : Nat → FieldType := fun k => match k with
  | 0 => .object "TeleStack$UpFrames"
  | 1 => .object "TeleStack$Reports"
  | 2 => .object "TeleStack$Ground"
  | 3 => .object "TeleStack$Craft"
  | 4 => .array (.object "TeleStack$Stream")
  | 5 => .array (.object "TeleStack$Assembler")
  | 6 => .object "TeleStack$DownFrame"
  | _ => .object "TeleStack$Received"
theorem nm_T : ∀ a, a < 8 → ∀ b, b < 8 → a ≠ b → (FT_T a).2.1 ≠ (FT_T b).2.1 := by decide +kernel
theorem ty_T : ∀ k, k < 8 → parseFieldDescriptor (FT_T k).2.2.1 = some (Fy_T k) := by decide +kernel
theorem uw_T : ∀ w ∈ u_ws R_T FT_T 8, w ∈ Gw := fun w h => gw_in ((by decide +kernel : ∀ w ∈ u_ws R_T FT_T 8, w ∈ lw_tbl) w h) ((by decide +kernel : ∀ w ∈ u_ws R_T FT_T 8, goodWord w = true) w h)
abbrev R_As : String := "TeleStack$Assembler"
def FT_As : u_T := fun k => match k with
  | 0 => ("TeleStack$Assembler", "channel", "I", true)
  | 1 => ("TeleStack$Assembler", "awaited", "I", false)
  | 2 => ("TeleStack$Assembler", "inStep", "Z", false)
  | 3 => ("TeleStack$Assembler", "cellsRead", "I", false)
  | 4 => ("TeleStack$Assembler", "tag", "I", false)
  | 5 => ("TeleStack$Assembler", "length", "I", false)
  | _ => ("TeleStack$Assembler", "sum", "I", false)
def Fy_As : Nat → FieldType := fun k => match k with
  | 0 => .int
  | 1 => .int
  | 2 => .boolean
  | 3 => .int
  | 4 => .int
  | 5 => .int
  | _ => .int
theorem nm_As : ∀ a, a < 7 → ∀ b, b < 7 → a ≠ b → (FT_As a).2.1 ≠ (FT_As b).2.1 := by decide +kernel
theorem ty_As : ∀ k, k < 7 → parseFieldDescriptor (FT_As k).2.2.1 = some (Fy_As k) := by decide +kernel
theorem uw_As : ∀ w ∈ u_ws R_As FT_As 7, w ∈ Gw := fun w h => gw_in ((by decide +kernel : ∀ w ∈ u_ws R_As FT_As 7, w ∈ lw_tbl) w h) ((by decide +kernel : ∀ w ∈ u_ws R_As FT_As 7, goodWord w = true) w h)
abbrev R_Cr : String := "TeleStack$Craft"
def FT_Cr : u_T := fun k => match k with
  | 0 => ("TeleStack$Craft", "queue", "[I", true)
  | 1 => ("TeleStack$Craft", "queued", "I", false)
  | 2 => ("TeleStack$Craft", "gate", "I", false)
  | 3 => ("TeleStack$Craft", "expected", "I", false)
  | _ => ("TeleStack$Craft", "again", "Z", false)
def Fy_Cr : Nat → FieldType := fun k => match k with
  | 0 => .array .int
  | 1 => .int
  | 2 => .int
  | 3 => .int
  | _ => .boolean
theorem nm_Cr : ∀ a, a < 5 → ∀ b, b < 5 → a ≠ b → (FT_Cr a).2.1 ≠ (FT_Cr b).2.1 := by decide +kernel
theorem ty_Cr : ∀ k, k < 5 → parseFieldDescriptor (FT_Cr k).2.2.1 = some (Fy_Cr k) := by decide +kernel
theorem uw_Cr : ∀ w ∈ u_ws R_Cr FT_Cr 5, w ∈ Gw := fun w h => gw_in ((by decide +kernel : ∀ w ∈ u_ws R_Cr FT_Cr 5, w ∈ lw_tbl) w h) ((by decide +kernel : ∀ w ∈ u_ws R_Cr FT_Cr 5, goodWord w = true) w h)
abbrev R_Df : String := "TeleStack$DownFrame"
def FT_Df : u_T := fun k => match k with
  | 0 => ("TeleStack$DownFrame", "cells", "[I", true)
  | 1 => ("TeleStack$DownFrame", "count", "I", false)
  | _ => ("TeleStack$DownFrame", "pointer", "I", false)
def Fy_Df : Nat → FieldType := fun k => match k with
  | 0 => .array .int
  | 1 => .int
  | _ => .int
theorem nm_Df : ∀ a, a < 3 → ∀ b, b < 3 → a ≠ b → (FT_Df a).2.1 ≠ (FT_Df b).2.1 := by decide +kernel
theorem ty_Df : ∀ k, k < 3 → parseFieldDescriptor (FT_Df k).2.2.1 = some (Fy_Df k) := by decide +kernel
theorem uw_Df : ∀ w ∈ u_ws R_Df FT_Df 3, w ∈ Gw := fun w h => gw_in ((by decide +kernel : ∀ w ∈ u_ws R_Df FT_Df 3, w ∈ lw_tbl) w h) ((by decide +kernel : ∀ w ∈ u_ws R_Df FT_Df 3, goodWord w = true) w h)
abbrev R_Gr : String := "TeleStack$Ground"
def FT_Gr : u_T := fun k => match k with
  | 0 => ("TeleStack$Ground", "pending", "LTeleStack$Unacknowledged;", true)
  | 1 => ("TeleStack$Ground", "mode", "I", false)
  | 2 => ("TeleStack$Ground", "next", "I", false)
  | 3 => ("TeleStack$Ground", "oldest", "I", false)
  | 4 => ("TeleStack$Ground", "slotFull", "Z", false)
  | 5 => ("TeleStack$Ground", "slot", "I", false)
  | 6 => ("TeleStack$Ground", "tries", "I", false)
  | 7 => ("TeleStack$Ground", "timer", "I", false)
  | 8 => ("TeleStack$Ground", "reason", "I", false)
  | 9 => ("TeleStack$Ground", "window", "I", false)
  | 10 => ("TeleStack$Ground", "limit", "I", false)
  | 11 => ("TeleStack$Ground", "span", "I", false)
  | 12 => ("TeleStack$Ground", "startKind", "I", false)
  | _ => ("TeleStack$Ground", "startDue", "Z", false)
def Fy_Gr : Nat → FieldType := fun k => match k with
  | 0 => .object "TeleStack$Unacknowledged"
  | 1 => .int
  | 2 => .int
  | 3 => .int
  | 4 => .boolean
  | 5 => .int
  | 6 => .int
  | 7 => .int
  | 8 => .int
  | 9 => .int
  | 10 => .int
  | 11 => .int
  | 12 => .int
  | _ => .boolean
theorem nm_Gr : ∀ a, a < 14 → ∀ b, b < 14 → a ≠ b → (FT_Gr a).2.1 ≠ (FT_Gr b).2.1 := by decide +kernel
theorem ty_Gr : ∀ k, k < 14 → parseFieldDescriptor (FT_Gr k).2.2.1 = some (Fy_Gr k) := by decide +kernel
theorem uw_Gr : ∀ w ∈ u_ws R_Gr FT_Gr 14, w ∈ Gw := fun w h => gw_in ((by decide +kernel : ∀ w ∈ u_ws R_Gr FT_Gr 14, w ∈ lw_tbl) w h) ((by decide +kernel : ∀ w ∈ u_ws R_Gr FT_Gr 14, goodWord w = true) w h)
abbrev R_Rc : String := "TeleStack$Received"
def FT_Rc : u_T := fun k => match k with
  | 0 => ("TeleStack$Received", "channels", "[I", true)
  | 1 => ("TeleStack$Received", "tags", "[I", true)
  | 2 => ("TeleStack$Received", "lengths", "[I", true)
  | 3 => ("TeleStack$Received", "sums", "[I", true)
  | _ => ("TeleStack$Received", "size", "I", false)
def Fy_Rc : Nat → FieldType := fun k => match k with
  | 0 => .array .int
  | 1 => .array .int
  | 2 => .array .int
  | 3 => .array .int
  | _ => .int
theorem nm_Rc : ∀ a, a < 5 → ∀ b, b < 5 → a ≠ b → (FT_Rc a).2.1 ≠ (FT_Rc b).2.1 := by decide +kernel
theorem ty_Rc : ∀ k, k < 5 → parseFieldDescriptor (FT_Rc k).2.2.1 = some (Fy_Rc k) := by decide +kernel
theorem uw_Rc : ∀ w ∈ u_ws R_Rc FT_Rc 5, w ∈ Gw := fun w h => gw_in ((by decide +kernel : ∀ w ∈ u_ws R_Rc FT_Rc 5, w ∈ lw_tbl) w h) ((by decide +kernel : ∀ w ∈ u_ws R_Rc FT_Rc 5, goodWord w = true) w h)
abbrev R_Rp : String := "TeleStack$Reports"
def FT_Rp : u_T := fun k => match k with
  | 0 => ("TeleStack$Reports", "expected", "[I", true)
  | 1 => ("TeleStack$Reports", "again", "[Z", true)
  | 2 => ("TeleStack$Reports", "gates", "[I", true)
  | _ => ("TeleStack$Reports", "size", "I", false)
def Fy_Rp : Nat → FieldType := fun k => match k with
  | 0 => .array .int
  | 1 => .array .boolean
  | 2 => .array .int
  | _ => .int
theorem nm_Rp : ∀ a, a < 4 → ∀ b, b < 4 → a ≠ b → (FT_Rp a).2.1 ≠ (FT_Rp b).2.1 := by decide +kernel
theorem ty_Rp : ∀ k, k < 4 → parseFieldDescriptor (FT_Rp k).2.2.1 = some (Fy_Rp k) := by decide +kernel
theorem uw_Rp : ∀ w ∈ u_ws R_Rp FT_Rp 4, w ∈ Gw := fun w h => gw_in ((by decide +kernel : ∀ w ∈ u_ws R_Rp FT_Rp 4, w ∈ lw_tbl) w h) ((by decide +kernel : ∀ w ∈ u_ws R_Rp FT_Rp 4, goodWord w = true) w h)
abbrev R_St : String := "TeleStack$Stream"
def FT_St : u_T := fun k => match k with
  | 0 => ("TeleStack$Stream", "cells", "[I", true)
  | 1 => ("TeleStack$Stream", "tags", "[Z", true)
  | 2 => ("TeleStack$Stream", "size", "I", false)
  | _ => ("TeleStack$Stream", "count", "I", false)
def Fy_St : Nat → FieldType := fun k => match k with
  | 0 => .array .int
  | 1 => .array .boolean
  | 2 => .int
  | _ => .int
theorem nm_St : ∀ a, a < 4 → ∀ b, b < 4 → a ≠ b → (FT_St a).2.1 ≠ (FT_St b).2.1 := by decide +kernel
theorem ty_St : ∀ k, k < 4 → parseFieldDescriptor (FT_St k).2.2.1 = some (Fy_St k) := by decide +kernel
theorem uw_St : ∀ w ∈ u_ws R_St FT_St 4, w ∈ Gw := fun w h => gw_in ((by decide +kernel : ∀ w ∈ u_ws R_St FT_St 4, w ∈ lw_tbl) w h) ((by decide +kernel : ∀ w ∈ u_ws R_St FT_St 4, goodWord w = true) w h)
abbrev R_Un : String := "TeleStack$Unacknowledged"
def FT_Un : u_T := fun k => match k with
  | 0 => ("TeleStack$Unacknowledged", "numbers", "[I", true)
  | 1 => ("TeleStack$Unacknowledged", "commands", "[I", true)
  | 2 => ("TeleStack$Unacknowledged", "marks", "[Z", true)
  | _ => ("TeleStack$Unacknowledged", "size", "I", false)
def Fy_Un : Nat → FieldType := fun k => match k with
  | 0 => .array .int
  | 1 => .array .int
  | 2 => .array .boolean
  | _ => .int
theorem nm_Un : ∀ a, a < 4 → ∀ b, b < 4 → a ≠ b → (FT_Un a).2.1 ≠ (FT_Un b).2.1 := by decide +kernel
theorem ty_Un : ∀ k, k < 4 → parseFieldDescriptor (FT_Un k).2.2.1 = some (Fy_Un k) := by decide +kernel
theorem uw_Un : ∀ w ∈ u_ws R_Un FT_Un 4, w ∈ Gw := fun w h => gw_in ((by decide +kernel : ∀ w ∈ u_ws R_Un FT_Un 4, w ∈ lw_tbl) w h) ((by decide +kernel : ∀ w ∈ u_ws R_Un FT_Un 4, goodWord w = true) w h)
abbrev R_Uf : String := "TeleStack$UpFrames"
def FT_Uf : u_T := fun k => match k with
  | 0 => ("TeleStack$UpFrames", "kinds", "[I", true)
  | 1 => ("TeleStack$UpFrames", "numbers", "[I", true)
  | 2 => ("TeleStack$UpFrames", "commands", "[I", true)
  | _ => ("TeleStack$UpFrames", "size", "I", false)
def Fy_Uf : Nat → FieldType := fun k => match k with
  | 0 => .array .int
  | 1 => .array .int
  | 2 => .array .int
  | _ => .int
theorem nm_Uf : ∀ a, a < 4 → ∀ b, b < 4 → a ≠ b → (FT_Uf a).2.1 ≠ (FT_Uf b).2.1 := by decide +kernel
theorem ty_Uf : ∀ k, k < 4 → parseFieldDescriptor (FT_Uf k).2.2.1 = some (Fy_Uf k) := by decide +kernel
theorem uw_Uf : ∀ w ∈ u_ws R_Uf FT_Uf 4, w ∈ Gw := fun w h => gw_in ((by decide +kernel : ∀ w ∈ u_ws R_Uf FT_Uf 4, w ∈ lw_tbl) w h) ((by decide +kernel : ∀ w ∈ u_ws R_Uf FT_Uf 4, goodWord w = true) w h)
abbrev R_M : String := "TeleStackModel"
def FT_M : u_T := fun k => match k with
  | 0 => ("TeleStackModel", "thrown", "I", false)
  | 1 => ("TeleStackModel", "mode", "I", false)
  | 2 => ("TeleStackModel", "next", "I", false)
  | 3 => ("TeleStackModel", "oldest", "I", false)
  | 4 => ("TeleStackModel", "tries", "I", false)
  | 5 => ("TeleStackModel", "timer", "I", false)
  | 6 => ("TeleStackModel", "reason", "I", false)
  | 7 => ("TeleStackModel", "window", "I", false)
  | 8 => ("TeleStackModel", "limit", "I", false)
  | 9 => ("TeleStackModel", "span", "I", false)
  | 10 => ("TeleStackModel", "full", "Z", false)
  | 11 => ("TeleStackModel", "slot", "I", false)
  | 12 => ("TeleStackModel", "due", "Z", false)
  | 13 => ("TeleStackModel", "begins", "I", false)
  | 14 => ("TeleStackModel", "open", "I", false)
  | 15 => ("TeleStackModel", "commands", "[I", true)
  | 16 => ("TeleStackModel", "marked", "[Z", true)
  | 17 => ("TeleStackModel", "flights", "I", false)
  | 18 => ("TeleStackModel", "kind", "[I", true)
  | 19 => ("TeleStackModel", "number", "[I", true)
  | 20 => ("TeleStackModel", "word", "[I", true)
  | 21 => ("TeleStackModel", "gate", "I", false)
  | 22 => ("TeleStackModel", "expected", "I", false)
  | 23 => ("TeleStackModel", "again", "Z", false)
  | 24 => ("TeleStackModel", "queued", "I", false)
  | 25 => ("TeleStackModel", "queue", "[I", true)
  | 26 => ("TeleStackModel", "reports", "I", false)
  | 27 => ("TeleStackModel", "report", "[I", true)
  | 28 => ("TeleStackModel", "from", "[I", true)
  | 29 => ("TeleStackModel", "cells", "[I", true)
  | 30 => ("TeleStackModel", "stream", "[I", true)
  | 31 => ("TeleStackModel", "made", "[I", true)
  | 32 => ("TeleStackModel", "awaits", "[I", true)
  | 33 => ("TeleStackModel", "lostStep", "[Z", true)
  | 34 => ("TeleStackModel", "has", "[I", true)
  | 35 => ("TeleStackModel", "tag", "[I", true)
  | 36 => ("TeleStackModel", "size", "[I", true)
  | 37 => ("TeleStackModel", "sum", "[I", true)
  | 38 => ("TeleStackModel", "frame", "[I", true)
  | 39 => ("TeleStackModel", "packets", "I", false)
  | _ => ("TeleStackModel", "got", "[I", true)
def Fy_M : Nat → FieldType := fun k => match k with
  | 0 => .int
  | 1 => .int
  | 2 => .int
  | 3 => .int
  | 4 => .int
  | 5 => .int
  | 6 => .int
  | 7 => .int
  | 8 => .int
  | 9 => .int
  | 10 => .boolean
  | 11 => .int
  | 12 => .boolean
  | 13 => .int
  | 14 => .int
  | 15 => .array .int
  | 16 => .array .boolean
  | 17 => .int
  | 18 => .array .int
  | 19 => .array .int
  | 20 => .array .int
  | 21 => .int
  | 22 => .int
  | 23 => .boolean
  | 24 => .int
  | 25 => .array .int
  | 26 => .int
  | 27 => .array .int
  | 28 => .array .int
  | 29 => .array .int
  | 30 => .array .int
  | 31 => .array .int
  | 32 => .array .int
  | 33 => .array .boolean
  | 34 => .array .int
  | 35 => .array .int
  | 36 => .array .int
  | 37 => .array .int
  | 38 => .array .int
  | 39 => .int
  | _ => .array .int
theorem nm_M : ∀ a, a < 41 → ∀ b, b < 41 → a ≠ b → (FT_M a).2.1 ≠ (FT_M b).2.1 := by decide +kernel
theorem ty_M : ∀ k, k < 41 → parseFieldDescriptor (FT_M k).2.2.1 = some (Fy_M k) := by decide +kernel
theorem uw_M : ∀ w ∈ u_ws R_M FT_M 41, w ∈ Gw := fun w h => gw_in ((by decide +kernel : ∀ w ∈ u_ws R_M FT_M 41, w ∈ lw_tbl) w h) ((by decide +kernel : ∀ w ∈ u_ws R_M FT_M 41, goodWord w = true) w h)
abbrev R_L : String := "TeleStackLaw"
abbrev R_Ma : String := "java/lang/Math"
abbrev vwCl : List vw_C := [(R_T, FT_T, 8), (R_As, FT_As, 7), (R_Cr, FT_Cr, 5), (R_Df, FT_Df, 3), (R_Gr, FT_Gr, 14), (R_Rc, FT_Rc, 5), (R_Rp, FT_Rp, 4), (R_St, FT_St, 4), (R_Un, FT_Un, 4), (R_Uf, FT_Uf, 4), (R_M, FT_M, 41)]
abbrev b_T_init : ByteArray := prog_1_method_1_code
def y_T_init : MethodName := ⟨R_T, "<init>", "()V"⟩
abbrev b_T_tune : ByteArray := prog_1_method_2_code
def y_T_tune : MethodName := ⟨R_T, "tune", "(III)V"⟩
abbrev b_T_number : ByteArray := prog_1_method_3_code
def y_T_number : MethodName := ⟨R_T, "number", "(I)V"⟩
abbrev b_T_begin : ByteArray := prog_1_method_4_code
def y_T_begin : MethodName := ⟨R_T, "begin", "(I)V"⟩
abbrev b_T_end : ByteArray := prog_1_method_5_code
def y_T_end : MethodName := ⟨R_T, "end", "()V"⟩
abbrev b_T_command : ByteArray := prog_1_method_6_code
def y_T_command : MethodName := ⟨R_T, "command", "(I)Z"⟩
abbrev b_T_tick : ByteArray := prog_1_method_7_code
def y_T_tick : MethodName := ⟨R_T, "tick", "()I"⟩
abbrev b_T_raise : ByteArray := prog_1_method_8_code
def y_T_raise : MethodName := ⟨R_T, "raise", "(I)V"⟩
abbrev b_T_drop : ByteArray := prog_1_method_9_code
def y_T_drop : MethodName := ⟨R_T, "drop", "(I)V"⟩
abbrev b_T_take : ByteArray := prog_1_method_10_code
def y_T_take : MethodName := ⟨R_T, "take", "()I"⟩
abbrev b_T_report : ByteArray := prog_1_method_11_code
def y_T_report : MethodName := ⟨R_T, "report", "()Z"⟩
abbrev b_T_answer : ByteArray := prog_1_method_12_code
def y_T_answer : MethodName := ⟨R_T, "answer", "(IZ)V"⟩
abbrev b_T_packet : ByteArray := prog_1_method_13_code
def y_T_packet : MethodName := ⟨R_T, "packet", "(III)Z"⟩
abbrev b_T_frame : ByteArray := prog_1_method_14_code
def y_T_frame : MethodName := ⟨R_T, "frame", "(IZ)I"⟩
abbrev b_T_ground : ByteArray := prog_1_method_15_code
def y_T_ground : MethodName := ⟨R_T, "ground", "(I)I"⟩
abbrev b_T_craft : ByteArray := prog_1_method_16_code
def y_T_craft : MethodName := ⟨R_T, "craft", "(I)I"⟩
abbrev b_T_flight : ByteArray := prog_1_method_17_code
def y_T_flight : MethodName := ⟨R_T, "flight", "(II)I"⟩
abbrev b_T_packets : ByteArray := prog_1_method_18_code
def y_T_packets : MethodName := ⟨R_T, "packets", "()I"⟩
abbrev b_T_got : ByteArray := prog_1_method_19_code
def y_T_got : MethodName := ⟨R_T, "got", "(II)I"⟩
abbrev b_T_isWithin : ByteArray := prog_1_method_20_code
def y_T_isWithin : MethodName := ⟨R_T, "isWithin", "(III)Z"⟩
abbrev b_T_isChannel : ByteArray := prog_1_method_21_code
def y_T_isChannel : MethodName := ⟨R_T, "isChannel", "(I)Z"⟩
abbrev b_T_following : ByteArray := prog_1_method_22_code
def y_T_following : MethodName := ⟨R_T, "following", "(I)I"⟩
abbrev b_T_distance : ByteArray := prog_1_method_23_code
def y_T_distance : MethodName := ⟨R_T, "distance", "(II)I"⟩
abbrev b_M_init : ByteArray := prog_12_method_1_code
def y_M_init : MethodName := ⟨R_M, "<init>", "()V"⟩
abbrev b_M_thrown : ByteArray := prog_12_method_2_code
def y_M_thrown : MethodName := ⟨R_M, "thrown", "()I"⟩
abbrev b_M_outside : ByteArray := prog_12_method_3_code
def y_M_outside : MethodName := ⟨R_M, "outside", "(III)Z"⟩
abbrev b_M_fails : ByteArray := prog_12_method_4_code
def y_M_fails : MethodName := ⟨R_M, "fails", "(ZZ)Z"⟩
abbrev b_M_tune : ByteArray := prog_12_method_5_code
def y_M_tune : MethodName := ⟨R_M, "tune", "(III)V"⟩
abbrev b_M_number : ByteArray := prog_12_method_6_code
def y_M_number : MethodName := ⟨R_M, "number", "(I)V"⟩
abbrev b_M_begin : ByteArray := prog_12_method_7_code
def y_M_begin : MethodName := ⟨R_M, "begin", "(I)V"⟩
abbrev b_M_ends : ByteArray := prog_12_method_8_code
def y_M_ends : MethodName := ⟨R_M, "ends", "()V"⟩
abbrev b_M_alarm : ByteArray := prog_12_method_9_code
def y_M_alarm : MethodName := ⟨R_M, "alarm", "(I)V"⟩
abbrev b_M_end : ByteArray := prog_12_method_10_code
def y_M_end : MethodName := ⟨R_M, "end", "()V"⟩
abbrev b_M_command : ByteArray := prog_12_method_11_code
def y_M_command : MethodName := ⟨R_M, "command", "(I)Z"⟩
abbrev b_M_resend : ByteArray := prog_12_method_12_code
def y_M_resend : MethodName := ⟨R_M, "resend", "(I)V"⟩
abbrev b_M_sends : ByteArray := prog_12_method_13_code
def y_M_sends : MethodName := ⟨R_M, "sends", "(III)I"⟩
abbrev b_M_rings : ByteArray := prog_12_method_14_code
def y_M_rings : MethodName := ⟨R_M, "rings", "()V"⟩
abbrev b_M_tick : ByteArray := prog_12_method_15_code
def y_M_tick : MethodName := ⟨R_M, "tick", "()I"⟩
abbrev b_M_out : ByteArray := prog_12_method_16_code
def y_M_out : MethodName := ⟨R_M, "out", "(I)V"⟩
abbrev b_M_raise : ByteArray := prog_12_method_17_code
def y_M_raise : MethodName := ⟨R_M, "raise", "(I)V"⟩
abbrev b_M_comes : ByteArray := prog_12_method_18_code
def y_M_comes : MethodName := ⟨R_M, "comes", "(II)V"⟩
abbrev b_M_drop : ByteArray := prog_12_method_19_code
def y_M_drop : MethodName := ⟨R_M, "drop", "(I)V"⟩
abbrev b_M_take : ByteArray := prog_12_method_20_code
def y_M_take : MethodName := ⟨R_M, "take", "()I"⟩
abbrev b_M_report : ByteArray := prog_12_method_21_code
def y_M_report : MethodName := ⟨R_M, "report", "()Z"⟩
abbrev b_M_answer : ByteArray := prog_12_method_22_code
def y_M_answer : MethodName := ⟨R_M, "answer", "(IZ)V"⟩
abbrev b_M_read : ByteArray := prog_12_method_23_code
def y_M_read : MethodName := ⟨R_M, "read", "(IZZ)V"⟩
abbrev b_M_puts : ByteArray := prog_12_method_24_code
def y_M_puts : MethodName := ⟨R_M, "puts", "(II)V"⟩
abbrev b_M_packet : ByteArray := prog_12_method_25_code
def y_M_packet : MethodName := ⟨R_M, "packet", "(III)Z"⟩
abbrev b_M_frame : ByteArray := prog_12_method_26_code
def y_M_frame : MethodName := ⟨R_M, "frame", "(IZ)I"⟩
abbrev b_M_comesDown : ByteArray := prog_12_method_27_code
def y_M_comesDown : MethodName := ⟨R_M, "comesDown", "(III)V"⟩
abbrev b_M_readCell : ByteArray := prog_12_method_28_code
def y_M_readCell : MethodName := ⟨R_M, "readCell", "(II)V"⟩
abbrev b_M_marks : ByteArray := prog_12_method_29_code
def y_M_marks : MethodName := ⟨R_M, "marks", "()I"⟩
abbrev b_M_ground : ByteArray := prog_12_method_30_code
def y_M_ground : MethodName := ⟨R_M, "ground", "(I)I"⟩
abbrev b_M_craft : ByteArray := prog_12_method_31_code
def y_M_craft : MethodName := ⟨R_M, "craft", "(I)I"⟩
abbrev b_M_flight : ByteArray := prog_12_method_32_code
def y_M_flight : MethodName := ⟨R_M, "flight", "(II)I"⟩
abbrev b_M_packets : ByteArray := prog_12_method_33_code
def y_M_packets : MethodName := ⟨R_M, "packets", "()I"⟩
abbrev b_M_got : ByteArray := prog_12_method_34_code
def y_M_got : MethodName := ⟨R_M, "got", "(II)I"⟩
abbrev b_As_init : ByteArray := prog_2_method_1_code
def y_As_init : MethodName := ⟨R_As, "<init>", "(I)V"⟩
abbrev b_As_receive : ByteArray := prog_2_method_2_code
def y_As_receive : MethodName := ⟨R_As, "receive", "(LTeleStack$DownFrame;LTeleStack$Received;)V"⟩
abbrev b_As_read : ByteArray := prog_2_method_3_code
def y_As_read : MethodName := ⟨R_As, "read", "(ILTeleStack$Received;)V"⟩
abbrev b_Cr_init : ByteArray := prog_3_method_1_code
def y_Cr_init : MethodName := ⟨R_Cr, "<init>", "()V"⟩
abbrev b_Cr_queued : ByteArray := prog_3_method_2_code
def y_Cr_queued : MethodName := ⟨R_Cr, "queued", "()I"⟩
abbrev b_Cr_takeFirst : ByteArray := prog_3_method_3_code
def y_Cr_takeFirst : MethodName := ⟨R_Cr, "takeFirst", "()I"⟩
abbrev b_Cr_receive : ByteArray := prog_3_method_4_code
def y_Cr_receive : MethodName := ⟨R_Cr, "receive", "(III)V"⟩
abbrev b_Cr_tell : ByteArray := prog_3_method_5_code
def y_Cr_tell : MethodName := ⟨R_Cr, "tell", "(I)I"⟩
abbrev b_Cr_reopen : ByteArray := prog_3_method_6_code
def y_Cr_reopen : MethodName := ⟨R_Cr, "reopen", "()V"⟩
abbrev b_Cr_receiveCommand : ByteArray := prog_3_method_7_code
def y_Cr_receiveCommand : MethodName := ⟨R_Cr, "receiveCommand", "(II)V"⟩
abbrev b_Cr_receiveExpected : ByteArray := prog_3_method_8_code
def y_Cr_receiveExpected : MethodName := ⟨R_Cr, "receiveExpected", "(I)V"⟩
abbrev b_Df_init : ByteArray := prog_4_method_1_code
def y_Df_init : MethodName := ⟨R_Df, "<init>", "()V"⟩
abbrev b_Gr_init : ByteArray := prog_5_method_1_code
def y_Gr_init : MethodName := ⟨R_Gr, "<init>", "()V"⟩
abbrev b_Gr_isIdle : ByteArray := prog_5_method_2_code
def y_Gr_isIdle : MethodName := ⟨R_Gr, "isIdle", "()Z"⟩
abbrev b_Gr_takesCommands : ByteArray := prog_5_method_3_code
def y_Gr_takesCommands : MethodName := ⟨R_Gr, "takesCommands", "()Z"⟩
abbrev b_Gr_adjust : ByteArray := prog_5_method_4_code
def y_Gr_adjust : MethodName := ⟨R_Gr, "adjust", "(III)V"⟩
abbrev b_Gr_renumber : ByteArray := prog_5_method_5_code
def y_Gr_renumber : MethodName := ⟨R_Gr, "renumber", "(I)V"⟩
abbrev b_Gr_start : ByteArray := prog_5_method_6_code
def y_Gr_start : MethodName := ⟨R_Gr, "start", "(I)V"⟩
abbrev b_Gr_finish : ByteArray := prog_5_method_7_code
def y_Gr_finish : MethodName := ⟨R_Gr, "finish", "()V"⟩
abbrev b_Gr_offer : ByteArray := prog_5_method_8_code
def y_Gr_offer : MethodName := ⟨R_Gr, "offer", "(I)Z"⟩
abbrev b_Gr_pass : ByteArray := prog_5_method_9_code
def y_Gr_pass : MethodName := ⟨R_Gr, "pass", "(LTeleStack$UpFrames;)I"⟩
abbrev b_Gr_hear : ByteArray := prog_5_method_10_code
def y_Gr_hear : MethodName := ⟨R_Gr, "hear", "(IZI)V"⟩
abbrev b_Gr_tell : ByteArray := prog_5_method_11_code
def y_Gr_tell : MethodName := ⟨R_Gr, "tell", "(I)I"⟩
abbrev b_Gr_isSending : ByteArray := prog_5_method_12_code
def y_Gr_isSending : MethodName := ⟨R_Gr, "isSending", "()Z"⟩
abbrev b_Gr_alarm : ByteArray := prog_5_method_13_code
def y_Gr_alarm : MethodName := ⟨R_Gr, "alarm", "(I)V"⟩
abbrev b_Gr_tryAgain : ByteArray := prog_5_method_14_code
def y_Gr_tryAgain : MethodName := ⟨R_Gr, "tryAgain", "()V"⟩
abbrev b_Gr_resend : ByteArray := prog_5_method_15_code
def y_Gr_resend : MethodName := ⟨R_Gr, "resend", "()V"⟩
abbrev b_Gr_runOut : ByteArray := prog_5_method_16_code
def y_Gr_runOut : MethodName := ⟨R_Gr, "runOut", "()V"⟩
abbrev b_Gr_sendStart : ByteArray := prog_5_method_17_code
def y_Gr_sendStart : MethodName := ⟨R_Gr, "sendStart", "(LTeleStack$UpFrames;)I"⟩
abbrev b_Gr_sendCommand : ByteArray := prog_5_method_18_code
def y_Gr_sendCommand : MethodName := ⟨R_Gr, "sendCommand", "(LTeleStack$UpFrames;)I"⟩
abbrev b_Gr_sendSlot : ByteArray := prog_5_method_19_code
def y_Gr_sendSlot : MethodName := ⟨R_Gr, "sendSlot", "(LTeleStack$UpFrames;)I"⟩
abbrev b_Gr_send : ByteArray := prog_5_method_20_code
def y_Gr_send : MethodName := ⟨R_Gr, "send", "(LTeleStack$UpFrames;III)I"⟩
abbrev b_Gr_hearAtStart : ByteArray := prog_5_method_21_code
def y_Gr_hearAtStart : MethodName := ⟨R_Gr, "hearAtStart", "(IZI)V"⟩
abbrev b_Gr_acknowledge : ByteArray := prog_5_method_22_code
def y_Gr_acknowledge : MethodName := ⟨R_Gr, "acknowledge", "(II)V"⟩
abbrev b_Gr_hearWithNonePending : ByteArray := prog_5_method_23_code
def y_Gr_hearWithNonePending : MethodName := ⟨R_Gr, "hearWithNonePending", "(ZI)V"⟩
abbrev b_Gr_hearWithSomePending : ByteArray := prog_5_method_24_code
def y_Gr_hearWithSomePending : MethodName := ⟨R_Gr, "hearWithSomePending", "(ZIZ)V"⟩
abbrev b_Rc_init : ByteArray := prog_6_method_1_code
def y_Rc_init : MethodName := ⟨R_Rc, "<init>", "()V"⟩
abbrev b_Rc_size : ByteArray := prog_6_method_2_code
def y_Rc_size : MethodName := ⟨R_Rc, "size", "()I"⟩
abbrev b_Rc_has : ByteArray := prog_6_method_3_code
def y_Rc_has : MethodName := ⟨R_Rc, "has", "(I)Z"⟩
abbrev b_Rc_tell : ByteArray := prog_6_method_4_code
def y_Rc_tell : MethodName := ⟨R_Rc, "tell", "(II)I"⟩
abbrev b_Rc_add : ByteArray := prog_6_method_5_code
def y_Rc_add : MethodName := ⟨R_Rc, "add", "(IIII)V"⟩
abbrev b_Rp_init : ByteArray := prog_7_method_1_code
def y_Rp_init : MethodName := ⟨R_Rp, "<init>", "()V"⟩
abbrev b_Rp_size : ByteArray := prog_7_method_2_code
def y_Rp_size : MethodName := ⟨R_Rp, "size", "()I"⟩
abbrev b_Rp_has : ByteArray := prog_7_method_3_code
def y_Rp_has : MethodName := ⟨R_Rp, "has", "(I)Z"⟩
abbrev b_Rp_expected : ByteArray := prog_7_method_4_code
def y_Rp_expected : MethodName := ⟨R_Rp, "expected", "(I)I"⟩
abbrev b_Rp_again : ByteArray := prog_7_method_5_code
def y_Rp_again : MethodName := ⟨R_Rp, "again", "(I)Z"⟩
abbrev b_Rp_gate : ByteArray := prog_7_method_6_code
def y_Rp_gate : MethodName := ⟨R_Rp, "gate", "(I)I"⟩
abbrev b_Rp_add : ByteArray := prog_7_method_7_code
def y_Rp_add : MethodName := ⟨R_Rp, "add", "(LTeleStack$Craft;)Z"⟩
abbrev b_Rp_remove : ByteArray := prog_7_method_8_code
def y_Rp_remove : MethodName := ⟨R_Rp, "remove", "(I)V"⟩
abbrev b_St_init : ByteArray := prog_8_method_1_code
def y_St_init : MethodName := ⟨R_St, "<init>", "()V"⟩
abbrev b_St_size : ByteArray := prog_8_method_2_code
def y_St_size : MethodName := ⟨R_St, "size", "()I"⟩
abbrev b_St_write : ByteArray := prog_8_method_3_code
def y_St_write : MethodName := ⟨R_St, "write", "(II)Z"⟩
abbrev b_St_fill : ByteArray := prog_8_method_4_code
def y_St_fill : MethodName := ⟨R_St, "fill", "(LTeleStack$DownFrame;)V"⟩
abbrev b_St_writeIdle : ByteArray := prog_8_method_5_code
def y_St_writeIdle : MethodName := ⟨R_St, "writeIdle", "()V"⟩
abbrev b_St_writeHead : ByteArray := prog_8_method_6_code
def y_St_writeHead : MethodName := ⟨R_St, "writeHead", "(II)V"⟩
abbrev b_St_put : ByteArray := prog_8_method_7_code
def y_St_put : MethodName := ⟨R_St, "put", "(IZ)V"⟩
abbrev b_St_removeFrame : ByteArray := prog_8_method_8_code
def y_St_removeFrame : MethodName := ⟨R_St, "removeFrame", "()V"⟩
abbrev b_Un_init : ByteArray := prog_9_method_1_code
def y_Un_init : MethodName := ⟨R_Un, "<init>", "()V"⟩
abbrev b_Un_size : ByteArray := prog_9_method_2_code
def y_Un_size : MethodName := ⟨R_Un, "size", "()I"⟩
abbrev b_Un_numberOf : ByteArray := prog_9_method_3_code
def y_Un_numberOf : MethodName := ⟨R_Un, "numberOf", "(I)I"⟩
abbrev b_Un_commandOf : ByteArray := prog_9_method_4_code
def y_Un_commandOf : MethodName := ⟨R_Un, "commandOf", "(I)I"⟩
abbrev b_Un_add : ByteArray := prog_9_method_5_code
def y_Un_add : MethodName := ⟨R_Un, "add", "(II)V"⟩
abbrev b_Un_removeFirst : ByteArray := prog_9_method_6_code
def y_Un_removeFirst : MethodName := ⟨R_Un, "removeFirst", "(I)V"⟩
abbrev b_Un_clear : ByteArray := prog_9_method_7_code
def y_Un_clear : MethodName := ⟨R_Un, "clear", "()V"⟩
abbrev b_Un_markAll : ByteArray := prog_9_method_8_code
def y_Un_markAll : MethodName := ⟨R_Un, "markAll", "()V"⟩
abbrev b_Un_unmark : ByteArray := prog_9_method_9_code
def y_Un_unmark : MethodName := ⟨R_Un, "unmark", "(I)V"⟩
abbrev b_Un_firstMarked : ByteArray := prog_9_method_10_code
def y_Un_firstMarked : MethodName := ⟨R_Un, "firstMarked", "()I"⟩
abbrev b_Un_countMarked : ByteArray := prog_9_method_11_code
def y_Un_countMarked : MethodName := ⟨R_Un, "countMarked", "()I"⟩
abbrev b_Uf_init : ByteArray := prog_10_method_1_code
def y_Uf_init : MethodName := ⟨R_Uf, "<init>", "()V"⟩
abbrev b_Uf_size : ByteArray := prog_10_method_2_code
def y_Uf_size : MethodName := ⟨R_Uf, "size", "()I"⟩
abbrev b_Uf_has : ByteArray := prog_10_method_3_code
def y_Uf_has : MethodName := ⟨R_Uf, "has", "(I)Z"⟩
abbrev b_Uf_kind : ByteArray := prog_10_method_4_code
def y_Uf_kind : MethodName := ⟨R_Uf, "kind", "(I)I"⟩
abbrev b_Uf_numberOf : ByteArray := prog_10_method_5_code
def y_Uf_numberOf : MethodName := ⟨R_Uf, "numberOf", "(I)I"⟩
abbrev b_Uf_commandOf : ByteArray := prog_10_method_6_code
def y_Uf_commandOf : MethodName := ⟨R_Uf, "commandOf", "(I)I"⟩
abbrev b_Uf_tell : ByteArray := prog_10_method_7_code
def y_Uf_tell : MethodName := ⟨R_Uf, "tell", "(II)I"⟩
abbrev b_Uf_add : ByteArray := prog_10_method_8_code
def y_Uf_add : MethodName := ⟨R_Uf, "add", "(III)V"⟩
abbrev b_Uf_remove : ByteArray := prog_10_method_9_code
def y_Uf_remove : MethodName := ⟨R_Uf, "remove", "(I)V"⟩
abbrev b_L_tune : ByteArray := method_3_code
def y_L_tune : MethodName := ⟨R_L, "tune", "(LTeleStack;III)I"⟩
abbrev b_L_number : ByteArray := method_4_code
def y_L_number : MethodName := ⟨R_L, "number", "(LTeleStack;I)I"⟩
abbrev b_L_begin : ByteArray := method_5_code
def y_L_begin : MethodName := ⟨R_L, "begin", "(LTeleStack;I)I"⟩
abbrev b_L_end : ByteArray := method_6_code
def y_L_end : MethodName := ⟨R_L, "end", "(LTeleStack;)I"⟩
abbrev b_L_command : ByteArray := method_7_code
def y_L_command : MethodName := ⟨R_L, "command", "(LTeleStack;I[J)I"⟩
abbrev b_L_raise : ByteArray := method_8_code
def y_L_raise : MethodName := ⟨R_L, "raise", "(LTeleStack;I)I"⟩
abbrev b_L_drop : ByteArray := method_9_code
def y_L_drop : MethodName := ⟨R_L, "drop", "(LTeleStack;I)I"⟩
abbrev b_L_take : ByteArray := method_10_code
def y_L_take : MethodName := ⟨R_L, "take", "(LTeleStack;[J)I"⟩
abbrev b_L_answer : ByteArray := method_11_code
def y_L_answer : MethodName := ⟨R_L, "answer", "(LTeleStack;IZ)I"⟩
abbrev b_L_packet : ByteArray := method_12_code
def y_L_packet : MethodName := ⟨R_L, "packet", "(LTeleStack;III[J)I"⟩
abbrev b_L_frame : ByteArray := method_13_code
def y_L_frame : MethodName := ⟨R_L, "frame", "(LTeleStack;IZ[J)I"⟩
abbrev b_L_ground : ByteArray := method_14_code
def y_L_ground : MethodName := ⟨R_L, "ground", "(LTeleStack;I[J)I"⟩
abbrev b_L_craft : ByteArray := method_15_code
def y_L_craft : MethodName := ⟨R_L, "craft", "(LTeleStack;I[J)I"⟩
abbrev b_L_flight : ByteArray := method_16_code
def y_L_flight : MethodName := ⟨R_L, "flight", "(LTeleStack;II[J)I"⟩
abbrev b_L_got : ByteArray := method_17_code
def y_L_got : MethodName := ⟨R_L, "got", "(LTeleStack;II[J)I"⟩
abbrev b_L_law : ByteArray := code
def y_L_law : MethodName := ⟨R_L, "law", "([I)Z"⟩
abbrev b_Ma_floorMod : ByteArray := prog_17_method_50_code
def y_Ma_floorMod : MethodName := ⟨R_Ma, "floorMod", "(II)I"⟩
abbrev b_Ma_max : ByteArray := prog_17_method_65_code
def y_Ma_max : MethodName := ⟨R_Ma, "max", "(II)I"⟩
end
section
theorem f_As_9 : Cond.fieldLink R_As 9 "TeleStack$Assembler" "inStep" "Z" ∈ Gw := gm 190 (by decide +kernel) (by decide)
theorem f_As_15 : Cond.fieldLink R_As 15 "TeleStack$Assembler" "channel" "I" ∈ Gw := gm 188 (by decide +kernel) (by decide)
theorem f_As_24 : Cond.fieldLink R_As 24 "TeleStack$Assembler" "awaited" "I" ∈ Gw := gm 189 (by decide +kernel) (by decide)
theorem f_As_27 : Cond.fieldLink R_As 27 "TeleStack$Assembler" "cellsRead" "I" ∈ Gw := gm 191 (by decide +kernel) (by decide)
theorem l_As_37 : Cond.methodLink R_As 37 y_As_read ∈ Gw := gm 745 (by decide +kernel) (by decide)
theorem f_As_45 : Cond.fieldLink R_As 45 "TeleStack$Assembler" "tag" "I" ∈ Gw := gm 192 (by decide +kernel) (by decide)
theorem f_As_48 : Cond.fieldLink R_As 48 "TeleStack$Assembler" "sum" "I" ∈ Gw := gm 194 (by decide +kernel) (by decide)
theorem f_As_51 : Cond.fieldLink R_As 51 "TeleStack$Assembler" "length" "I" ∈ Gw := gm 193 (by decide +kernel) (by decide)
theorem l_As_54 : Cond.methodLink R_As 54 y_Rc_add ∈ Gw := gm 749 (by decide +kernel) (by decide)
theorem f_Cr_11 : Cond.fieldLink R_Cr 11 "TeleStack$Craft" "queue" "[I" ∈ Gw := gm 142 (by decide +kernel) (by decide)
theorem f_Cr_15 : Cond.fieldLink R_Cr 15 "TeleStack$Craft" "gate" "I" ∈ Gw := gm 144 (by decide +kernel) (by decide)
theorem f_Cr_19 : Cond.fieldLink R_Cr 19 "TeleStack$Craft" "queued" "I" ∈ Gw := gm 143 (by decide +kernel) (by decide)
theorem f_Cr_22 : Cond.fieldLink R_Cr 22 "TeleStack$Craft" "expected" "I" ∈ Gw := gm 146 (by decide +kernel) (by decide)
theorem l_Cr_29 : Cond.methodLink R_Cr 29 y_Cr_receiveCommand ∈ Gw := gm 581 (by decide +kernel) (by decide)
theorem l_Cr_33 : Cond.methodLink R_Cr 33 y_Cr_reopen ∈ Gw := gm 590 (by decide +kernel) (by decide)
theorem f_Cr_36 : Cond.fieldLink R_Cr 36 "TeleStack$Craft" "again" "Z" ∈ Gw := gm 148 (by decide +kernel) (by decide)
theorem l_Cr_40 : Cond.methodLink R_Cr 40 y_Cr_receiveExpected ∈ Gw := gm 585 (by decide +kernel) (by decide)
theorem f_Df_9 : Cond.fieldLink R_Df 9 "TeleStack$DownFrame" "cells" "[I" ∈ Gw := gm 216 (by decide +kernel) (by decide)
theorem f_Gr_12 : Cond.fieldLink R_Gr 12 "TeleStack$Ground" "pending" "LTeleStack$Unacknowledged;" ∈ Gw := gm 93 (by decide +kernel) (by decide)
theorem f_Gr_18 : Cond.fieldLink R_Gr 18 "TeleStack$Ground" "mode" "I" ∈ Gw := gm 94 (by decide +kernel) (by decide)
theorem f_Gr_22 : Cond.fieldLink R_Gr 22 "TeleStack$Ground" "window" "I" ∈ Gw := gm 102 (by decide +kernel) (by decide)
theorem f_Gr_25 : Cond.fieldLink R_Gr 25 "TeleStack$Ground" "limit" "I" ∈ Gw := gm 103 (by decide +kernel) (by decide)
theorem f_Gr_28 : Cond.fieldLink R_Gr 28 "TeleStack$Ground" "span" "I" ∈ Gw := gm 104 (by decide +kernel) (by decide)
theorem l_Gr_31 : Cond.methodLink R_Gr 31 y_Gr_isSending ∈ Gw := gm 302 (by decide +kernel) (by decide)
theorem f_Gr_35 : Cond.fieldLink R_Gr 35 "TeleStack$Ground" "next" "I" ∈ Gw := gm 95 (by decide +kernel) (by decide)
theorem f_Gr_38 : Cond.fieldLink R_Gr 38 "TeleStack$Ground" "oldest" "I" ∈ Gw := gm 96 (by decide +kernel) (by decide)
theorem f_Gr_41 : Cond.fieldLink R_Gr 41 "TeleStack$Ground" "tries" "I" ∈ Gw := gm 99 (by decide +kernel) (by decide)
theorem f_Gr_44 : Cond.fieldLink R_Gr 44 "TeleStack$Ground" "reason" "I" ∈ Gw := gm 101 (by decide +kernel) (by decide)
theorem f_Gr_47 : Cond.fieldLink R_Gr 47 "TeleStack$Ground" "timer" "I" ∈ Gw := gm 100 (by decide +kernel) (by decide)
theorem f_Gr_50 : Cond.fieldLink R_Gr 50 "TeleStack$Ground" "startKind" "I" ∈ Gw := gm 105 (by decide +kernel) (by decide)
theorem f_Gr_53 : Cond.fieldLink R_Gr 53 "TeleStack$Ground" "startDue" "Z" ∈ Gw := gm 106 (by decide +kernel) (by decide)
theorem l_Gr_57 : Cond.methodLink R_Gr 57 y_Un_clear ∈ Gw := gm 298 (by decide +kernel) (by decide)
theorem f_Gr_60 : Cond.fieldLink R_Gr 60 "TeleStack$Ground" "slotFull" "Z" ∈ Gw := gm 97 (by decide +kernel) (by decide)
theorem f_Gr_63 : Cond.fieldLink R_Gr 63 "TeleStack$Ground" "slot" "I" ∈ Gw := gm 98 (by decide +kernel) (by decide)
theorem l_Gr_66 : Cond.methodLink R_Gr 66 y_Gr_runOut ∈ Gw := gm 286 (by decide +kernel) (by decide)
theorem l_Gr_69 : Cond.methodLink R_Gr 69 y_Gr_sendStart ∈ Gw := gm 314 (by decide +kernel) (by decide)
theorem l_Gr_73 : Cond.methodLink R_Gr 73 y_Gr_sendCommand ∈ Gw := gm 326 (by decide +kernel) (by decide)
theorem l_Gr_76 : Cond.methodLink R_Gr 76 y_Gr_hearAtStart ∈ Gw := gm 665 (by decide +kernel) (by decide)
theorem l_Gr_84 : Cond.methodLink R_Gr 84 y_Gr_alarm ∈ Gw := gm 290 (by decide +kernel) (by decide)
theorem l_Gr_88 : Cond.methodLink R_Gr 88 y_Un_size ∈ Gw := gm 346 (by decide +kernel) (by decide)
theorem l_Gr_92 : Cond.methodLink R_Gr 92 y_Gr_acknowledge ∈ Gw := gm 670 (by decide +kernel) (by decide)
theorem l_Gr_96 : Cond.methodLink R_Gr 96 y_Gr_hearWithNonePending ∈ Gw := gm 678 (by decide +kernel) (by decide)
theorem l_Gr_100 : Cond.methodLink R_Gr 100 y_Gr_hearWithSomePending ∈ Gw := gm 682 (by decide +kernel) (by decide)
theorem l_Gr_104 : Cond.methodLink R_Gr 104 y_Un_countMarked ∈ Gw := gm 774 (by decide +kernel) (by decide)
theorem l_Gr_107 : Cond.methodLink R_Gr 107 y_Gr_finish ∈ Gw := gm 294 (by decide +kernel) (by decide)
theorem l_Gr_110 : Cond.methodLink R_Gr 110 y_Un_markAll ∈ Gw := gm 310 (by decide +kernel) (by decide)
theorem l_Gr_113 : Cond.methodLink R_Gr 113 y_Gr_tryAgain ∈ Gw := gm 306 (by decide +kernel) (by decide)
theorem l_Gr_116 : Cond.methodLink R_Gr 116 y_Gr_send ∈ Gw := gm 318 (by decide +kernel) (by decide)
theorem l_Gr_120 : Cond.methodLink R_Gr 120 y_Un_firstMarked ∈ Gw := gm 330 (by decide +kernel) (by decide)
theorem l_Gr_123 : Cond.methodLink R_Gr 123 y_Un_unmark ∈ Gw := gm 334 (by decide +kernel) (by decide)
theorem l_Gr_126 : Cond.methodLink R_Gr 126 y_Un_numberOf ∈ Gw := gm 338 (by decide +kernel) (by decide)
theorem l_Gr_130 : Cond.methodLink R_Gr 130 y_Un_commandOf ∈ Gw := gm 342 (by decide +kernel) (by decide)
theorem l_Gr_133 : Cond.methodLink R_Gr 133 y_Gr_sendSlot ∈ Gw := gm 350 (by decide +kernel) (by decide)
theorem l_Gr_136 : Cond.methodLink R_Gr 136 y_Un_add ∈ Gw := gm 354 (by decide +kernel) (by decide)
theorem l_Gr_142 : Cond.methodLink R_Gr 142 y_Uf_add ∈ Gw := gm 322 (by decide +kernel) (by decide)
theorem l_Gr_147 : Cond.methodLink R_Gr 147 y_Un_removeFirst ∈ Gw := gm 674 (by decide +kernel) (by decide)
theorem l_Gr_150 : Cond.methodLink R_Gr 150 y_Gr_resend ∈ Gw := gm 686 (by decide +kernel) (by decide)
theorem l_L_7 : Cond.methodLink R_L 7 y_T_tune ∈ Gw := gm 382 (by decide +kernel) (by decide)
theorem l_L_17 : Cond.methodLink R_L 17 y_T_number ∈ Gw := gm 485 (by decide +kernel) (by decide)
theorem l_L_21 : Cond.methodLink R_L 21 y_T_begin ∈ Gw := gm 497 (by decide +kernel) (by decide)
theorem l_L_24 : Cond.methodLink R_L 24 y_T_end ∈ Gw := gm 509 (by decide +kernel) (by decide)
theorem l_L_27 : Cond.methodLink R_L 27 y_T_command ∈ Gw := gm 518 (by decide +kernel) (by decide)
theorem l_L_31 : Cond.methodLink R_L 31 y_T_raise ∈ Gw := gm 535 (by decide +kernel) (by decide)
theorem l_L_36 : Cond.methodLink R_L 36 y_T_drop ∈ Gw := gm 601 (by decide +kernel) (by decide)
theorem l_L_39 : Cond.methodLink R_L 39 y_T_take ∈ Gw := gm 609 (by decide +kernel) (by decide)
theorem l_L_45 : Cond.methodLink R_L 45 y_T_answer ∈ Gw := gm 640 (by decide +kernel) (by decide)
theorem l_L_49 : Cond.methodLink R_L 49 y_T_packet ∈ Gw := gm 697 (by decide +kernel) (by decide)
theorem l_L_53 : Cond.methodLink R_L 53 y_T_frame ∈ Gw := gm 720 (by decide +kernel) (by decide)
theorem l_L_57 : Cond.methodLink R_L 57 y_T_ground ∈ Gw := gm 757 (by decide +kernel) (by decide)
theorem l_L_61 : Cond.methodLink R_L 61 y_T_craft ∈ Gw := gm 781 (by decide +kernel) (by decide)
theorem l_L_64 : Cond.methodLink R_L 64 y_T_flight ∈ Gw := gm 796 (by decide +kernel) (by decide)
theorem l_L_68 : Cond.methodLink R_L 68 y_T_got ∈ Gw := gm 807 (by decide +kernel) (by decide)
theorem l_L_71 : Cond.methodLink R_L 71 y_T_init ∈ Gw := gm 22 (by decide +kernel) (by decide)
theorem l_L_74 : Cond.methodLink R_L 74 y_M_init ∈ Gw := gm 822 (by decide +kernel) (by decide)
theorem l_L_75 : Cond.methodLink R_L 75 y_L_tune ∈ Gw := gm 377 (by decide +kernel) (by decide)
theorem l_L_80 : Cond.methodLink R_L 80 y_M_tune ∈ Gw := gm 954 (by decide +kernel) (by decide)
theorem l_L_81 : Cond.methodLink R_L 81 y_M_thrown ∈ Gw := gm 950 (by decide +kernel) (by decide)
theorem l_L_84 : Cond.methodLink R_L 84 y_L_number ∈ Gw := gm 482 (by decide +kernel) (by decide)
theorem l_L_87 : Cond.methodLink R_L 87 y_M_number ∈ Gw := gm 965 (by decide +kernel) (by decide)
theorem l_L_88 : Cond.methodLink R_L 88 y_L_begin ∈ Gw := gm 494 (by decide +kernel) (by decide)
theorem l_L_90 : Cond.methodLink R_L 90 y_M_begin ∈ Gw := gm 969 (by decide +kernel) (by decide)
theorem l_L_91 : Cond.methodLink R_L 91 y_L_end ∈ Gw := gm 506 (by decide +kernel) (by decide)
theorem l_L_94 : Cond.methodLink R_L 94 y_M_end ∈ Gw := gm 973 (by decide +kernel) (by decide)
theorem l_L_95 : Cond.methodLink R_L 95 y_L_command ∈ Gw := gm 515 (by decide +kernel) (by decide)
theorem l_L_98 : Cond.methodLink R_L 98 y_M_command ∈ Gw := gm 981 (by decide +kernel) (by decide)
theorem l_L_99 : Cond.methodLink R_L 99 y_T_tick ∈ Gw := gm 278 (by decide +kernel) (by decide)
theorem l_L_102 : Cond.methodLink R_L 102 y_M_tick ∈ Gw := gm 985 (by decide +kernel) (by decide)
theorem l_L_103 : Cond.methodLink R_L 103 y_L_raise ∈ Gw := gm 531 (by decide +kernel) (by decide)
theorem l_L_105 : Cond.methodLink R_L 105 y_M_raise ∈ Gw := gm 1005 (by decide +kernel) (by decide)
theorem l_L_106 : Cond.methodLink R_L 106 y_L_drop ∈ Gw := gm 598 (by decide +kernel) (by decide)
theorem l_L_108 : Cond.methodLink R_L 108 y_M_drop ∈ Gw := gm 1017 (by decide +kernel) (by decide)
theorem l_L_109 : Cond.methodLink R_L 109 y_L_take ∈ Gw := gm 605 (by decide +kernel) (by decide)
theorem l_L_112 : Cond.methodLink R_L 112 y_M_take ∈ Gw := gm 1021 (by decide +kernel) (by decide)
theorem l_L_113 : Cond.methodLink R_L 113 y_T_report ∈ Gw := gm 361 (by decide +kernel) (by decide)
theorem l_L_117 : Cond.methodLink R_L 117 y_M_report ∈ Gw := gm 1025 (by decide +kernel) (by decide)
theorem l_L_118 : Cond.methodLink R_L 118 y_L_answer ∈ Gw := gm 637 (by decide +kernel) (by decide)
theorem l_L_121 : Cond.methodLink R_L 121 y_M_answer ∈ Gw := gm 1029 (by decide +kernel) (by decide)
theorem l_L_122 : Cond.methodLink R_L 122 y_L_packet ∈ Gw := gm 694 (by decide +kernel) (by decide)
theorem l_L_125 : Cond.methodLink R_L 125 y_M_packet ∈ Gw := gm 1037 (by decide +kernel) (by decide)
theorem l_L_126 : Cond.methodLink R_L 126 y_L_frame ∈ Gw := gm 717 (by decide +kernel) (by decide)
theorem l_L_129 : Cond.methodLink R_L 129 y_M_frame ∈ Gw := gm 1045 (by decide +kernel) (by decide)
theorem l_L_130 : Cond.methodLink R_L 130 y_L_ground ∈ Gw := gm 754 (by decide +kernel) (by decide)
theorem l_L_132 : Cond.methodLink R_L 132 y_M_ground ∈ Gw := gm 1057 (by decide +kernel) (by decide)
theorem l_L_133 : Cond.methodLink R_L 133 y_L_craft ∈ Gw := gm 778 (by decide +kernel) (by decide)
theorem l_L_135 : Cond.methodLink R_L 135 y_M_craft ∈ Gw := gm 1065 (by decide +kernel) (by decide)
theorem l_L_136 : Cond.methodLink R_L 136 y_L_flight ∈ Gw := gm 793 (by decide +kernel) (by decide)
theorem l_L_139 : Cond.methodLink R_L 139 y_M_flight ∈ Gw := gm 1069 (by decide +kernel) (by decide)
theorem l_L_140 : Cond.methodLink R_L 140 y_T_packets ∈ Gw := gm 369 (by decide +kernel) (by decide)
theorem l_L_143 : Cond.methodLink R_L 143 y_M_packets ∈ Gw := gm 1073 (by decide +kernel) (by decide)
theorem l_L_144 : Cond.methodLink R_L 144 y_L_got ∈ Gw := gm 804 (by decide +kernel) (by decide)
theorem l_L_146 : Cond.methodLink R_L 146 y_M_got ∈ Gw := gm 1077 (by decide +kernel) (by decide)
theorem f_M_7 : Cond.fieldLink R_M 7 "TeleStackModel" "window" "I" ∈ Gw := gm 833 (by decide +kernel) (by decide)
theorem f_M_13 : Cond.fieldLink R_M 13 "TeleStackModel" "limit" "I" ∈ Gw := gm 834 (by decide +kernel) (by decide)
theorem f_M_16 : Cond.fieldLink R_M 16 "TeleStackModel" "span" "I" ∈ Gw := gm 835 (by decide +kernel) (by decide)
theorem f_M_19 : Cond.fieldLink R_M 19 "TeleStackModel" "commands" "[I" ∈ Gw := gm 841 (by decide +kernel) (by decide)
theorem f_M_23 : Cond.fieldLink R_M 23 "TeleStackModel" "marked" "[Z" ∈ Gw := gm 842 (by decide +kernel) (by decide)
theorem f_M_27 : Cond.fieldLink R_M 27 "TeleStackModel" "kind" "[I" ∈ Gw := gm 844 (by decide +kernel) (by decide)
theorem f_M_30 : Cond.fieldLink R_M 30 "TeleStackModel" "number" "[I" ∈ Gw := gm 845 (by decide +kernel) (by decide)
theorem f_M_33 : Cond.fieldLink R_M 33 "TeleStackModel" "word" "[I" ∈ Gw := gm 846 (by decide +kernel) (by decide)
theorem f_M_36 : Cond.fieldLink R_M 36 "TeleStackModel" "queue" "[I" ∈ Gw := gm 851 (by decide +kernel) (by decide)
theorem f_M_39 : Cond.fieldLink R_M 39 "TeleStackModel" "report" "[I" ∈ Gw := gm 853 (by decide +kernel) (by decide)
theorem f_M_42 : Cond.fieldLink R_M 42 "TeleStackModel" "from" "[I" ∈ Gw := gm 854 (by decide +kernel) (by decide)
theorem f_M_45 : Cond.fieldLink R_M 45 "TeleStackModel" "cells" "[I" ∈ Gw := gm 855 (by decide +kernel) (by decide)
theorem f_M_48 : Cond.fieldLink R_M 48 "TeleStackModel" "stream" "[I" ∈ Gw := gm 856 (by decide +kernel) (by decide)
theorem f_M_51 : Cond.fieldLink R_M 51 "TeleStackModel" "made" "[I" ∈ Gw := gm 857 (by decide +kernel) (by decide)
theorem f_M_54 : Cond.fieldLink R_M 54 "TeleStackModel" "awaits" "[I" ∈ Gw := gm 858 (by decide +kernel) (by decide)
theorem f_M_57 : Cond.fieldLink R_M 57 "TeleStackModel" "lostStep" "[Z" ∈ Gw := gm 859 (by decide +kernel) (by decide)
theorem f_M_60 : Cond.fieldLink R_M 60 "TeleStackModel" "has" "[I" ∈ Gw := gm 860 (by decide +kernel) (by decide)
theorem f_M_63 : Cond.fieldLink R_M 63 "TeleStackModel" "tag" "[I" ∈ Gw := gm 861 (by decide +kernel) (by decide)
theorem f_M_66 : Cond.fieldLink R_M 66 "TeleStackModel" "size" "[I" ∈ Gw := gm 862 (by decide +kernel) (by decide)
theorem f_M_69 : Cond.fieldLink R_M 69 "TeleStackModel" "sum" "[I" ∈ Gw := gm 863 (by decide +kernel) (by decide)
theorem f_M_72 : Cond.fieldLink R_M 72 "TeleStackModel" "frame" "[I" ∈ Gw := gm 864 (by decide +kernel) (by decide)
theorem f_M_75 : Cond.fieldLink R_M 75 "TeleStackModel" "got" "[I" ∈ Gw := gm 866 (by decide +kernel) (by decide)
theorem f_M_78 : Cond.fieldLink R_M 78 "TeleStackModel" "thrown" "I" ∈ Gw := gm 826 (by decide +kernel) (by decide)
theorem f_M_81 : Cond.fieldLink R_M 81 "TeleStackModel" "mode" "I" ∈ Gw := gm 827 (by decide +kernel) (by decide)
theorem l_M_84 : Cond.methodLink R_M 84 y_M_outside ∈ Gw := gm 958 (by decide +kernel) (by decide)
theorem l_M_88 : Cond.methodLink R_M 88 y_M_fails ∈ Gw := gm 961 (by decide +kernel) (by decide)
theorem f_M_92 : Cond.fieldLink R_M 92 "TeleStackModel" "next" "I" ∈ Gw := gm 828 (by decide +kernel) (by decide)
theorem f_M_95 : Cond.fieldLink R_M 95 "TeleStackModel" "oldest" "I" ∈ Gw := gm 829 (by decide +kernel) (by decide)
theorem f_M_98 : Cond.fieldLink R_M 98 "TeleStackModel" "timer" "I" ∈ Gw := gm 831 (by decide +kernel) (by decide)
theorem f_M_101 : Cond.fieldLink R_M 101 "TeleStackModel" "due" "Z" ∈ Gw := gm 838 (by decide +kernel) (by decide)
theorem f_M_105 : Cond.fieldLink R_M 105 "TeleStackModel" "begins" "I" ∈ Gw := gm 839 (by decide +kernel) (by decide)
theorem f_M_108 : Cond.fieldLink R_M 108 "TeleStackModel" "tries" "I" ∈ Gw := gm 830 (by decide +kernel) (by decide)
theorem f_M_111 : Cond.fieldLink R_M 111 "TeleStackModel" "reason" "I" ∈ Gw := gm 832 (by decide +kernel) (by decide)
theorem f_M_114 : Cond.fieldLink R_M 114 "TeleStackModel" "open" "I" ∈ Gw := gm 840 (by decide +kernel) (by decide)
theorem f_M_117 : Cond.fieldLink R_M 117 "TeleStackModel" "full" "Z" ∈ Gw := gm 836 (by decide +kernel) (by decide)
theorem l_M_120 : Cond.methodLink R_M 120 y_M_ends ∈ Gw := gm 977 (by decide +kernel) (by decide)
theorem f_M_123 : Cond.fieldLink R_M 123 "TeleStackModel" "slot" "I" ∈ Gw := gm 837 (by decide +kernel) (by decide)
theorem l_M_126 : Cond.methodLink R_M 126 y_M_alarm ∈ Gw := gm 993 (by decide +kernel) (by decide)
theorem f_M_130 : Cond.fieldLink R_M 130 "TeleStackModel" "flights" "I" ∈ Gw := gm 843 (by decide +kernel) (by decide)
theorem l_M_133 : Cond.methodLink R_M 133 y_M_resend ∈ Gw := gm 997 (by decide +kernel) (by decide)
theorem l_M_136 : Cond.methodLink R_M 136 y_M_rings ∈ Gw := gm 989 (by decide +kernel) (by decide)
theorem l_M_139 : Cond.methodLink R_M 139 y_M_sends ∈ Gw := gm 1001 (by decide +kernel) (by decide)
theorem l_M_143 : Cond.methodLink R_M 143 y_M_out ∈ Gw := gm 1009 (by decide +kernel) (by decide)
theorem f_M_146 : Cond.fieldLink R_M 146 "TeleStackModel" "expected" "I" ∈ Gw := gm 848 (by decide +kernel) (by decide)
theorem l_M_149 : Cond.methodLink R_M 149 y_M_comes ∈ Gw := gm 1013 (by decide +kernel) (by decide)
theorem f_M_153 : Cond.fieldLink R_M 153 "TeleStackModel" "gate" "I" ∈ Gw := gm 847 (by decide +kernel) (by decide)
theorem f_M_156 : Cond.fieldLink R_M 156 "TeleStackModel" "again" "Z" ∈ Gw := gm 849 (by decide +kernel) (by decide)
theorem f_M_159 : Cond.fieldLink R_M 159 "TeleStackModel" "queued" "I" ∈ Gw := gm 850 (by decide +kernel) (by decide)
theorem f_M_162 : Cond.fieldLink R_M 162 "TeleStackModel" "reports" "I" ∈ Gw := gm 852 (by decide +kernel) (by decide)
theorem l_M_165 : Cond.methodLink R_M 165 y_M_read ∈ Gw := gm 1033 (by decide +kernel) (by decide)
theorem l_M_169 : Cond.methodLink R_M 169 y_M_puts ∈ Gw := gm 1041 (by decide +kernel) (by decide)
theorem l_M_172 : Cond.methodLink R_M 172 y_M_comesDown ∈ Gw := gm 1049 (by decide +kernel) (by decide)
theorem l_M_176 : Cond.methodLink R_M 176 y_M_readCell ∈ Gw := gm 1053 (by decide +kernel) (by decide)
theorem f_M_179 : Cond.fieldLink R_M 179 "TeleStackModel" "packets" "I" ∈ Gw := gm 865 (by decide +kernel) (by decide)
theorem l_M_182 : Cond.methodLink R_M 182 y_M_marks ∈ Gw := gm 1061 (by decide +kernel) (by decide)
theorem f_Rc_9 : Cond.fieldLink R_Rc 9 "TeleStack$Received" "channels" "[I" ∈ Gw := gm 237 (by decide +kernel) (by decide)
theorem f_Rc_13 : Cond.fieldLink R_Rc 13 "TeleStack$Received" "tags" "[I" ∈ Gw := gm 238 (by decide +kernel) (by decide)
theorem f_Rc_16 : Cond.fieldLink R_Rc 16 "TeleStack$Received" "lengths" "[I" ∈ Gw := gm 239 (by decide +kernel) (by decide)
theorem f_Rc_19 : Cond.fieldLink R_Rc 19 "TeleStack$Received" "sums" "[I" ∈ Gw := gm 240 (by decide +kernel) (by decide)
theorem f_Rc_22 : Cond.fieldLink R_Rc 22 "TeleStack$Received" "size" "I" ∈ Gw := gm 241 (by decide +kernel) (by decide)
theorem f_Rp_9 : Cond.fieldLink R_Rp 9 "TeleStack$Reports" "expected" "[I" ∈ Gw := gm 54 (by decide +kernel) (by decide)
theorem f_Rp_15 : Cond.fieldLink R_Rp 15 "TeleStack$Reports" "again" "[Z" ∈ Gw := gm 55 (by decide +kernel) (by decide)
theorem f_Rp_19 : Cond.fieldLink R_Rp 19 "TeleStack$Reports" "gates" "[I" ∈ Gw := gm 56 (by decide +kernel) (by decide)
theorem f_Rp_22 : Cond.fieldLink R_Rp 22 "TeleStack$Reports" "size" "I" ∈ Gw := gm 57 (by decide +kernel) (by decide)
theorem f_St_11 : Cond.fieldLink R_St 11 "TeleStack$Stream" "cells" "[I" ∈ Gw := gm 170 (by decide +kernel) (by decide)
theorem f_St_15 : Cond.fieldLink R_St 15 "TeleStack$Stream" "tags" "[Z" ∈ Gw := gm 171 (by decide +kernel) (by decide)
theorem f_St_19 : Cond.fieldLink R_St 19 "TeleStack$Stream" "size" "I" ∈ Gw := gm 172 (by decide +kernel) (by decide)
theorem l_St_23 : Cond.methodLink R_St 23 y_St_writeHead ∈ Gw := gm 709 (by decide +kernel) (by decide)
theorem l_St_27 : Cond.methodLink R_St 27 y_St_put ∈ Gw := gm 713 (by decide +kernel) (by decide)
theorem l_St_31 : Cond.methodLink R_St 31 y_St_writeIdle ∈ Gw := gm 729 (by decide +kernel) (by decide)
theorem f_St_34 : Cond.fieldLink R_St 34 "TeleStack$Stream" "count" "I" ∈ Gw := gm 173 (by decide +kernel) (by decide)
theorem l_St_48 : Cond.methodLink R_St 48 y_St_removeFrame ∈ Gw := gm 737 (by decide +kernel) (by decide)
theorem l_St_51 : Cond.methodLink R_St 51 y_Ma_max ∈ Gw := gm 733 (by decide +kernel) (by decide)
theorem f_T_10 : Cond.fieldLink R_T 10 "TeleStack" "upFrames" "LTeleStack$UpFrames;" ∈ Gw := gm 253 (by decide +kernel) (by decide)
theorem f_T_19 : Cond.fieldLink R_T 19 "TeleStack" "reports" "LTeleStack$Reports;" ∈ Gw := gm 254 (by decide +kernel) (by decide)
theorem f_T_26 : Cond.fieldLink R_T 26 "TeleStack" "station" "LTeleStack$Ground;" ∈ Gw := gm 255 (by decide +kernel) (by decide)
theorem f_T_33 : Cond.fieldLink R_T 33 "TeleStack" "vessel" "LTeleStack$Craft;" ∈ Gw := gm 256 (by decide +kernel) (by decide)
theorem f_T_39 : Cond.fieldLink R_T 39 "TeleStack" "streams" "[LTeleStack$Stream;" ∈ Gw := gm 257 (by decide +kernel) (by decide)
theorem f_T_45 : Cond.fieldLink R_T 45 "TeleStack" "assemblers" "[LTeleStack$Assembler;" ∈ Gw := gm 258 (by decide +kernel) (by decide)
theorem l_T_50 : Cond.methodLink R_T 50 y_As_init ∈ Gw := gm 184 (by decide +kernel) (by decide)
theorem f_T_56 : Cond.fieldLink R_T 56 "TeleStack" "downFrame" "LTeleStack$DownFrame;" ∈ Gw := gm 259 (by decide +kernel) (by decide)
theorem f_T_63 : Cond.fieldLink R_T 63 "TeleStack" "received" "LTeleStack$Received;" ∈ Gw := gm 260 (by decide +kernel) (by decide)
theorem l_T_67 : Cond.methodLink R_T 67 y_Gr_isIdle ∈ Gw := gm 386 (by decide +kernel) (by decide)
theorem l_T_78 : Cond.methodLink R_T 78 y_T_isWithin ∈ Gw := gm 459 (by decide +kernel) (by decide)
theorem l_T_87 : Cond.methodLink R_T 87 y_Gr_adjust ∈ Gw := gm 478 (by decide +kernel) (by decide)
theorem l_T_93 : Cond.methodLink R_T 93 y_Gr_renumber ∈ Gw := gm 490 (by decide +kernel) (by decide)
theorem l_T_98 : Cond.methodLink R_T 98 y_Gr_start ∈ Gw := gm 502 (by decide +kernel) (by decide)
theorem l_T_103 : Cond.methodLink R_T 103 y_Gr_finish ∈ Gw := gm 514 (by decide +kernel) (by decide)
theorem l_T_106 : Cond.methodLink R_T 106 y_Gr_takesCommands ∈ Gw := gm 522 (by decide +kernel) (by decide)
theorem l_T_111 : Cond.methodLink R_T 111 y_Gr_offer ∈ Gw := gm 527 (by decide +kernel) (by decide)
theorem l_T_115 : Cond.methodLink R_T 115 y_Gr_pass ∈ Gw := gm 282 (by decide +kernel) (by decide)
theorem l_T_119 : Cond.methodLink R_T 119 y_Uf_has ∈ Gw := gm 539 (by decide +kernel) (by decide)
theorem l_T_127 : Cond.methodLink R_T 127 y_Uf_kind ∈ Gw := gm 559 (by decide +kernel) (by decide)
theorem l_T_131 : Cond.methodLink R_T 131 y_Uf_numberOf ∈ Gw := gm 563 (by decide +kernel) (by decide)
theorem l_T_134 : Cond.methodLink R_T 134 y_Uf_commandOf ∈ Gw := gm 567 (by decide +kernel) (by decide)
theorem l_T_137 : Cond.methodLink R_T 137 y_Cr_receive ∈ Gw := gm 571 (by decide +kernel) (by decide)
theorem l_T_140 : Cond.methodLink R_T 140 y_Uf_remove ∈ Gw := gm 594 (by decide +kernel) (by decide)
theorem l_T_143 : Cond.methodLink R_T 143 y_Cr_queued ∈ Gw := gm 613 (by decide +kernel) (by decide)
theorem l_T_152 : Cond.methodLink R_T 152 y_Cr_takeFirst ∈ Gw := gm 633 (by decide +kernel) (by decide)
theorem l_T_155 : Cond.methodLink R_T 155 y_Rp_add ∈ Gw := gm 365 (by decide +kernel) (by decide)
theorem l_T_159 : Cond.methodLink R_T 159 y_Rp_has ∈ Gw := gm 644 (by decide +kernel) (by decide)
theorem l_T_162 : Cond.methodLink R_T 162 y_Rp_expected ∈ Gw := gm 649 (by decide +kernel) (by decide)
theorem l_T_165 : Cond.methodLink R_T 165 y_Rp_again ∈ Gw := gm 653 (by decide +kernel) (by decide)
theorem l_T_168 : Cond.methodLink R_T 168 y_Rp_gate ∈ Gw := gm 657 (by decide +kernel) (by decide)
theorem l_T_171 : Cond.methodLink R_T 171 y_Gr_hear ∈ Gw := gm 661 (by decide +kernel) (by decide)
theorem l_T_175 : Cond.methodLink R_T 175 y_Rp_remove ∈ Gw := gm 690 (by decide +kernel) (by decide)
theorem l_T_176 : Cond.methodLink R_T 176 y_T_isChannel ∈ Gw := gm 701 (by decide +kernel) (by decide)
theorem l_T_181 : Cond.methodLink R_T 181 y_St_write ∈ Gw := gm 705 (by decide +kernel) (by decide)
theorem l_T_187 : Cond.methodLink R_T 187 y_St_fill ∈ Gw := gm 725 (by decide +kernel) (by decide)
theorem l_T_191 : Cond.methodLink R_T 191 y_As_receive ∈ Gw := gm 741 (by decide +kernel) (by decide)
theorem l_T_198 : Cond.methodLink R_T 198 y_Uf_size ∈ Gw := gm 761 (by decide +kernel) (by decide)
theorem l_T_201 : Cond.methodLink R_T 201 y_Rp_size ∈ Gw := gm 765 (by decide +kernel) (by decide)
theorem l_T_204 : Cond.methodLink R_T 204 y_Gr_tell ∈ Gw := gm 770 (by decide +kernel) (by decide)
theorem l_T_207 : Cond.methodLink R_T 207 y_St_size ∈ Gw := gm 785 (by decide +kernel) (by decide)
theorem l_T_208 : Cond.methodLink R_T 208 y_Cr_tell ∈ Gw := gm 789 (by decide +kernel) (by decide)
theorem l_T_209 : Cond.methodLink R_T 209 y_Uf_tell ∈ Gw := gm 800 (by decide +kernel) (by decide)
theorem l_T_212 : Cond.methodLink R_T 212 y_Rc_size ∈ Gw := gm 373 (by decide +kernel) (by decide)
theorem l_T_213 : Cond.methodLink R_T 213 y_Rc_has ∈ Gw := gm 811 (by decide +kernel) (by decide)
theorem l_T_216 : Cond.methodLink R_T 216 y_Rc_tell ∈ Gw := gm 816 (by decide +kernel) (by decide)
theorem l_T_217 : Cond.methodLink R_T 217 y_Ma_floorMod ∈ Gw := gm 578 (by decide +kernel) (by decide)
theorem f_Uf_9 : Cond.fieldLink R_Uf 9 "TeleStack$UpFrames" "kinds" "[I" ∈ Gw := gm 34 (by decide +kernel) (by decide)
theorem f_Uf_15 : Cond.fieldLink R_Uf 15 "TeleStack$UpFrames" "numbers" "[I" ∈ Gw := gm 35 (by decide +kernel) (by decide)
theorem f_Uf_18 : Cond.fieldLink R_Uf 18 "TeleStack$UpFrames" "commands" "[I" ∈ Gw := gm 36 (by decide +kernel) (by decide)
theorem f_Uf_21 : Cond.fieldLink R_Uf 21 "TeleStack$UpFrames" "size" "I" ∈ Gw := gm 37 (by decide +kernel) (by decide)
theorem f_Un_9 : Cond.fieldLink R_Un 9 "TeleStack$Unacknowledged" "numbers" "[I" ∈ Gw := gm 80 (by decide +kernel) (by decide)
theorem f_Un_15 : Cond.fieldLink R_Un 15 "TeleStack$Unacknowledged" "commands" "[I" ∈ Gw := gm 81 (by decide +kernel) (by decide)
theorem f_Un_18 : Cond.fieldLink R_Un 18 "TeleStack$Unacknowledged" "marks" "[Z" ∈ Gw := gm 82 (by decide +kernel) (by decide)
theorem f_Un_22 : Cond.fieldLink R_Un 22 "TeleStack$Unacknowledged" "size" "I" ∈ Gw := gm 83 (by decide +kernel) (by decide)
set_option maxRecDepth 100000 in
theorem gc_T_init : Cond.code y_T_init b_T_init 2 none ∈ Gw ∧ Cond.initialized y_T_init.cls ∈ Gw := ⟨gm 24 rfl (by decide), gm 1 (by decide +kernel) (by decide)⟩
set_option maxRecDepth 100000 in
theorem gc_T_tune : Cond.code y_T_tune b_T_tune 4 none ∈ Gw ∧ Cond.initialized y_T_tune.cls ∈ Gw := ⟨gm 385 rfl (by decide), gm 1 (by decide +kernel) (by decide)⟩
theorem m_T_tune : Cond.instanceMethod y_T_tune ∈ Gw ∧ Cond.selects R_T y_T_tune y_T_tune ∈ Gw := ⟨gm 383 (by decide +kernel) (by decide), gm 384 (by decide +kernel) (by decide)⟩
set_option maxRecDepth 100000 in
theorem gc_T_number : Cond.code y_T_number b_T_number 2 none ∈ Gw ∧ Cond.initialized y_T_number.cls ∈ Gw := ⟨gm 488 rfl (by decide), gm 1 (by decide +kernel) (by decide)⟩
theorem m_T_number : Cond.instanceMethod y_T_number ∈ Gw ∧ Cond.selects R_T y_T_number y_T_number ∈ Gw := ⟨gm 486 (by decide +kernel) (by decide), gm 487 (by decide +kernel) (by decide)⟩
set_option maxRecDepth 100000 in
theorem gc_T_begin : Cond.code y_T_begin b_T_begin 2 none ∈ Gw ∧ Cond.initialized y_T_begin.cls ∈ Gw := ⟨gm 500 rfl (by decide), gm 1 (by decide +kernel) (by decide)⟩
theorem m_T_begin : Cond.instanceMethod y_T_begin ∈ Gw ∧ Cond.selects R_T y_T_begin y_T_begin ∈ Gw := ⟨gm 498 (by decide +kernel) (by decide), gm 499 (by decide +kernel) (by decide)⟩
set_option maxRecDepth 100000 in
theorem gc_T_end : Cond.code y_T_end b_T_end 1 none ∈ Gw ∧ Cond.initialized y_T_end.cls ∈ Gw := ⟨gm 512 rfl (by decide), gm 1 (by decide +kernel) (by decide)⟩
theorem m_T_end : Cond.instanceMethod y_T_end ∈ Gw ∧ Cond.selects R_T y_T_end y_T_end ∈ Gw := ⟨gm 510 (by decide +kernel) (by decide), gm 511 (by decide +kernel) (by decide)⟩
set_option maxRecDepth 100000 in
theorem gc_T_command : Cond.code y_T_command b_T_command 2 (some .boolean) ∈ Gw ∧ Cond.initialized y_T_command.cls ∈ Gw := ⟨gm 521 rfl (by decide), gm 1 (by decide +kernel) (by decide)⟩
theorem m_T_command : Cond.instanceMethod y_T_command ∈ Gw ∧ Cond.selects R_T y_T_command y_T_command ∈ Gw := ⟨gm 519 (by decide +kernel) (by decide), gm 520 (by decide +kernel) (by decide)⟩
set_option maxRecDepth 100000 in
theorem gc_T_tick : Cond.code y_T_tick b_T_tick 1 (some .int) ∈ Gw ∧ Cond.initialized y_T_tick.cls ∈ Gw := ⟨gm 281 rfl (by decide), gm 1 (by decide +kernel) (by decide)⟩
theorem m_T_tick : Cond.instanceMethod y_T_tick ∈ Gw ∧ Cond.selects R_T y_T_tick y_T_tick ∈ Gw := ⟨gm 279 (by decide +kernel) (by decide), gm 280 (by decide +kernel) (by decide)⟩
set_option maxRecDepth 100000 in
theorem gc_T_raise : Cond.code y_T_raise b_T_raise 2 none ∈ Gw ∧ Cond.initialized y_T_raise.cls ∈ Gw := ⟨gm 538 rfl (by decide), gm 1 (by decide +kernel) (by decide)⟩
theorem m_T_raise : Cond.instanceMethod y_T_raise ∈ Gw ∧ Cond.selects R_T y_T_raise y_T_raise ∈ Gw := ⟨gm 536 (by decide +kernel) (by decide), gm 537 (by decide +kernel) (by decide)⟩
set_option maxRecDepth 100000 in
theorem gc_T_drop : Cond.code y_T_drop b_T_drop 2 none ∈ Gw ∧ Cond.initialized y_T_drop.cls ∈ Gw := ⟨gm 604 rfl (by decide), gm 1 (by decide +kernel) (by decide)⟩
theorem m_T_drop : Cond.instanceMethod y_T_drop ∈ Gw ∧ Cond.selects R_T y_T_drop y_T_drop ∈ Gw := ⟨gm 602 (by decide +kernel) (by decide), gm 603 (by decide +kernel) (by decide)⟩
set_option maxRecDepth 100000 in
theorem gc_T_take : Cond.code y_T_take b_T_take 1 (some .int) ∈ Gw ∧ Cond.initialized y_T_take.cls ∈ Gw := ⟨gm 612 rfl (by decide), gm 1 (by decide +kernel) (by decide)⟩
theorem m_T_take : Cond.instanceMethod y_T_take ∈ Gw ∧ Cond.selects R_T y_T_take y_T_take ∈ Gw := ⟨gm 610 (by decide +kernel) (by decide), gm 611 (by decide +kernel) (by decide)⟩
set_option maxRecDepth 100000 in
theorem gc_T_report : Cond.code y_T_report b_T_report 1 (some .boolean) ∈ Gw ∧ Cond.initialized y_T_report.cls ∈ Gw := ⟨gm 364 rfl (by decide), gm 1 (by decide +kernel) (by decide)⟩
theorem m_T_report : Cond.instanceMethod y_T_report ∈ Gw ∧ Cond.selects R_T y_T_report y_T_report ∈ Gw := ⟨gm 362 (by decide +kernel) (by decide), gm 363 (by decide +kernel) (by decide)⟩
set_option maxRecDepth 100000 in
theorem gc_T_answer : Cond.code y_T_answer b_T_answer 3 none ∈ Gw ∧ Cond.initialized y_T_answer.cls ∈ Gw := ⟨gm 643 rfl (by decide), gm 1 (by decide +kernel) (by decide)⟩
theorem m_T_answer : Cond.instanceMethod y_T_answer ∈ Gw ∧ Cond.selects R_T y_T_answer y_T_answer ∈ Gw := ⟨gm 641 (by decide +kernel) (by decide), gm 642 (by decide +kernel) (by decide)⟩
set_option maxRecDepth 100000 in
theorem gc_T_packet : Cond.code y_T_packet b_T_packet 4 (some .boolean) ∈ Gw ∧ Cond.initialized y_T_packet.cls ∈ Gw := ⟨gm 700 rfl (by decide), gm 1 (by decide +kernel) (by decide)⟩
theorem m_T_packet : Cond.instanceMethod y_T_packet ∈ Gw ∧ Cond.selects R_T y_T_packet y_T_packet ∈ Gw := ⟨gm 698 (by decide +kernel) (by decide), gm 699 (by decide +kernel) (by decide)⟩
set_option maxRecDepth 100000 in
theorem gc_T_frame : Cond.code y_T_frame b_T_frame 3 (some .int) ∈ Gw ∧ Cond.initialized y_T_frame.cls ∈ Gw := ⟨gm 723 rfl (by decide), gm 1 (by decide +kernel) (by decide)⟩
theorem m_T_frame : Cond.instanceMethod y_T_frame ∈ Gw ∧ Cond.selects R_T y_T_frame y_T_frame ∈ Gw := ⟨gm 721 (by decide +kernel) (by decide), gm 722 (by decide +kernel) (by decide)⟩
set_option maxRecDepth 100000 in
theorem gc_T_ground : Cond.code y_T_ground b_T_ground 2 (some .int) ∈ Gw ∧ Cond.initialized y_T_ground.cls ∈ Gw := ⟨gm 760 rfl (by decide), gm 1 (by decide +kernel) (by decide)⟩
theorem m_T_ground : Cond.instanceMethod y_T_ground ∈ Gw ∧ Cond.selects R_T y_T_ground y_T_ground ∈ Gw := ⟨gm 758 (by decide +kernel) (by decide), gm 759 (by decide +kernel) (by decide)⟩
set_option maxRecDepth 100000 in
theorem gc_T_craft : Cond.code y_T_craft b_T_craft 2 (some .int) ∈ Gw ∧ Cond.initialized y_T_craft.cls ∈ Gw := ⟨gm 784 rfl (by decide), gm 1 (by decide +kernel) (by decide)⟩
theorem m_T_craft : Cond.instanceMethod y_T_craft ∈ Gw ∧ Cond.selects R_T y_T_craft y_T_craft ∈ Gw := ⟨gm 782 (by decide +kernel) (by decide), gm 783 (by decide +kernel) (by decide)⟩
set_option maxRecDepth 100000 in
theorem gc_T_flight : Cond.code y_T_flight b_T_flight 3 (some .int) ∈ Gw ∧ Cond.initialized y_T_flight.cls ∈ Gw := ⟨gm 799 rfl (by decide), gm 1 (by decide +kernel) (by decide)⟩
theorem m_T_flight : Cond.instanceMethod y_T_flight ∈ Gw ∧ Cond.selects R_T y_T_flight y_T_flight ∈ Gw := ⟨gm 797 (by decide +kernel) (by decide), gm 798 (by decide +kernel) (by decide)⟩
set_option maxRecDepth 100000 in
theorem gc_T_packets : Cond.code y_T_packets b_T_packets 1 (some .int) ∈ Gw ∧ Cond.initialized y_T_packets.cls ∈ Gw := ⟨gm 372 rfl (by decide), gm 1 (by decide +kernel) (by decide)⟩
theorem m_T_packets : Cond.instanceMethod y_T_packets ∈ Gw ∧ Cond.selects R_T y_T_packets y_T_packets ∈ Gw := ⟨gm 370 (by decide +kernel) (by decide), gm 371 (by decide +kernel) (by decide)⟩
set_option maxRecDepth 100000 in
theorem gc_T_got : Cond.code y_T_got b_T_got 3 (some .int) ∈ Gw ∧ Cond.initialized y_T_got.cls ∈ Gw := ⟨gm 810 rfl (by decide), gm 1 (by decide +kernel) (by decide)⟩
theorem m_T_got : Cond.instanceMethod y_T_got ∈ Gw ∧ Cond.selects R_T y_T_got y_T_got ∈ Gw := ⟨gm 808 (by decide +kernel) (by decide), gm 809 (by decide +kernel) (by decide)⟩
set_option maxRecDepth 100000 in
theorem gc_T_isWithin : Cond.code y_T_isWithin b_T_isWithin 3 (some .boolean) ∈ Gw ∧ Cond.initialized y_T_isWithin.cls ∈ Gw := ⟨gm 461 rfl (by decide), gm 1 (by decide +kernel) (by decide)⟩
theorem m_T_isWithin : Cond.static y_T_isWithin ∈ Gw := gm 460 (by decide +kernel) (by decide)
set_option maxRecDepth 100000 in
theorem gc_T_isChannel : Cond.code y_T_isChannel b_T_isChannel 1 (some .boolean) ∈ Gw ∧ Cond.initialized y_T_isChannel.cls ∈ Gw := ⟨gm 703 rfl (by decide), gm 1 (by decide +kernel) (by decide)⟩
theorem m_T_isChannel : Cond.static y_T_isChannel ∈ Gw := gm 702 (by decide +kernel) (by decide)
set_option maxRecDepth 100000 in
theorem gc_T_following : Cond.code y_T_following b_T_following 1 (some .int) ∈ Gw ∧ Cond.initialized y_T_following.cls ∈ Gw := ⟨gm 360 rfl (by decide), gm 1 (by decide +kernel) (by decide)⟩
theorem m_T_following : Cond.static y_T_following ∈ Gw := gm 359 (by decide +kernel) (by decide)
set_option maxRecDepth 100000 in
theorem gc_T_distance : Cond.code y_T_distance b_T_distance 2 (some .int) ∈ Gw ∧ Cond.initialized y_T_distance.cls ∈ Gw := ⟨gm 577 rfl (by decide), gm 1 (by decide +kernel) (by decide)⟩
theorem m_T_distance : Cond.static y_T_distance ∈ Gw := gm 576 (by decide +kernel) (by decide)
set_option maxRecDepth 100000 in
theorem gc_M_init : Cond.code y_M_init b_M_init 1 none ∈ Gw ∧ Cond.initialized y_M_init.cls ∈ Gw := ⟨gm 824 rfl (by decide), gm 11 (by decide +kernel) (by decide)⟩
set_option maxRecDepth 100000 in
theorem gc_M_thrown : Cond.code y_M_thrown b_M_thrown 1 (some .int) ∈ Gw ∧ Cond.initialized y_M_thrown.cls ∈ Gw := ⟨gm 953 rfl (by decide), gm 11 (by decide +kernel) (by decide)⟩
theorem m_M_thrown : Cond.instanceMethod y_M_thrown ∈ Gw ∧ Cond.selects R_M y_M_thrown y_M_thrown ∈ Gw := ⟨gm 951 (by decide +kernel) (by decide), gm 952 (by decide +kernel) (by decide)⟩
set_option maxRecDepth 100000 in
theorem gc_M_outside : Cond.code y_M_outside b_M_outside 3 (some .boolean) ∈ Gw ∧ Cond.initialized y_M_outside.cls ∈ Gw := ⟨gm 960 rfl (by decide), gm 11 (by decide +kernel) (by decide)⟩
theorem m_M_outside : Cond.static y_M_outside ∈ Gw := gm 959 (by decide +kernel) (by decide)
set_option maxRecDepth 100000 in
theorem gc_M_fails : Cond.code y_M_fails b_M_fails 3 (some .boolean) ∈ Gw ∧ Cond.initialized y_M_fails.cls ∈ Gw := ⟨gm 964 rfl (by decide), gm 11 (by decide +kernel) (by decide)⟩
theorem m_M_fails : Cond.instanceMethod y_M_fails ∈ Gw ∧ Cond.selects R_M y_M_fails y_M_fails ∈ Gw := ⟨gm 963 (by decide +kernel) (by decide), gs (by decide +kernel) (by decide)⟩
set_option maxRecDepth 100000 in
theorem gc_M_tune : Cond.code y_M_tune b_M_tune 4 none ∈ Gw ∧ Cond.initialized y_M_tune.cls ∈ Gw := ⟨gm 957 rfl (by decide), gm 11 (by decide +kernel) (by decide)⟩
theorem m_M_tune : Cond.instanceMethod y_M_tune ∈ Gw ∧ Cond.selects R_M y_M_tune y_M_tune ∈ Gw := ⟨gm 955 (by decide +kernel) (by decide), gm 956 (by decide +kernel) (by decide)⟩
set_option maxRecDepth 100000 in
theorem gc_M_number : Cond.code y_M_number b_M_number 2 none ∈ Gw ∧ Cond.initialized y_M_number.cls ∈ Gw := ⟨gm 968 rfl (by decide), gm 11 (by decide +kernel) (by decide)⟩
theorem m_M_number : Cond.instanceMethod y_M_number ∈ Gw ∧ Cond.selects R_M y_M_number y_M_number ∈ Gw := ⟨gm 966 (by decide +kernel) (by decide), gm 967 (by decide +kernel) (by decide)⟩
set_option maxRecDepth 100000 in
theorem gc_M_begin : Cond.code y_M_begin b_M_begin 2 none ∈ Gw ∧ Cond.initialized y_M_begin.cls ∈ Gw := ⟨gm 972 rfl (by decide), gm 11 (by decide +kernel) (by decide)⟩
theorem m_M_begin : Cond.instanceMethod y_M_begin ∈ Gw ∧ Cond.selects R_M y_M_begin y_M_begin ∈ Gw := ⟨gm 970 (by decide +kernel) (by decide), gm 971 (by decide +kernel) (by decide)⟩
set_option maxRecDepth 100000 in
theorem gc_M_ends : Cond.code y_M_ends b_M_ends 1 none ∈ Gw ∧ Cond.initialized y_M_ends.cls ∈ Gw := ⟨gm 980 rfl (by decide), gm 11 (by decide +kernel) (by decide)⟩
theorem m_M_ends : Cond.instanceMethod y_M_ends ∈ Gw ∧ Cond.selects R_M y_M_ends y_M_ends ∈ Gw := ⟨gm 979 (by decide +kernel) (by decide), gs (by decide +kernel) (by decide)⟩
set_option maxRecDepth 100000 in
theorem gc_M_alarm : Cond.code y_M_alarm b_M_alarm 2 none ∈ Gw ∧ Cond.initialized y_M_alarm.cls ∈ Gw := ⟨gm 996 rfl (by decide), gm 11 (by decide +kernel) (by decide)⟩
theorem m_M_alarm : Cond.instanceMethod y_M_alarm ∈ Gw ∧ Cond.selects R_M y_M_alarm y_M_alarm ∈ Gw := ⟨gm 995 (by decide +kernel) (by decide), gs (by decide +kernel) (by decide)⟩
set_option maxRecDepth 100000 in
theorem gc_M_end : Cond.code y_M_end b_M_end 1 none ∈ Gw ∧ Cond.initialized y_M_end.cls ∈ Gw := ⟨gm 976 rfl (by decide), gm 11 (by decide +kernel) (by decide)⟩
theorem m_M_end : Cond.instanceMethod y_M_end ∈ Gw ∧ Cond.selects R_M y_M_end y_M_end ∈ Gw := ⟨gm 974 (by decide +kernel) (by decide), gm 975 (by decide +kernel) (by decide)⟩
set_option maxRecDepth 100000 in
theorem gc_M_command : Cond.code y_M_command b_M_command 2 (some .boolean) ∈ Gw ∧ Cond.initialized y_M_command.cls ∈ Gw := ⟨gm 984 rfl (by decide), gm 11 (by decide +kernel) (by decide)⟩
theorem m_M_command : Cond.instanceMethod y_M_command ∈ Gw ∧ Cond.selects R_M y_M_command y_M_command ∈ Gw := ⟨gm 982 (by decide +kernel) (by decide), gm 983 (by decide +kernel) (by decide)⟩
set_option maxRecDepth 100000 in
theorem gc_M_resend : Cond.code y_M_resend b_M_resend 3 none ∈ Gw ∧ Cond.initialized y_M_resend.cls ∈ Gw := ⟨gm 1000 rfl (by decide), gm 11 (by decide +kernel) (by decide)⟩
theorem m_M_resend : Cond.instanceMethod y_M_resend ∈ Gw ∧ Cond.selects R_M y_M_resend y_M_resend ∈ Gw := ⟨gm 999 (by decide +kernel) (by decide), gs (by decide +kernel) (by decide)⟩
set_option maxRecDepth 100000 in
theorem gc_M_sends : Cond.code y_M_sends b_M_sends 4 (some .int) ∈ Gw ∧ Cond.initialized y_M_sends.cls ∈ Gw := ⟨gm 1004 rfl (by decide), gm 11 (by decide +kernel) (by decide)⟩
theorem m_M_sends : Cond.instanceMethod y_M_sends ∈ Gw ∧ Cond.selects R_M y_M_sends y_M_sends ∈ Gw := ⟨gm 1003 (by decide +kernel) (by decide), gs (by decide +kernel) (by decide)⟩
set_option maxRecDepth 100000 in
theorem gc_M_rings : Cond.code y_M_rings b_M_rings 2 none ∈ Gw ∧ Cond.initialized y_M_rings.cls ∈ Gw := ⟨gm 992 rfl (by decide), gm 11 (by decide +kernel) (by decide)⟩
theorem m_M_rings : Cond.instanceMethod y_M_rings ∈ Gw ∧ Cond.selects R_M y_M_rings y_M_rings ∈ Gw := ⟨gm 991 (by decide +kernel) (by decide), gs (by decide +kernel) (by decide)⟩
set_option maxRecDepth 100000 in
theorem gc_M_tick : Cond.code y_M_tick b_M_tick 2 (some .int) ∈ Gw ∧ Cond.initialized y_M_tick.cls ∈ Gw := ⟨gm 988 rfl (by decide), gm 11 (by decide +kernel) (by decide)⟩
theorem m_M_tick : Cond.instanceMethod y_M_tick ∈ Gw ∧ Cond.selects R_M y_M_tick y_M_tick ∈ Gw := ⟨gm 986 (by decide +kernel) (by decide), gm 987 (by decide +kernel) (by decide)⟩
set_option maxRecDepth 100000 in
theorem gc_M_out : Cond.code y_M_out b_M_out 3 none ∈ Gw ∧ Cond.initialized y_M_out.cls ∈ Gw := ⟨gm 1012 rfl (by decide), gm 11 (by decide +kernel) (by decide)⟩
theorem m_M_out : Cond.instanceMethod y_M_out ∈ Gw ∧ Cond.selects R_M y_M_out y_M_out ∈ Gw := ⟨gm 1011 (by decide +kernel) (by decide), gs (by decide +kernel) (by decide)⟩
set_option maxRecDepth 100000 in
theorem gc_M_raise : Cond.code y_M_raise b_M_raise 6 none ∈ Gw ∧ Cond.initialized y_M_raise.cls ∈ Gw := ⟨gm 1008 rfl (by decide), gm 11 (by decide +kernel) (by decide)⟩
theorem m_M_raise : Cond.instanceMethod y_M_raise ∈ Gw ∧ Cond.selects R_M y_M_raise y_M_raise ∈ Gw := ⟨gm 1006 (by decide +kernel) (by decide), gm 1007 (by decide +kernel) (by decide)⟩
set_option maxRecDepth 100000 in
theorem gc_M_comes : Cond.code y_M_comes b_M_comes 3 none ∈ Gw ∧ Cond.initialized y_M_comes.cls ∈ Gw := ⟨gm 1016 rfl (by decide), gm 11 (by decide +kernel) (by decide)⟩
theorem m_M_comes : Cond.instanceMethod y_M_comes ∈ Gw ∧ Cond.selects R_M y_M_comes y_M_comes ∈ Gw := ⟨gm 1015 (by decide +kernel) (by decide), gs (by decide +kernel) (by decide)⟩
set_option maxRecDepth 100000 in
theorem gc_M_drop : Cond.code y_M_drop b_M_drop 2 none ∈ Gw ∧ Cond.initialized y_M_drop.cls ∈ Gw := ⟨gm 1020 rfl (by decide), gm 11 (by decide +kernel) (by decide)⟩
theorem m_M_drop : Cond.instanceMethod y_M_drop ∈ Gw ∧ Cond.selects R_M y_M_drop y_M_drop ∈ Gw := ⟨gm 1018 (by decide +kernel) (by decide), gm 1019 (by decide +kernel) (by decide)⟩
set_option maxRecDepth 100000 in
theorem gc_M_take : Cond.code y_M_take b_M_take 2 (some .int) ∈ Gw ∧ Cond.initialized y_M_take.cls ∈ Gw := ⟨gm 1024 rfl (by decide), gm 11 (by decide +kernel) (by decide)⟩
theorem m_M_take : Cond.instanceMethod y_M_take ∈ Gw ∧ Cond.selects R_M y_M_take y_M_take ∈ Gw := ⟨gm 1022 (by decide +kernel) (by decide), gm 1023 (by decide +kernel) (by decide)⟩
set_option maxRecDepth 100000 in
theorem gc_M_report : Cond.code y_M_report b_M_report 1 (some .boolean) ∈ Gw ∧ Cond.initialized y_M_report.cls ∈ Gw := ⟨gm 1028 rfl (by decide), gm 11 (by decide +kernel) (by decide)⟩
theorem m_M_report : Cond.instanceMethod y_M_report ∈ Gw ∧ Cond.selects R_M y_M_report y_M_report ∈ Gw := ⟨gm 1026 (by decide +kernel) (by decide), gm 1027 (by decide +kernel) (by decide)⟩
set_option maxRecDepth 100000 in
theorem gc_M_answer : Cond.code y_M_answer b_M_answer 5 none ∈ Gw ∧ Cond.initialized y_M_answer.cls ∈ Gw := ⟨gm 1032 rfl (by decide), gm 11 (by decide +kernel) (by decide)⟩
theorem m_M_answer : Cond.instanceMethod y_M_answer ∈ Gw ∧ Cond.selects R_M y_M_answer y_M_answer ∈ Gw := ⟨gm 1030 (by decide +kernel) (by decide), gm 1031 (by decide +kernel) (by decide)⟩
set_option maxRecDepth 100000 in
theorem gc_M_read : Cond.code y_M_read b_M_read 5 none ∈ Gw ∧ Cond.initialized y_M_read.cls ∈ Gw := ⟨gm 1036 rfl (by decide), gm 11 (by decide +kernel) (by decide)⟩
theorem m_M_read : Cond.instanceMethod y_M_read ∈ Gw ∧ Cond.selects R_M y_M_read y_M_read ∈ Gw := ⟨gm 1035 (by decide +kernel) (by decide), gs (by decide +kernel) (by decide)⟩
set_option maxRecDepth 100000 in
theorem gc_M_puts : Cond.code y_M_puts b_M_puts 3 none ∈ Gw ∧ Cond.initialized y_M_puts.cls ∈ Gw := ⟨gm 1044 rfl (by decide), gm 11 (by decide +kernel) (by decide)⟩
theorem m_M_puts : Cond.instanceMethod y_M_puts ∈ Gw ∧ Cond.selects R_M y_M_puts y_M_puts ∈ Gw := ⟨gm 1043 (by decide +kernel) (by decide), gs (by decide +kernel) (by decide)⟩
set_option maxRecDepth 100000 in
theorem gc_M_packet : Cond.code y_M_packet b_M_packet 5 (some .boolean) ∈ Gw ∧ Cond.initialized y_M_packet.cls ∈ Gw := ⟨gm 1040 rfl (by decide), gm 11 (by decide +kernel) (by decide)⟩
theorem m_M_packet : Cond.instanceMethod y_M_packet ∈ Gw ∧ Cond.selects R_M y_M_packet y_M_packet ∈ Gw := ⟨gm 1038 (by decide +kernel) (by decide), gm 1039 (by decide +kernel) (by decide)⟩
set_option maxRecDepth 100000 in
theorem gc_M_frame : Cond.code y_M_frame b_M_frame 5 (some .int) ∈ Gw ∧ Cond.initialized y_M_frame.cls ∈ Gw := ⟨gm 1048 rfl (by decide), gm 11 (by decide +kernel) (by decide)⟩
theorem m_M_frame : Cond.instanceMethod y_M_frame ∈ Gw ∧ Cond.selects R_M y_M_frame y_M_frame ∈ Gw := ⟨gm 1046 (by decide +kernel) (by decide), gm 1047 (by decide +kernel) (by decide)⟩
set_option maxRecDepth 100000 in
theorem gc_M_comesDown : Cond.code y_M_comesDown b_M_comesDown 6 none ∈ Gw ∧ Cond.initialized y_M_comesDown.cls ∈ Gw := ⟨gm 1052 rfl (by decide), gm 11 (by decide +kernel) (by decide)⟩
theorem m_M_comesDown : Cond.instanceMethod y_M_comesDown ∈ Gw ∧ Cond.selects R_M y_M_comesDown y_M_comesDown ∈ Gw := ⟨gm 1051 (by decide +kernel) (by decide), gs (by decide +kernel) (by decide)⟩
set_option maxRecDepth 100000 in
theorem gc_M_readCell : Cond.code y_M_readCell b_M_readCell 3 none ∈ Gw ∧ Cond.initialized y_M_readCell.cls ∈ Gw := ⟨gm 1056 rfl (by decide), gm 11 (by decide +kernel) (by decide)⟩
theorem m_M_readCell : Cond.instanceMethod y_M_readCell ∈ Gw ∧ Cond.selects R_M y_M_readCell y_M_readCell ∈ Gw := ⟨gm 1055 (by decide +kernel) (by decide), gs (by decide +kernel) (by decide)⟩
set_option maxRecDepth 100000 in
theorem gc_M_marks : Cond.code y_M_marks b_M_marks 3 (some .int) ∈ Gw ∧ Cond.initialized y_M_marks.cls ∈ Gw := ⟨gm 1064 rfl (by decide), gm 11 (by decide +kernel) (by decide)⟩
theorem m_M_marks : Cond.instanceMethod y_M_marks ∈ Gw ∧ Cond.selects R_M y_M_marks y_M_marks ∈ Gw := ⟨gm 1063 (by decide +kernel) (by decide), gs (by decide +kernel) (by decide)⟩
set_option maxRecDepth 100000 in
theorem gc_M_ground : Cond.code y_M_ground b_M_ground 2 (some .int) ∈ Gw ∧ Cond.initialized y_M_ground.cls ∈ Gw := ⟨gm 1060 rfl (by decide), gm 11 (by decide +kernel) (by decide)⟩
theorem m_M_ground : Cond.instanceMethod y_M_ground ∈ Gw ∧ Cond.selects R_M y_M_ground y_M_ground ∈ Gw := ⟨gm 1058 (by decide +kernel) (by decide), gm 1059 (by decide +kernel) (by decide)⟩
set_option maxRecDepth 100000 in
theorem gc_M_craft : Cond.code y_M_craft b_M_craft 2 (some .int) ∈ Gw ∧ Cond.initialized y_M_craft.cls ∈ Gw := ⟨gm 1068 rfl (by decide), gm 11 (by decide +kernel) (by decide)⟩
theorem m_M_craft : Cond.instanceMethod y_M_craft ∈ Gw ∧ Cond.selects R_M y_M_craft y_M_craft ∈ Gw := ⟨gm 1066 (by decide +kernel) (by decide), gm 1067 (by decide +kernel) (by decide)⟩
set_option maxRecDepth 100000 in
theorem gc_M_flight : Cond.code y_M_flight b_M_flight 3 (some .int) ∈ Gw ∧ Cond.initialized y_M_flight.cls ∈ Gw := ⟨gm 1072 rfl (by decide), gm 11 (by decide +kernel) (by decide)⟩
theorem m_M_flight : Cond.instanceMethod y_M_flight ∈ Gw ∧ Cond.selects R_M y_M_flight y_M_flight ∈ Gw := ⟨gm 1070 (by decide +kernel) (by decide), gm 1071 (by decide +kernel) (by decide)⟩
set_option maxRecDepth 100000 in
theorem gc_M_packets : Cond.code y_M_packets b_M_packets 1 (some .int) ∈ Gw ∧ Cond.initialized y_M_packets.cls ∈ Gw := ⟨gm 1076 rfl (by decide), gm 11 (by decide +kernel) (by decide)⟩
theorem m_M_packets : Cond.instanceMethod y_M_packets ∈ Gw ∧ Cond.selects R_M y_M_packets y_M_packets ∈ Gw := ⟨gm 1074 (by decide +kernel) (by decide), gm 1075 (by decide +kernel) (by decide)⟩
set_option maxRecDepth 100000 in
theorem gc_M_got : Cond.code y_M_got b_M_got 3 (some .int) ∈ Gw ∧ Cond.initialized y_M_got.cls ∈ Gw := ⟨gm 1080 rfl (by decide), gm 11 (by decide +kernel) (by decide)⟩
theorem m_M_got : Cond.instanceMethod y_M_got ∈ Gw ∧ Cond.selects R_M y_M_got y_M_got ∈ Gw := ⟨gm 1078 (by decide +kernel) (by decide), gm 1079 (by decide +kernel) (by decide)⟩
set_option maxRecDepth 100000 in
theorem gc_As_init : Cond.code y_As_init b_As_init 2 none ∈ Gw ∧ Cond.initialized y_As_init.cls ∈ Gw := ⟨gm 186 rfl (by decide), gm 8 (by decide +kernel) (by decide)⟩
set_option maxRecDepth 100000 in
theorem gc_As_receive : Cond.code y_As_receive b_As_receive 5 none ∈ Gw ∧ Cond.initialized y_As_receive.cls ∈ Gw := ⟨gm 744 rfl (by decide), gm 8 (by decide +kernel) (by decide)⟩
theorem m_As_receive : Cond.instanceMethod y_As_receive ∈ Gw ∧ Cond.selects R_As y_As_receive y_As_receive ∈ Gw := ⟨gm 742 (by decide +kernel) (by decide), gm 743 (by decide +kernel) (by decide)⟩
set_option maxRecDepth 100000 in
theorem gc_As_read : Cond.code y_As_read b_As_read 3 none ∈ Gw ∧ Cond.initialized y_As_read.cls ∈ Gw := ⟨gm 748 rfl (by decide), gm 8 (by decide +kernel) (by decide)⟩
theorem m_As_read : Cond.instanceMethod y_As_read ∈ Gw ∧ Cond.selects R_As y_As_read y_As_read ∈ Gw := ⟨gm 747 (by decide +kernel) (by decide), gs (by decide +kernel) (by decide)⟩
set_option maxRecDepth 100000 in
theorem gc_Cr_init : Cond.code y_Cr_init b_Cr_init 1 none ∈ Gw ∧ Cond.initialized y_Cr_init.cls ∈ Gw := ⟨gm 140 rfl (by decide), gm 6 (by decide +kernel) (by decide)⟩
set_option maxRecDepth 100000 in
theorem gc_Cr_queued : Cond.code y_Cr_queued b_Cr_queued 1 (some .int) ∈ Gw ∧ Cond.initialized y_Cr_queued.cls ∈ Gw := ⟨gm 616 rfl (by decide), gm 6 (by decide +kernel) (by decide)⟩
theorem m_Cr_queued : Cond.instanceMethod y_Cr_queued ∈ Gw ∧ Cond.selects R_Cr y_Cr_queued y_Cr_queued ∈ Gw := ⟨gm 614 (by decide +kernel) (by decide), gm 615 (by decide +kernel) (by decide)⟩
set_option maxRecDepth 100000 in
theorem gc_Cr_takeFirst : Cond.code y_Cr_takeFirst b_Cr_takeFirst 3 (some .int) ∈ Gw ∧ Cond.initialized y_Cr_takeFirst.cls ∈ Gw := ⟨gm 636 rfl (by decide), gm 6 (by decide +kernel) (by decide)⟩
theorem m_Cr_takeFirst : Cond.instanceMethod y_Cr_takeFirst ∈ Gw ∧ Cond.selects R_Cr y_Cr_takeFirst y_Cr_takeFirst ∈ Gw := ⟨gm 634 (by decide +kernel) (by decide), gm 635 (by decide +kernel) (by decide)⟩
set_option maxRecDepth 100000 in
theorem gc_Cr_receive : Cond.code y_Cr_receive b_Cr_receive 4 none ∈ Gw ∧ Cond.initialized y_Cr_receive.cls ∈ Gw := ⟨gm 574 rfl (by decide), gm 6 (by decide +kernel) (by decide)⟩
theorem m_Cr_receive : Cond.instanceMethod y_Cr_receive ∈ Gw ∧ Cond.selects R_Cr y_Cr_receive y_Cr_receive ∈ Gw := ⟨gm 572 (by decide +kernel) (by decide), gm 573 (by decide +kernel) (by decide)⟩
set_option maxRecDepth 100000 in
theorem gc_Cr_tell : Cond.code y_Cr_tell b_Cr_tell 2 (some .int) ∈ Gw ∧ Cond.initialized y_Cr_tell.cls ∈ Gw := ⟨gm 792 rfl (by decide), gm 6 (by decide +kernel) (by decide)⟩
theorem m_Cr_tell : Cond.instanceMethod y_Cr_tell ∈ Gw ∧ Cond.selects R_Cr y_Cr_tell y_Cr_tell ∈ Gw := ⟨gm 790 (by decide +kernel) (by decide), gm 791 (by decide +kernel) (by decide)⟩
set_option maxRecDepth 100000 in
theorem gc_Cr_reopen : Cond.code y_Cr_reopen b_Cr_reopen 1 none ∈ Gw ∧ Cond.initialized y_Cr_reopen.cls ∈ Gw := ⟨gm 593 rfl (by decide), gm 6 (by decide +kernel) (by decide)⟩
theorem m_Cr_reopen : Cond.instanceMethod y_Cr_reopen ∈ Gw ∧ Cond.selects R_Cr y_Cr_reopen y_Cr_reopen ∈ Gw := ⟨gm 592 (by decide +kernel) (by decide), gs (by decide +kernel) (by decide)⟩
set_option maxRecDepth 100000 in
theorem gc_Cr_receiveCommand : Cond.code y_Cr_receiveCommand b_Cr_receiveCommand 3 none ∈ Gw ∧ Cond.initialized y_Cr_receiveCommand.cls ∈ Gw := ⟨gm 584 rfl (by decide), gm 6 (by decide +kernel) (by decide)⟩
theorem m_Cr_receiveCommand : Cond.instanceMethod y_Cr_receiveCommand ∈ Gw ∧ Cond.selects R_Cr y_Cr_receiveCommand y_Cr_receiveCommand ∈ Gw := ⟨gm 583 (by decide +kernel) (by decide), gs (by decide +kernel) (by decide)⟩
set_option maxRecDepth 100000 in
theorem gc_Cr_receiveExpected : Cond.code y_Cr_receiveExpected b_Cr_receiveExpected 2 none ∈ Gw ∧ Cond.initialized y_Cr_receiveExpected.cls ∈ Gw := ⟨gm 588 rfl (by decide), gm 6 (by decide +kernel) (by decide)⟩
theorem m_Cr_receiveExpected : Cond.instanceMethod y_Cr_receiveExpected ∈ Gw ∧ Cond.selects R_Cr y_Cr_receiveExpected y_Cr_receiveExpected ∈ Gw := ⟨gm 587 (by decide +kernel) (by decide), gs (by decide +kernel) (by decide)⟩
set_option maxRecDepth 100000 in
theorem gc_Df_init : Cond.code y_Df_init b_Df_init 1 none ∈ Gw ∧ Cond.initialized y_Df_init.cls ∈ Gw := ⟨gm 214 rfl (by decide), gm 9 (by decide +kernel) (by decide)⟩
set_option maxRecDepth 100000 in
theorem gc_Gr_init : Cond.code y_Gr_init b_Gr_init 1 none ∈ Gw ∧ Cond.initialized y_Gr_init.cls ∈ Gw := ⟨gm 72 rfl (by decide), gm 4 (by decide +kernel) (by decide)⟩
set_option maxRecDepth 100000 in
theorem gc_Gr_isIdle : Cond.code y_Gr_isIdle b_Gr_isIdle 1 (some .boolean) ∈ Gw ∧ Cond.initialized y_Gr_isIdle.cls ∈ Gw := ⟨gm 389 rfl (by decide), gm 4 (by decide +kernel) (by decide)⟩
theorem m_Gr_isIdle : Cond.instanceMethod y_Gr_isIdle ∈ Gw ∧ Cond.selects R_Gr y_Gr_isIdle y_Gr_isIdle ∈ Gw := ⟨gm 387 (by decide +kernel) (by decide), gm 388 (by decide +kernel) (by decide)⟩
set_option maxRecDepth 100000 in
theorem gc_Gr_takesCommands : Cond.code y_Gr_takesCommands b_Gr_takesCommands 1 (some .boolean) ∈ Gw ∧ Cond.initialized y_Gr_takesCommands.cls ∈ Gw := ⟨gm 525 rfl (by decide), gm 4 (by decide +kernel) (by decide)⟩
theorem m_Gr_takesCommands : Cond.instanceMethod y_Gr_takesCommands ∈ Gw ∧ Cond.selects R_Gr y_Gr_takesCommands y_Gr_takesCommands ∈ Gw := ⟨gm 523 (by decide +kernel) (by decide), gm 524 (by decide +kernel) (by decide)⟩
set_option maxRecDepth 100000 in
theorem gc_Gr_adjust : Cond.code y_Gr_adjust b_Gr_adjust 4 none ∈ Gw ∧ Cond.initialized y_Gr_adjust.cls ∈ Gw := ⟨gm 481 rfl (by decide), gm 4 (by decide +kernel) (by decide)⟩
theorem m_Gr_adjust : Cond.instanceMethod y_Gr_adjust ∈ Gw ∧ Cond.selects R_Gr y_Gr_adjust y_Gr_adjust ∈ Gw := ⟨gm 479 (by decide +kernel) (by decide), gm 480 (by decide +kernel) (by decide)⟩
set_option maxRecDepth 100000 in
theorem gc_Gr_renumber : Cond.code y_Gr_renumber b_Gr_renumber 2 none ∈ Gw ∧ Cond.initialized y_Gr_renumber.cls ∈ Gw := ⟨gm 493 rfl (by decide), gm 4 (by decide +kernel) (by decide)⟩
theorem m_Gr_renumber : Cond.instanceMethod y_Gr_renumber ∈ Gw ∧ Cond.selects R_Gr y_Gr_renumber y_Gr_renumber ∈ Gw := ⟨gm 491 (by decide +kernel) (by decide), gm 492 (by decide +kernel) (by decide)⟩
set_option maxRecDepth 100000 in
theorem gc_Gr_start : Cond.code y_Gr_start b_Gr_start 2 none ∈ Gw ∧ Cond.initialized y_Gr_start.cls ∈ Gw := ⟨gm 505 rfl (by decide), gm 4 (by decide +kernel) (by decide)⟩
theorem m_Gr_start : Cond.instanceMethod y_Gr_start ∈ Gw ∧ Cond.selects R_Gr y_Gr_start y_Gr_start ∈ Gw := ⟨gm 503 (by decide +kernel) (by decide), gm 504 (by decide +kernel) (by decide)⟩
set_option maxRecDepth 100000 in
theorem gc_Gr_finish : Cond.code y_Gr_finish b_Gr_finish 1 none ∈ Gw ∧ Cond.initialized y_Gr_finish.cls ∈ Gw := ⟨gm 297 rfl (by decide), gm 4 (by decide +kernel) (by decide)⟩
theorem m_Gr_finish : Cond.instanceMethod y_Gr_finish ∈ Gw ∧ Cond.selects R_Gr y_Gr_finish y_Gr_finish ∈ Gw := ⟨gm 295 (by decide +kernel) (by decide), gm 296 (by decide +kernel) (by decide)⟩
set_option maxRecDepth 100000 in
theorem gc_Gr_offer : Cond.code y_Gr_offer b_Gr_offer 2 (some .boolean) ∈ Gw ∧ Cond.initialized y_Gr_offer.cls ∈ Gw := ⟨gm 530 rfl (by decide), gm 4 (by decide +kernel) (by decide)⟩
theorem m_Gr_offer : Cond.instanceMethod y_Gr_offer ∈ Gw ∧ Cond.selects R_Gr y_Gr_offer y_Gr_offer ∈ Gw := ⟨gm 528 (by decide +kernel) (by decide), gm 529 (by decide +kernel) (by decide)⟩
set_option maxRecDepth 100000 in
theorem gc_Gr_pass : Cond.code y_Gr_pass b_Gr_pass 2 (some .int) ∈ Gw ∧ Cond.initialized y_Gr_pass.cls ∈ Gw := ⟨gm 285 rfl (by decide), gm 4 (by decide +kernel) (by decide)⟩
theorem m_Gr_pass : Cond.instanceMethod y_Gr_pass ∈ Gw ∧ Cond.selects R_Gr y_Gr_pass y_Gr_pass ∈ Gw := ⟨gm 283 (by decide +kernel) (by decide), gm 284 (by decide +kernel) (by decide)⟩
set_option maxRecDepth 100000 in
theorem gc_Gr_hear : Cond.code y_Gr_hear b_Gr_hear 5 none ∈ Gw ∧ Cond.initialized y_Gr_hear.cls ∈ Gw := ⟨gm 664 rfl (by decide), gm 4 (by decide +kernel) (by decide)⟩
theorem m_Gr_hear : Cond.instanceMethod y_Gr_hear ∈ Gw ∧ Cond.selects R_Gr y_Gr_hear y_Gr_hear ∈ Gw := ⟨gm 662 (by decide +kernel) (by decide), gm 663 (by decide +kernel) (by decide)⟩
set_option maxRecDepth 100000 in
theorem gc_Gr_tell : Cond.code y_Gr_tell b_Gr_tell 2 (some .int) ∈ Gw ∧ Cond.initialized y_Gr_tell.cls ∈ Gw := ⟨gm 773 rfl (by decide), gm 4 (by decide +kernel) (by decide)⟩
theorem m_Gr_tell : Cond.instanceMethod y_Gr_tell ∈ Gw ∧ Cond.selects R_Gr y_Gr_tell y_Gr_tell ∈ Gw := ⟨gm 771 (by decide +kernel) (by decide), gm 772 (by decide +kernel) (by decide)⟩
set_option maxRecDepth 100000 in
theorem gc_Gr_isSending : Cond.code y_Gr_isSending b_Gr_isSending 1 (some .boolean) ∈ Gw ∧ Cond.initialized y_Gr_isSending.cls ∈ Gw := ⟨gm 305 rfl (by decide), gm 4 (by decide +kernel) (by decide)⟩
theorem m_Gr_isSending : Cond.instanceMethod y_Gr_isSending ∈ Gw ∧ Cond.selects R_Gr y_Gr_isSending y_Gr_isSending ∈ Gw := ⟨gm 304 (by decide +kernel) (by decide), gs (by decide +kernel) (by decide)⟩
set_option maxRecDepth 100000 in
theorem gc_Gr_alarm : Cond.code y_Gr_alarm b_Gr_alarm 2 none ∈ Gw ∧ Cond.initialized y_Gr_alarm.cls ∈ Gw := ⟨gm 293 rfl (by decide), gm 4 (by decide +kernel) (by decide)⟩
theorem m_Gr_alarm : Cond.instanceMethod y_Gr_alarm ∈ Gw ∧ Cond.selects R_Gr y_Gr_alarm y_Gr_alarm ∈ Gw := ⟨gm 292 (by decide +kernel) (by decide), gs (by decide +kernel) (by decide)⟩
set_option maxRecDepth 100000 in
theorem gc_Gr_tryAgain : Cond.code y_Gr_tryAgain b_Gr_tryAgain 1 none ∈ Gw ∧ Cond.initialized y_Gr_tryAgain.cls ∈ Gw := ⟨gm 309 rfl (by decide), gm 4 (by decide +kernel) (by decide)⟩
theorem m_Gr_tryAgain : Cond.instanceMethod y_Gr_tryAgain ∈ Gw ∧ Cond.selects R_Gr y_Gr_tryAgain y_Gr_tryAgain ∈ Gw := ⟨gm 308 (by decide +kernel) (by decide), gs (by decide +kernel) (by decide)⟩
set_option maxRecDepth 100000 in
theorem gc_Gr_resend : Cond.code y_Gr_resend b_Gr_resend 1 none ∈ Gw ∧ Cond.initialized y_Gr_resend.cls ∈ Gw := ⟨gm 689 rfl (by decide), gm 4 (by decide +kernel) (by decide)⟩
theorem m_Gr_resend : Cond.instanceMethod y_Gr_resend ∈ Gw ∧ Cond.selects R_Gr y_Gr_resend y_Gr_resend ∈ Gw := ⟨gm 688 (by decide +kernel) (by decide), gs (by decide +kernel) (by decide)⟩
set_option maxRecDepth 100000 in
theorem gc_Gr_runOut : Cond.code y_Gr_runOut b_Gr_runOut 1 none ∈ Gw ∧ Cond.initialized y_Gr_runOut.cls ∈ Gw := ⟨gm 289 rfl (by decide), gm 4 (by decide +kernel) (by decide)⟩
theorem m_Gr_runOut : Cond.instanceMethod y_Gr_runOut ∈ Gw ∧ Cond.selects R_Gr y_Gr_runOut y_Gr_runOut ∈ Gw := ⟨gm 288 (by decide +kernel) (by decide), gs (by decide +kernel) (by decide)⟩
set_option maxRecDepth 100000 in
theorem gc_Gr_sendStart : Cond.code y_Gr_sendStart b_Gr_sendStart 2 (some .int) ∈ Gw ∧ Cond.initialized y_Gr_sendStart.cls ∈ Gw := ⟨gm 317 rfl (by decide), gm 4 (by decide +kernel) (by decide)⟩
theorem m_Gr_sendStart : Cond.instanceMethod y_Gr_sendStart ∈ Gw ∧ Cond.selects R_Gr y_Gr_sendStart y_Gr_sendStart ∈ Gw := ⟨gm 316 (by decide +kernel) (by decide), gs (by decide +kernel) (by decide)⟩
set_option maxRecDepth 100000 in
theorem gc_Gr_sendCommand : Cond.code y_Gr_sendCommand b_Gr_sendCommand 3 (some .int) ∈ Gw ∧ Cond.initialized y_Gr_sendCommand.cls ∈ Gw := ⟨gm 329 rfl (by decide), gm 4 (by decide +kernel) (by decide)⟩
theorem m_Gr_sendCommand : Cond.instanceMethod y_Gr_sendCommand ∈ Gw ∧ Cond.selects R_Gr y_Gr_sendCommand y_Gr_sendCommand ∈ Gw := ⟨gm 328 (by decide +kernel) (by decide), gs (by decide +kernel) (by decide)⟩
set_option maxRecDepth 100000 in
theorem gc_Gr_sendSlot : Cond.code y_Gr_sendSlot b_Gr_sendSlot 3 (some .int) ∈ Gw ∧ Cond.initialized y_Gr_sendSlot.cls ∈ Gw := ⟨gm 353 rfl (by decide), gm 4 (by decide +kernel) (by decide)⟩
theorem m_Gr_sendSlot : Cond.instanceMethod y_Gr_sendSlot ∈ Gw ∧ Cond.selects R_Gr y_Gr_sendSlot y_Gr_sendSlot ∈ Gw := ⟨gm 352 (by decide +kernel) (by decide), gs (by decide +kernel) (by decide)⟩
set_option maxRecDepth 100000 in
theorem gc_Gr_send : Cond.code y_Gr_send b_Gr_send 5 (some .int) ∈ Gw ∧ Cond.initialized y_Gr_send.cls ∈ Gw := ⟨gm 321 rfl (by decide), gm 4 (by decide +kernel) (by decide)⟩
theorem m_Gr_send : Cond.instanceMethod y_Gr_send ∈ Gw ∧ Cond.selects R_Gr y_Gr_send y_Gr_send ∈ Gw := ⟨gm 320 (by decide +kernel) (by decide), gs (by decide +kernel) (by decide)⟩
set_option maxRecDepth 100000 in
theorem gc_Gr_hearAtStart : Cond.code y_Gr_hearAtStart b_Gr_hearAtStart 4 none ∈ Gw ∧ Cond.initialized y_Gr_hearAtStart.cls ∈ Gw := ⟨gm 668 rfl (by decide), gm 4 (by decide +kernel) (by decide)⟩
theorem m_Gr_hearAtStart : Cond.instanceMethod y_Gr_hearAtStart ∈ Gw ∧ Cond.selects R_Gr y_Gr_hearAtStart y_Gr_hearAtStart ∈ Gw := ⟨gm 667 (by decide +kernel) (by decide), gs (by decide +kernel) (by decide)⟩
set_option maxRecDepth 100000 in
theorem gc_Gr_acknowledge : Cond.code y_Gr_acknowledge b_Gr_acknowledge 3 none ∈ Gw ∧ Cond.initialized y_Gr_acknowledge.cls ∈ Gw := ⟨gm 673 rfl (by decide), gm 4 (by decide +kernel) (by decide)⟩
theorem m_Gr_acknowledge : Cond.instanceMethod y_Gr_acknowledge ∈ Gw ∧ Cond.selects R_Gr y_Gr_acknowledge y_Gr_acknowledge ∈ Gw := ⟨gm 672 (by decide +kernel) (by decide), gs (by decide +kernel) (by decide)⟩
set_option maxRecDepth 100000 in
theorem gc_Gr_hearWithNonePending : Cond.code y_Gr_hearWithNonePending b_Gr_hearWithNonePending 3 none ∈ Gw ∧ Cond.initialized y_Gr_hearWithNonePending.cls ∈ Gw := ⟨gm 681 rfl (by decide), gm 4 (by decide +kernel) (by decide)⟩
theorem m_Gr_hearWithNonePending : Cond.instanceMethod y_Gr_hearWithNonePending ∈ Gw ∧ Cond.selects R_Gr y_Gr_hearWithNonePending y_Gr_hearWithNonePending ∈ Gw := ⟨gm 680 (by decide +kernel) (by decide), gs (by decide +kernel) (by decide)⟩
set_option maxRecDepth 100000 in
theorem gc_Gr_hearWithSomePending : Cond.code y_Gr_hearWithSomePending b_Gr_hearWithSomePending 4 none ∈ Gw ∧ Cond.initialized y_Gr_hearWithSomePending.cls ∈ Gw := ⟨gm 685 rfl (by decide), gm 4 (by decide +kernel) (by decide)⟩
theorem m_Gr_hearWithSomePending : Cond.instanceMethod y_Gr_hearWithSomePending ∈ Gw ∧ Cond.selects R_Gr y_Gr_hearWithSomePending y_Gr_hearWithSomePending ∈ Gw := ⟨gm 684 (by decide +kernel) (by decide), gs (by decide +kernel) (by decide)⟩
set_option maxRecDepth 100000 in
theorem gc_Rc_init : Cond.code y_Rc_init b_Rc_init 1 none ∈ Gw ∧ Cond.initialized y_Rc_init.cls ∈ Gw := ⟨gm 235 rfl (by decide), gm 10 (by decide +kernel) (by decide)⟩
set_option maxRecDepth 100000 in
theorem gc_Rc_size : Cond.code y_Rc_size b_Rc_size 1 (some .int) ∈ Gw ∧ Cond.initialized y_Rc_size.cls ∈ Gw := ⟨gm 376 rfl (by decide), gm 10 (by decide +kernel) (by decide)⟩
theorem m_Rc_size : Cond.instanceMethod y_Rc_size ∈ Gw ∧ Cond.selects R_Rc y_Rc_size y_Rc_size ∈ Gw := ⟨gm 374 (by decide +kernel) (by decide), gm 375 (by decide +kernel) (by decide)⟩
set_option maxRecDepth 100000 in
theorem gc_Rc_has : Cond.code y_Rc_has b_Rc_has 2 (some .boolean) ∈ Gw ∧ Cond.initialized y_Rc_has.cls ∈ Gw := ⟨gm 814 rfl (by decide), gm 10 (by decide +kernel) (by decide)⟩
theorem m_Rc_has : Cond.instanceMethod y_Rc_has ∈ Gw ∧ Cond.selects R_Rc y_Rc_has y_Rc_has ∈ Gw := ⟨gm 812 (by decide +kernel) (by decide), gm 813 (by decide +kernel) (by decide)⟩
set_option maxRecDepth 100000 in
theorem gc_Rc_tell : Cond.code y_Rc_tell b_Rc_tell 3 (some .int) ∈ Gw ∧ Cond.initialized y_Rc_tell.cls ∈ Gw := ⟨gm 819 rfl (by decide), gm 10 (by decide +kernel) (by decide)⟩
theorem m_Rc_tell : Cond.instanceMethod y_Rc_tell ∈ Gw ∧ Cond.selects R_Rc y_Rc_tell y_Rc_tell ∈ Gw := ⟨gm 817 (by decide +kernel) (by decide), gm 818 (by decide +kernel) (by decide)⟩
set_option maxRecDepth 100000 in
theorem gc_Rc_add : Cond.code y_Rc_add b_Rc_add 5 none ∈ Gw ∧ Cond.initialized y_Rc_add.cls ∈ Gw := ⟨gm 752 rfl (by decide), gm 10 (by decide +kernel) (by decide)⟩
theorem m_Rc_add : Cond.instanceMethod y_Rc_add ∈ Gw ∧ Cond.selects R_Rc y_Rc_add y_Rc_add ∈ Gw := ⟨gm 750 (by decide +kernel) (by decide), gm 751 (by decide +kernel) (by decide)⟩
set_option maxRecDepth 100000 in
theorem gc_Rp_init : Cond.code y_Rp_init b_Rp_init 1 none ∈ Gw ∧ Cond.initialized y_Rp_init.cls ∈ Gw := ⟨gm 52 rfl (by decide), gm 3 (by decide +kernel) (by decide)⟩
set_option maxRecDepth 100000 in
theorem gc_Rp_size : Cond.code y_Rp_size b_Rp_size 1 (some .int) ∈ Gw ∧ Cond.initialized y_Rp_size.cls ∈ Gw := ⟨gm 768 rfl (by decide), gm 3 (by decide +kernel) (by decide)⟩
theorem m_Rp_size : Cond.instanceMethod y_Rp_size ∈ Gw ∧ Cond.selects R_Rp y_Rp_size y_Rp_size ∈ Gw := ⟨gm 766 (by decide +kernel) (by decide), gm 767 (by decide +kernel) (by decide)⟩
set_option maxRecDepth 100000 in
theorem gc_Rp_has : Cond.code y_Rp_has b_Rp_has 2 (some .boolean) ∈ Gw ∧ Cond.initialized y_Rp_has.cls ∈ Gw := ⟨gm 647 rfl (by decide), gm 3 (by decide +kernel) (by decide)⟩
theorem m_Rp_has : Cond.instanceMethod y_Rp_has ∈ Gw ∧ Cond.selects R_Rp y_Rp_has y_Rp_has ∈ Gw := ⟨gm 645 (by decide +kernel) (by decide), gm 646 (by decide +kernel) (by decide)⟩
set_option maxRecDepth 100000 in
theorem gc_Rp_expected : Cond.code y_Rp_expected b_Rp_expected 2 (some .int) ∈ Gw ∧ Cond.initialized y_Rp_expected.cls ∈ Gw := ⟨gm 652 rfl (by decide), gm 3 (by decide +kernel) (by decide)⟩
theorem m_Rp_expected : Cond.instanceMethod y_Rp_expected ∈ Gw ∧ Cond.selects R_Rp y_Rp_expected y_Rp_expected ∈ Gw := ⟨gm 650 (by decide +kernel) (by decide), gm 651 (by decide +kernel) (by decide)⟩
set_option maxRecDepth 100000 in
theorem gc_Rp_again : Cond.code y_Rp_again b_Rp_again 2 (some .boolean) ∈ Gw ∧ Cond.initialized y_Rp_again.cls ∈ Gw := ⟨gm 656 rfl (by decide), gm 3 (by decide +kernel) (by decide)⟩
theorem m_Rp_again : Cond.instanceMethod y_Rp_again ∈ Gw ∧ Cond.selects R_Rp y_Rp_again y_Rp_again ∈ Gw := ⟨gm 654 (by decide +kernel) (by decide), gm 655 (by decide +kernel) (by decide)⟩
set_option maxRecDepth 100000 in
theorem gc_Rp_gate : Cond.code y_Rp_gate b_Rp_gate 2 (some .int) ∈ Gw ∧ Cond.initialized y_Rp_gate.cls ∈ Gw := ⟨gm 660 rfl (by decide), gm 3 (by decide +kernel) (by decide)⟩
theorem m_Rp_gate : Cond.instanceMethod y_Rp_gate ∈ Gw ∧ Cond.selects R_Rp y_Rp_gate y_Rp_gate ∈ Gw := ⟨gm 658 (by decide +kernel) (by decide), gm 659 (by decide +kernel) (by decide)⟩
set_option maxRecDepth 100000 in
theorem gc_Rp_add : Cond.code y_Rp_add b_Rp_add 2 (some .boolean) ∈ Gw ∧ Cond.initialized y_Rp_add.cls ∈ Gw := ⟨gm 368 rfl (by decide), gm 3 (by decide +kernel) (by decide)⟩
theorem m_Rp_add : Cond.instanceMethod y_Rp_add ∈ Gw ∧ Cond.selects R_Rp y_Rp_add y_Rp_add ∈ Gw := ⟨gm 366 (by decide +kernel) (by decide), gm 367 (by decide +kernel) (by decide)⟩
set_option maxRecDepth 100000 in
theorem gc_Rp_remove : Cond.code y_Rp_remove b_Rp_remove 3 none ∈ Gw ∧ Cond.initialized y_Rp_remove.cls ∈ Gw := ⟨gm 693 rfl (by decide), gm 3 (by decide +kernel) (by decide)⟩
theorem m_Rp_remove : Cond.instanceMethod y_Rp_remove ∈ Gw ∧ Cond.selects R_Rp y_Rp_remove y_Rp_remove ∈ Gw := ⟨gm 691 (by decide +kernel) (by decide), gm 692 (by decide +kernel) (by decide)⟩
set_option maxRecDepth 100000 in
theorem gc_St_init : Cond.code y_St_init b_St_init 1 none ∈ Gw ∧ Cond.initialized y_St_init.cls ∈ Gw := ⟨gm 168 rfl (by decide), gm 7 (by decide +kernel) (by decide)⟩
set_option maxRecDepth 100000 in
theorem gc_St_size : Cond.code y_St_size b_St_size 1 (some .int) ∈ Gw ∧ Cond.initialized y_St_size.cls ∈ Gw := ⟨gm 788 rfl (by decide), gm 7 (by decide +kernel) (by decide)⟩
theorem m_St_size : Cond.instanceMethod y_St_size ∈ Gw ∧ Cond.selects R_St y_St_size y_St_size ∈ Gw := ⟨gm 786 (by decide +kernel) (by decide), gm 787 (by decide +kernel) (by decide)⟩
set_option maxRecDepth 100000 in
theorem gc_St_write : Cond.code y_St_write b_St_write 4 (some .boolean) ∈ Gw ∧ Cond.initialized y_St_write.cls ∈ Gw := ⟨gm 708 rfl (by decide), gm 7 (by decide +kernel) (by decide)⟩
theorem m_St_write : Cond.instanceMethod y_St_write ∈ Gw ∧ Cond.selects R_St y_St_write y_St_write ∈ Gw := ⟨gm 706 (by decide +kernel) (by decide), gm 707 (by decide +kernel) (by decide)⟩
set_option maxRecDepth 100000 in
theorem gc_St_fill : Cond.code y_St_fill b_St_fill 3 none ∈ Gw ∧ Cond.initialized y_St_fill.cls ∈ Gw := ⟨gm 728 rfl (by decide), gm 7 (by decide +kernel) (by decide)⟩
theorem m_St_fill : Cond.instanceMethod y_St_fill ∈ Gw ∧ Cond.selects R_St y_St_fill y_St_fill ∈ Gw := ⟨gm 726 (by decide +kernel) (by decide), gm 727 (by decide +kernel) (by decide)⟩
set_option maxRecDepth 100000 in
theorem gc_St_writeIdle : Cond.code y_St_writeIdle b_St_writeIdle 3 none ∈ Gw ∧ Cond.initialized y_St_writeIdle.cls ∈ Gw := ⟨gm 732 rfl (by decide), gm 7 (by decide +kernel) (by decide)⟩
theorem m_St_writeIdle : Cond.instanceMethod y_St_writeIdle ∈ Gw ∧ Cond.selects R_St y_St_writeIdle y_St_writeIdle ∈ Gw := ⟨gm 731 (by decide +kernel) (by decide), gs (by decide +kernel) (by decide)⟩
set_option maxRecDepth 100000 in
theorem gc_St_writeHead : Cond.code y_St_writeHead b_St_writeHead 3 none ∈ Gw ∧ Cond.initialized y_St_writeHead.cls ∈ Gw := ⟨gm 712 rfl (by decide), gm 7 (by decide +kernel) (by decide)⟩
theorem m_St_writeHead : Cond.instanceMethod y_St_writeHead ∈ Gw ∧ Cond.selects R_St y_St_writeHead y_St_writeHead ∈ Gw := ⟨gm 711 (by decide +kernel) (by decide), gs (by decide +kernel) (by decide)⟩
set_option maxRecDepth 100000 in
theorem gc_St_put : Cond.code y_St_put b_St_put 3 none ∈ Gw ∧ Cond.initialized y_St_put.cls ∈ Gw := ⟨gm 716 rfl (by decide), gm 7 (by decide +kernel) (by decide)⟩
theorem m_St_put : Cond.instanceMethod y_St_put ∈ Gw ∧ Cond.selects R_St y_St_put y_St_put ∈ Gw := ⟨gm 715 (by decide +kernel) (by decide), gs (by decide +kernel) (by decide)⟩
set_option maxRecDepth 100000 in
theorem gc_St_removeFrame : Cond.code y_St_removeFrame b_St_removeFrame 2 none ∈ Gw ∧ Cond.initialized y_St_removeFrame.cls ∈ Gw := ⟨gm 740 rfl (by decide), gm 7 (by decide +kernel) (by decide)⟩
theorem m_St_removeFrame : Cond.instanceMethod y_St_removeFrame ∈ Gw ∧ Cond.selects R_St y_St_removeFrame y_St_removeFrame ∈ Gw := ⟨gm 739 (by decide +kernel) (by decide), gs (by decide +kernel) (by decide)⟩
set_option maxRecDepth 100000 in
theorem gc_Un_init : Cond.code y_Un_init b_Un_init 1 none ∈ Gw ∧ Cond.initialized y_Un_init.cls ∈ Gw := ⟨gm 78 rfl (by decide), gm 5 (by decide +kernel) (by decide)⟩
set_option maxRecDepth 100000 in
theorem gc_Un_size : Cond.code y_Un_size b_Un_size 1 (some .int) ∈ Gw ∧ Cond.initialized y_Un_size.cls ∈ Gw := ⟨gm 349 rfl (by decide), gm 5 (by decide +kernel) (by decide)⟩
theorem m_Un_size : Cond.instanceMethod y_Un_size ∈ Gw ∧ Cond.selects R_Un y_Un_size y_Un_size ∈ Gw := ⟨gm 347 (by decide +kernel) (by decide), gm 348 (by decide +kernel) (by decide)⟩
set_option maxRecDepth 100000 in
theorem gc_Un_numberOf : Cond.code y_Un_numberOf b_Un_numberOf 2 (some .int) ∈ Gw ∧ Cond.initialized y_Un_numberOf.cls ∈ Gw := ⟨gm 341 rfl (by decide), gm 5 (by decide +kernel) (by decide)⟩
theorem m_Un_numberOf : Cond.instanceMethod y_Un_numberOf ∈ Gw ∧ Cond.selects R_Un y_Un_numberOf y_Un_numberOf ∈ Gw := ⟨gm 339 (by decide +kernel) (by decide), gm 340 (by decide +kernel) (by decide)⟩
set_option maxRecDepth 100000 in
theorem gc_Un_commandOf : Cond.code y_Un_commandOf b_Un_commandOf 2 (some .int) ∈ Gw ∧ Cond.initialized y_Un_commandOf.cls ∈ Gw := ⟨gm 345 rfl (by decide), gm 5 (by decide +kernel) (by decide)⟩
theorem m_Un_commandOf : Cond.instanceMethod y_Un_commandOf ∈ Gw ∧ Cond.selects R_Un y_Un_commandOf y_Un_commandOf ∈ Gw := ⟨gm 343 (by decide +kernel) (by decide), gm 344 (by decide +kernel) (by decide)⟩
set_option maxRecDepth 100000 in
theorem gc_Un_add : Cond.code y_Un_add b_Un_add 3 none ∈ Gw ∧ Cond.initialized y_Un_add.cls ∈ Gw := ⟨gm 357 rfl (by decide), gm 5 (by decide +kernel) (by decide)⟩
theorem m_Un_add : Cond.instanceMethod y_Un_add ∈ Gw ∧ Cond.selects R_Un y_Un_add y_Un_add ∈ Gw := ⟨gm 355 (by decide +kernel) (by decide), gm 356 (by decide +kernel) (by decide)⟩
set_option maxRecDepth 100000 in
theorem gc_Un_removeFirst : Cond.code y_Un_removeFirst b_Un_removeFirst 3 none ∈ Gw ∧ Cond.initialized y_Un_removeFirst.cls ∈ Gw := ⟨gm 677 rfl (by decide), gm 5 (by decide +kernel) (by decide)⟩
theorem m_Un_removeFirst : Cond.instanceMethod y_Un_removeFirst ∈ Gw ∧ Cond.selects R_Un y_Un_removeFirst y_Un_removeFirst ∈ Gw := ⟨gm 675 (by decide +kernel) (by decide), gm 676 (by decide +kernel) (by decide)⟩
set_option maxRecDepth 100000 in
theorem gc_Un_clear : Cond.code y_Un_clear b_Un_clear 1 none ∈ Gw ∧ Cond.initialized y_Un_clear.cls ∈ Gw := ⟨gm 301 rfl (by decide), gm 5 (by decide +kernel) (by decide)⟩
theorem m_Un_clear : Cond.instanceMethod y_Un_clear ∈ Gw ∧ Cond.selects R_Un y_Un_clear y_Un_clear ∈ Gw := ⟨gm 299 (by decide +kernel) (by decide), gm 300 (by decide +kernel) (by decide)⟩
set_option maxRecDepth 100000 in
theorem gc_Un_markAll : Cond.code y_Un_markAll b_Un_markAll 2 none ∈ Gw ∧ Cond.initialized y_Un_markAll.cls ∈ Gw := ⟨gm 313 rfl (by decide), gm 5 (by decide +kernel) (by decide)⟩
theorem m_Un_markAll : Cond.instanceMethod y_Un_markAll ∈ Gw ∧ Cond.selects R_Un y_Un_markAll y_Un_markAll ∈ Gw := ⟨gm 311 (by decide +kernel) (by decide), gm 312 (by decide +kernel) (by decide)⟩
set_option maxRecDepth 100000 in
theorem gc_Un_unmark : Cond.code y_Un_unmark b_Un_unmark 2 none ∈ Gw ∧ Cond.initialized y_Un_unmark.cls ∈ Gw := ⟨gm 337 rfl (by decide), gm 5 (by decide +kernel) (by decide)⟩
theorem m_Un_unmark : Cond.instanceMethod y_Un_unmark ∈ Gw ∧ Cond.selects R_Un y_Un_unmark y_Un_unmark ∈ Gw := ⟨gm 335 (by decide +kernel) (by decide), gm 336 (by decide +kernel) (by decide)⟩
set_option maxRecDepth 100000 in
theorem gc_Un_firstMarked : Cond.code y_Un_firstMarked b_Un_firstMarked 2 (some .int) ∈ Gw ∧ Cond.initialized y_Un_firstMarked.cls ∈ Gw := ⟨gm 333 rfl (by decide), gm 5 (by decide +kernel) (by decide)⟩
theorem m_Un_firstMarked : Cond.instanceMethod y_Un_firstMarked ∈ Gw ∧ Cond.selects R_Un y_Un_firstMarked y_Un_firstMarked ∈ Gw := ⟨gm 331 (by decide +kernel) (by decide), gm 332 (by decide +kernel) (by decide)⟩
set_option maxRecDepth 100000 in
theorem gc_Un_countMarked : Cond.code y_Un_countMarked b_Un_countMarked 3 (some .int) ∈ Gw ∧ Cond.initialized y_Un_countMarked.cls ∈ Gw := ⟨gm 777 rfl (by decide), gm 5 (by decide +kernel) (by decide)⟩
theorem m_Un_countMarked : Cond.instanceMethod y_Un_countMarked ∈ Gw ∧ Cond.selects R_Un y_Un_countMarked y_Un_countMarked ∈ Gw := ⟨gm 775 (by decide +kernel) (by decide), gm 776 (by decide +kernel) (by decide)⟩
set_option maxRecDepth 100000 in
theorem gc_Uf_init : Cond.code y_Uf_init b_Uf_init 1 none ∈ Gw ∧ Cond.initialized y_Uf_init.cls ∈ Gw := ⟨gm 32 rfl (by decide), gm 2 (by decide +kernel) (by decide)⟩
set_option maxRecDepth 100000 in
theorem gc_Uf_size : Cond.code y_Uf_size b_Uf_size 1 (some .int) ∈ Gw ∧ Cond.initialized y_Uf_size.cls ∈ Gw := ⟨gm 764 rfl (by decide), gm 2 (by decide +kernel) (by decide)⟩
theorem m_Uf_size : Cond.instanceMethod y_Uf_size ∈ Gw ∧ Cond.selects R_Uf y_Uf_size y_Uf_size ∈ Gw := ⟨gm 762 (by decide +kernel) (by decide), gm 763 (by decide +kernel) (by decide)⟩
set_option maxRecDepth 100000 in
theorem gc_Uf_has : Cond.code y_Uf_has b_Uf_has 2 (some .boolean) ∈ Gw ∧ Cond.initialized y_Uf_has.cls ∈ Gw := ⟨gm 542 rfl (by decide), gm 2 (by decide +kernel) (by decide)⟩
theorem m_Uf_has : Cond.instanceMethod y_Uf_has ∈ Gw ∧ Cond.selects R_Uf y_Uf_has y_Uf_has ∈ Gw := ⟨gm 540 (by decide +kernel) (by decide), gm 541 (by decide +kernel) (by decide)⟩
set_option maxRecDepth 100000 in
theorem gc_Uf_kind : Cond.code y_Uf_kind b_Uf_kind 2 (some .int) ∈ Gw ∧ Cond.initialized y_Uf_kind.cls ∈ Gw := ⟨gm 562 rfl (by decide), gm 2 (by decide +kernel) (by decide)⟩
theorem m_Uf_kind : Cond.instanceMethod y_Uf_kind ∈ Gw ∧ Cond.selects R_Uf y_Uf_kind y_Uf_kind ∈ Gw := ⟨gm 560 (by decide +kernel) (by decide), gm 561 (by decide +kernel) (by decide)⟩
set_option maxRecDepth 100000 in
theorem gc_Uf_numberOf : Cond.code y_Uf_numberOf b_Uf_numberOf 2 (some .int) ∈ Gw ∧ Cond.initialized y_Uf_numberOf.cls ∈ Gw := ⟨gm 566 rfl (by decide), gm 2 (by decide +kernel) (by decide)⟩
theorem m_Uf_numberOf : Cond.instanceMethod y_Uf_numberOf ∈ Gw ∧ Cond.selects R_Uf y_Uf_numberOf y_Uf_numberOf ∈ Gw := ⟨gm 564 (by decide +kernel) (by decide), gm 565 (by decide +kernel) (by decide)⟩
set_option maxRecDepth 100000 in
theorem gc_Uf_commandOf : Cond.code y_Uf_commandOf b_Uf_commandOf 2 (some .int) ∈ Gw ∧ Cond.initialized y_Uf_commandOf.cls ∈ Gw := ⟨gm 570 rfl (by decide), gm 2 (by decide +kernel) (by decide)⟩
theorem m_Uf_commandOf : Cond.instanceMethod y_Uf_commandOf ∈ Gw ∧ Cond.selects R_Uf y_Uf_commandOf y_Uf_commandOf ∈ Gw := ⟨gm 568 (by decide +kernel) (by decide), gm 569 (by decide +kernel) (by decide)⟩
set_option maxRecDepth 100000 in
theorem gc_Uf_tell : Cond.code y_Uf_tell b_Uf_tell 3 (some .int) ∈ Gw ∧ Cond.initialized y_Uf_tell.cls ∈ Gw := ⟨gm 803 rfl (by decide), gm 2 (by decide +kernel) (by decide)⟩
theorem m_Uf_tell : Cond.instanceMethod y_Uf_tell ∈ Gw ∧ Cond.selects R_Uf y_Uf_tell y_Uf_tell ∈ Gw := ⟨gm 801 (by decide +kernel) (by decide), gm 802 (by decide +kernel) (by decide)⟩
set_option maxRecDepth 100000 in
theorem gc_Uf_add : Cond.code y_Uf_add b_Uf_add 4 none ∈ Gw ∧ Cond.initialized y_Uf_add.cls ∈ Gw := ⟨gm 325 rfl (by decide), gm 2 (by decide +kernel) (by decide)⟩
theorem m_Uf_add : Cond.instanceMethod y_Uf_add ∈ Gw ∧ Cond.selects R_Uf y_Uf_add y_Uf_add ∈ Gw := ⟨gm 323 (by decide +kernel) (by decide), gm 324 (by decide +kernel) (by decide)⟩
set_option maxRecDepth 100000 in
theorem gc_Uf_remove : Cond.code y_Uf_remove b_Uf_remove 3 none ∈ Gw ∧ Cond.initialized y_Uf_remove.cls ∈ Gw := ⟨gm 597 rfl (by decide), gm 2 (by decide +kernel) (by decide)⟩
theorem m_Uf_remove : Cond.instanceMethod y_Uf_remove ∈ Gw ∧ Cond.selects R_Uf y_Uf_remove y_Uf_remove ∈ Gw := ⟨gm 595 (by decide +kernel) (by decide), gm 596 (by decide +kernel) (by decide)⟩
set_option maxRecDepth 100000 in
theorem gc_Ma_floorMod : Cond.code y_Ma_floorMod b_Ma_floorMod 3 (some .int) ∈ Gw ∧ Cond.initialized y_Ma_floorMod.cls ∈ Gw := ⟨gm 580 rfl (by decide), gm 18 (by decide +kernel) (by decide)⟩
theorem m_Ma_floorMod : Cond.static y_Ma_floorMod ∈ Gw := gm 579 (by decide +kernel) (by decide)
set_option maxRecDepth 100000 in
theorem gc_Ma_max : Cond.code y_Ma_max b_Ma_max 2 (some .int) ∈ Gw ∧ Cond.initialized y_Ma_max.cls ∈ Gw := ⟨gm 735 rfl (by decide), gm 18 (by decide +kernel) (by decide)⟩
theorem m_Ma_max : Cond.static y_Ma_max ∈ Gw := gm 734 (by decide +kernel) (by decide)
end
section
theorem d_Df_init_0 : decode b_Df_init 0 = .ok (.aload_n 0, 1) := by decide +kernel
theorem d_Df_init_1 : decode b_Df_init 1 = .ok (.invokespecial 3, 3) := by decide +kernel
theorem d_Df_init_4 : decode b_Df_init 4 = .ok (.aload_n 0, 1) := by decide +kernel
theorem d_Df_init_5 : decode b_Df_init 5 = .ok (.bipush 6, 2) := by decide +kernel
theorem d_Df_init_7 : decode b_Df_init 7 = .ok (.newarray .int, 2) := by decide +kernel
theorem d_Df_init_9 : decode b_Df_init 9 = .ok (.putfield 9, 3) := by decide +kernel
theorem d_Df_init_12 : decode b_Df_init 12 = .ok (.return_, 1) := by decide +kernel
theorem d_Rc_init_0 : decode b_Rc_init 0 = .ok (.aload_n 0, 1) := by decide +kernel
theorem d_Rc_init_1 : decode b_Rc_init 1 = .ok (.invokespecial 1, 3) := by decide +kernel
theorem d_Rc_init_4 : decode b_Rc_init 4 = .ok (.aload_n 0, 1) := by decide +kernel
theorem d_Rc_init_5 : decode b_Rc_init 5 = .ok (.bipush 40, 2) := by decide +kernel
theorem d_Rc_init_7 : decode b_Rc_init 7 = .ok (.newarray .int, 2) := by decide +kernel
theorem d_Rc_init_9 : decode b_Rc_init 9 = .ok (.putfield 9, 3) := by decide +kernel
theorem d_Rc_init_12 : decode b_Rc_init 12 = .ok (.aload_n 0, 1) := by decide +kernel
theorem d_Rc_init_13 : decode b_Rc_init 13 = .ok (.bipush 40, 2) := by decide +kernel
theorem d_Rc_init_15 : decode b_Rc_init 15 = .ok (.newarray .int, 2) := by decide +kernel
theorem d_Rc_init_17 : decode b_Rc_init 17 = .ok (.putfield 13, 3) := by decide +kernel
theorem d_Rc_init_20 : decode b_Rc_init 20 = .ok (.aload_n 0, 1) := by decide +kernel
theorem d_Rc_init_21 : decode b_Rc_init 21 = .ok (.bipush 40, 2) := by decide +kernel
theorem d_Rc_init_23 : decode b_Rc_init 23 = .ok (.newarray .int, 2) := by decide +kernel
theorem d_Rc_init_25 : decode b_Rc_init 25 = .ok (.putfield 16, 3) := by decide +kernel
theorem d_Rc_init_28 : decode b_Rc_init 28 = .ok (.aload_n 0, 1) := by decide +kernel
theorem d_Rc_init_29 : decode b_Rc_init 29 = .ok (.bipush 40, 2) := by decide +kernel
theorem d_Rc_init_31 : decode b_Rc_init 31 = .ok (.newarray .int, 2) := by decide +kernel
theorem d_Rc_init_33 : decode b_Rc_init 33 = .ok (.putfield 19, 3) := by decide +kernel
theorem d_Rc_init_36 : decode b_Rc_init 36 = .ok (.return_, 1) := by decide +kernel
theorem d_Rc_size_0 : decode b_Rc_size 0 = .ok (.aload_n 0, 1) := by decide +kernel
theorem d_Rc_size_1 : decode b_Rc_size 1 = .ok (.getfield 22, 3) := by decide +kernel
theorem d_Rc_size_4 : decode b_Rc_size 4 = .ok (.ireturn, 1) := by decide +kernel
theorem d_Rc_has_0 : decode b_Rc_has 0 = .ok (.iload_n 1, 1) := by decide +kernel
theorem d_Rc_has_1 : decode b_Rc_has 1 = .ok (.ifCond .lt 15, 3) := by decide +kernel
theorem d_Rc_has_4 : decode b_Rc_has 4 = .ok (.iload_n 1, 1) := by decide +kernel
theorem d_Rc_has_5 : decode b_Rc_has 5 = .ok (.aload_n 0, 1) := by decide +kernel
theorem d_Rc_has_6 : decode b_Rc_has 6 = .ok (.getfield 22, 3) := by decide +kernel
theorem d_Rc_has_9 : decode b_Rc_has 9 = .ok (.if_icmp .ge 7, 3) := by decide +kernel
theorem d_Rc_has_12 : decode b_Rc_has 12 = .ok (.iconst 1, 1) := by decide +kernel
theorem d_Rc_has_13 : decode b_Rc_has 13 = .ok (.goto 4, 3) := by decide +kernel
theorem d_Rc_has_16 : decode b_Rc_has 16 = .ok (.iconst 0, 1) := by decide +kernel
theorem d_Rc_has_17 : decode b_Rc_has 17 = .ok (.ireturn, 1) := by decide +kernel
theorem d_Rc_tell_0 : decode b_Rc_tell 0 = .ok (.iload_n 2, 1) := by decide +kernel
theorem d_Rc_tell_1 : decode b_Rc_tell 1 = .ok (.tableswitch 59 0 3 #[31, 38, 45, 52], 31) := by decide +kernel
theorem d_Rc_tell_32 : decode b_Rc_tell 32 = .ok (.aload_n 0, 1) := by decide +kernel
theorem d_Rc_tell_33 : decode b_Rc_tell 33 = .ok (.getfield 9, 3) := by decide +kernel
theorem d_Rc_tell_36 : decode b_Rc_tell 36 = .ok (.iload_n 1, 1) := by decide +kernel
theorem d_Rc_tell_37 : decode b_Rc_tell 37 = .ok (.iaload, 1) := by decide +kernel
theorem d_Rc_tell_38 : decode b_Rc_tell 38 = .ok (.ireturn, 1) := by decide +kernel
theorem d_Rc_tell_39 : decode b_Rc_tell 39 = .ok (.aload_n 0, 1) := by decide +kernel
theorem d_Rc_tell_40 : decode b_Rc_tell 40 = .ok (.getfield 13, 3) := by decide +kernel
theorem d_Rc_tell_43 : decode b_Rc_tell 43 = .ok (.iload_n 1, 1) := by decide +kernel
theorem d_Rc_tell_44 : decode b_Rc_tell 44 = .ok (.iaload, 1) := by decide +kernel
theorem d_Rc_tell_45 : decode b_Rc_tell 45 = .ok (.ireturn, 1) := by decide +kernel
theorem d_Rc_tell_46 : decode b_Rc_tell 46 = .ok (.aload_n 0, 1) := by decide +kernel
theorem d_Rc_tell_47 : decode b_Rc_tell 47 = .ok (.getfield 16, 3) := by decide +kernel
theorem d_Rc_tell_50 : decode b_Rc_tell 50 = .ok (.iload_n 1, 1) := by decide +kernel
theorem d_Rc_tell_51 : decode b_Rc_tell 51 = .ok (.iaload, 1) := by decide +kernel
theorem d_Rc_tell_52 : decode b_Rc_tell 52 = .ok (.ireturn, 1) := by decide +kernel
theorem d_Rc_tell_53 : decode b_Rc_tell 53 = .ok (.aload_n 0, 1) := by decide +kernel
theorem d_Rc_tell_54 : decode b_Rc_tell 54 = .ok (.getfield 19, 3) := by decide +kernel
theorem d_Rc_tell_57 : decode b_Rc_tell 57 = .ok (.iload_n 1, 1) := by decide +kernel
theorem d_Rc_tell_58 : decode b_Rc_tell 58 = .ok (.iaload, 1) := by decide +kernel
theorem d_Rc_tell_59 : decode b_Rc_tell 59 = .ok (.ireturn, 1) := by decide +kernel
theorem d_Rc_tell_60 : decode b_Rc_tell 60 = .ok (.iconst 0, 1) := by decide +kernel
theorem d_Rc_tell_61 : decode b_Rc_tell 61 = .ok (.ireturn, 1) := by decide +kernel
theorem d_Rc_add_0 : decode b_Rc_add 0 = .ok (.aload_n 0, 1) := by decide +kernel
theorem d_Rc_add_1 : decode b_Rc_add 1 = .ok (.getfield 22, 3) := by decide +kernel
theorem d_Rc_add_4 : decode b_Rc_add 4 = .ok (.bipush 40, 2) := by decide +kernel
theorem d_Rc_add_6 : decode b_Rc_add 6 = .ok (.if_icmp .ge 54, 3) := by decide +kernel
theorem d_Rc_add_9 : decode b_Rc_add 9 = .ok (.aload_n 0, 1) := by decide +kernel
theorem d_Rc_add_10 : decode b_Rc_add 10 = .ok (.getfield 9, 3) := by decide +kernel
theorem d_Rc_add_13 : decode b_Rc_add 13 = .ok (.aload_n 0, 1) := by decide +kernel
theorem d_Rc_add_14 : decode b_Rc_add 14 = .ok (.getfield 22, 3) := by decide +kernel
theorem d_Rc_add_17 : decode b_Rc_add 17 = .ok (.iload_n 1, 1) := by decide +kernel
theorem d_Rc_add_18 : decode b_Rc_add 18 = .ok (.iastore, 1) := by decide +kernel
theorem d_Rc_add_19 : decode b_Rc_add 19 = .ok (.aload_n 0, 1) := by decide +kernel
theorem d_Rc_add_20 : decode b_Rc_add 20 = .ok (.getfield 13, 3) := by decide +kernel
theorem d_Rc_add_23 : decode b_Rc_add 23 = .ok (.aload_n 0, 1) := by decide +kernel
theorem d_Rc_add_24 : decode b_Rc_add 24 = .ok (.getfield 22, 3) := by decide +kernel
theorem d_Rc_add_27 : decode b_Rc_add 27 = .ok (.iload_n 2, 1) := by decide +kernel
theorem d_Rc_add_28 : decode b_Rc_add 28 = .ok (.iastore, 1) := by decide +kernel
theorem d_Rc_add_29 : decode b_Rc_add 29 = .ok (.aload_n 0, 1) := by decide +kernel
theorem d_Rc_add_30 : decode b_Rc_add 30 = .ok (.getfield 16, 3) := by decide +kernel
theorem d_Rc_add_33 : decode b_Rc_add 33 = .ok (.aload_n 0, 1) := by decide +kernel
theorem d_Rc_add_34 : decode b_Rc_add 34 = .ok (.getfield 22, 3) := by decide +kernel
theorem d_Rc_add_37 : decode b_Rc_add 37 = .ok (.iload_n 3, 1) := by decide +kernel
theorem d_Rc_add_38 : decode b_Rc_add 38 = .ok (.iastore, 1) := by decide +kernel
theorem d_Rc_add_39 : decode b_Rc_add 39 = .ok (.aload_n 0, 1) := by decide +kernel
theorem d_Rc_add_40 : decode b_Rc_add 40 = .ok (.getfield 19, 3) := by decide +kernel
theorem d_Rc_add_43 : decode b_Rc_add 43 = .ok (.aload_n 0, 1) := by decide +kernel
theorem d_Rc_add_44 : decode b_Rc_add 44 = .ok (.getfield 22, 3) := by decide +kernel
theorem d_Rc_add_47 : decode b_Rc_add 47 = .ok (.iload 4, 2) := by decide +kernel
theorem d_Rc_add_49 : decode b_Rc_add 49 = .ok (.iastore, 1) := by decide +kernel
theorem d_Rc_add_50 : decode b_Rc_add 50 = .ok (.aload_n 0, 1) := by decide +kernel
theorem d_Rc_add_51 : decode b_Rc_add 51 = .ok (.dup, 1) := by decide +kernel
theorem d_Rc_add_52 : decode b_Rc_add 52 = .ok (.getfield 22, 3) := by decide +kernel
theorem d_Rc_add_55 : decode b_Rc_add 55 = .ok (.iconst 1, 1) := by decide +kernel
theorem d_Rc_add_56 : decode b_Rc_add 56 = .ok (.iadd, 1) := by decide +kernel
theorem d_Rc_add_57 : decode b_Rc_add 57 = .ok (.putfield 22, 3) := by decide +kernel
theorem d_Rc_add_60 : decode b_Rc_add 60 = .ok (.return_, 1) := by decide +kernel
theorem d_Rp_init_0 : decode b_Rp_init 0 = .ok (.aload_n 0, 1) := by decide +kernel
theorem d_Rp_init_1 : decode b_Rp_init 1 = .ok (.invokespecial 3, 3) := by decide +kernel
theorem d_Rp_init_4 : decode b_Rp_init 4 = .ok (.aload_n 0, 1) := by decide +kernel
theorem d_Rp_init_5 : decode b_Rp_init 5 = .ok (.bipush 20, 2) := by decide +kernel
theorem d_Rp_init_7 : decode b_Rp_init 7 = .ok (.newarray .int, 2) := by decide +kernel
theorem d_Rp_init_9 : decode b_Rp_init 9 = .ok (.putfield 9, 3) := by decide +kernel
theorem d_Rp_init_12 : decode b_Rp_init 12 = .ok (.aload_n 0, 1) := by decide +kernel
theorem d_Rp_init_13 : decode b_Rp_init 13 = .ok (.bipush 20, 2) := by decide +kernel
theorem d_Rp_init_15 : decode b_Rp_init 15 = .ok (.newarray .boolean, 2) := by decide +kernel
theorem d_Rp_init_17 : decode b_Rp_init 17 = .ok (.putfield 15, 3) := by decide +kernel
theorem d_Rp_init_20 : decode b_Rp_init 20 = .ok (.aload_n 0, 1) := by decide +kernel
theorem d_Rp_init_21 : decode b_Rp_init 21 = .ok (.bipush 20, 2) := by decide +kernel
theorem d_Rp_init_23 : decode b_Rp_init 23 = .ok (.newarray .int, 2) := by decide +kernel
theorem d_Rp_init_25 : decode b_Rp_init 25 = .ok (.putfield 19, 3) := by decide +kernel
theorem d_Rp_init_28 : decode b_Rp_init 28 = .ok (.return_, 1) := by decide +kernel
theorem d_Rp_size_0 : decode b_Rp_size 0 = .ok (.aload_n 0, 1) := by decide +kernel
theorem d_Rp_size_1 : decode b_Rp_size 1 = .ok (.getfield 22, 3) := by decide +kernel
theorem d_Rp_size_4 : decode b_Rp_size 4 = .ok (.ireturn, 1) := by decide +kernel
theorem d_Rp_has_0 : decode b_Rp_has 0 = .ok (.iload_n 1, 1) := by decide +kernel
theorem d_Rp_has_1 : decode b_Rp_has 1 = .ok (.ifCond .lt 15, 3) := by decide +kernel
theorem d_Rp_has_4 : decode b_Rp_has 4 = .ok (.iload_n 1, 1) := by decide +kernel
theorem d_Rp_has_5 : decode b_Rp_has 5 = .ok (.aload_n 0, 1) := by decide +kernel
theorem d_Rp_has_6 : decode b_Rp_has 6 = .ok (.getfield 22, 3) := by decide +kernel
theorem d_Rp_has_9 : decode b_Rp_has 9 = .ok (.if_icmp .ge 7, 3) := by decide +kernel
theorem d_Rp_has_12 : decode b_Rp_has 12 = .ok (.iconst 1, 1) := by decide +kernel
theorem d_Rp_has_13 : decode b_Rp_has 13 = .ok (.goto 4, 3) := by decide +kernel
theorem d_Rp_has_16 : decode b_Rp_has 16 = .ok (.iconst 0, 1) := by decide +kernel
theorem d_Rp_has_17 : decode b_Rp_has 17 = .ok (.ireturn, 1) := by decide +kernel
theorem d_Rp_expected_0 : decode b_Rp_expected 0 = .ok (.aload_n 0, 1) := by decide +kernel
theorem d_Rp_expected_1 : decode b_Rp_expected 1 = .ok (.getfield 9, 3) := by decide +kernel
theorem d_Rp_expected_4 : decode b_Rp_expected 4 = .ok (.iload_n 1, 1) := by decide +kernel
theorem d_Rp_expected_5 : decode b_Rp_expected 5 = .ok (.iaload, 1) := by decide +kernel
theorem d_Rp_expected_6 : decode b_Rp_expected 6 = .ok (.ireturn, 1) := by decide +kernel
theorem d_Rp_again_0 : decode b_Rp_again 0 = .ok (.aload_n 0, 1) := by decide +kernel
theorem d_Rp_again_1 : decode b_Rp_again 1 = .ok (.getfield 15, 3) := by decide +kernel
theorem d_Rp_again_4 : decode b_Rp_again 4 = .ok (.iload_n 1, 1) := by decide +kernel
theorem d_Rp_again_5 : decode b_Rp_again 5 = .ok (.baload, 1) := by decide +kernel
theorem d_Rp_again_6 : decode b_Rp_again 6 = .ok (.ireturn, 1) := by decide +kernel
theorem d_Rp_gate_0 : decode b_Rp_gate 0 = .ok (.aload_n 0, 1) := by decide +kernel
theorem d_Rp_gate_1 : decode b_Rp_gate 1 = .ok (.getfield 19, 3) := by decide +kernel
theorem d_Rp_gate_4 : decode b_Rp_gate 4 = .ok (.iload_n 1, 1) := by decide +kernel
theorem d_Rp_gate_5 : decode b_Rp_gate 5 = .ok (.iaload, 1) := by decide +kernel
theorem d_Rp_gate_6 : decode b_Rp_gate 6 = .ok (.ireturn, 1) := by decide +kernel
theorem d_Rp_add_0 : decode b_Rp_add 0 = .ok (.aload_n 0, 1) := by decide +kernel
theorem d_Rp_add_1 : decode b_Rp_add 1 = .ok (.getfield 22, 3) := by decide +kernel
theorem d_Rp_add_4 : decode b_Rp_add 4 = .ok (.bipush 20, 2) := by decide +kernel
theorem d_Rp_add_6 : decode b_Rp_add 6 = .ok (.if_icmp .lt 5, 3) := by decide +kernel
theorem d_Rp_add_9 : decode b_Rp_add 9 = .ok (.iconst 0, 1) := by decide +kernel
theorem d_Rp_add_10 : decode b_Rp_add 10 = .ok (.ireturn, 1) := by decide +kernel
theorem d_Rp_add_11 : decode b_Rp_add 11 = .ok (.aload_n 0, 1) := by decide +kernel
theorem d_Rp_add_12 : decode b_Rp_add 12 = .ok (.getfield 9, 3) := by decide +kernel
theorem d_Rp_add_15 : decode b_Rp_add 15 = .ok (.aload_n 0, 1) := by decide +kernel
theorem d_Rp_add_16 : decode b_Rp_add 16 = .ok (.getfield 22, 3) := by decide +kernel
theorem d_Rp_add_19 : decode b_Rp_add 19 = .ok (.aload_n 1, 1) := by decide +kernel
theorem d_Rp_add_20 : decode b_Rp_add 20 = .ok (.getfield 26, 3) := by decide +kernel
theorem d_Rp_add_23 : decode b_Rp_add 23 = .ok (.iastore, 1) := by decide +kernel
theorem d_Rp_add_24 : decode b_Rp_add 24 = .ok (.aload_n 0, 1) := by decide +kernel
theorem d_Rp_add_25 : decode b_Rp_add 25 = .ok (.getfield 15, 3) := by decide +kernel
theorem d_Rp_add_28 : decode b_Rp_add 28 = .ok (.aload_n 0, 1) := by decide +kernel
theorem d_Rp_add_29 : decode b_Rp_add 29 = .ok (.getfield 22, 3) := by decide +kernel
theorem d_Rp_add_32 : decode b_Rp_add 32 = .ok (.aload_n 1, 1) := by decide +kernel
theorem d_Rp_add_33 : decode b_Rp_add 33 = .ok (.getfield 30, 3) := by decide +kernel
theorem d_Rp_add_36 : decode b_Rp_add 36 = .ok (.bastore, 1) := by decide +kernel
theorem d_Rp_add_37 : decode b_Rp_add 37 = .ok (.aload_n 0, 1) := by decide +kernel
theorem d_Rp_add_38 : decode b_Rp_add 38 = .ok (.getfield 19, 3) := by decide +kernel
theorem d_Rp_add_41 : decode b_Rp_add 41 = .ok (.aload_n 0, 1) := by decide +kernel
theorem d_Rp_add_42 : decode b_Rp_add 42 = .ok (.getfield 22, 3) := by decide +kernel
theorem d_Rp_add_45 : decode b_Rp_add 45 = .ok (.aload_n 1, 1) := by decide +kernel
theorem d_Rp_add_46 : decode b_Rp_add 46 = .ok (.getfield 33, 3) := by decide +kernel
theorem d_Rp_add_49 : decode b_Rp_add 49 = .ok (.iastore, 1) := by decide +kernel
theorem d_Rp_add_50 : decode b_Rp_add 50 = .ok (.aload_n 0, 1) := by decide +kernel
theorem d_Rp_add_51 : decode b_Rp_add 51 = .ok (.dup, 1) := by decide +kernel
theorem d_Rp_add_52 : decode b_Rp_add 52 = .ok (.getfield 22, 3) := by decide +kernel
theorem d_Rp_add_55 : decode b_Rp_add 55 = .ok (.iconst 1, 1) := by decide +kernel
theorem d_Rp_add_56 : decode b_Rp_add 56 = .ok (.iadd, 1) := by decide +kernel
theorem d_Rp_add_57 : decode b_Rp_add 57 = .ok (.putfield 22, 3) := by decide +kernel
theorem d_Rp_add_60 : decode b_Rp_add 60 = .ok (.iconst 1, 1) := by decide +kernel
theorem d_Rp_add_61 : decode b_Rp_add 61 = .ok (.ireturn, 1) := by decide +kernel
theorem d_Rp_remove_0 : decode b_Rp_remove 0 = .ok (.iload_n 1, 1) := by decide +kernel
theorem d_Rp_remove_1 : decode b_Rp_remove 1 = .ok (.iconst 1, 1) := by decide +kernel
theorem d_Rp_remove_2 : decode b_Rp_remove 2 = .ok (.iadd, 1) := by decide +kernel
theorem d_Rp_remove_3 : decode b_Rp_remove 3 = .ok (.istore_n 2, 1) := by decide +kernel
theorem d_Rp_remove_4 : decode b_Rp_remove 4 = .ok (.iload_n 2, 1) := by decide +kernel
theorem d_Rp_remove_5 : decode b_Rp_remove 5 = .ok (.aload_n 0, 1) := by decide +kernel
theorem d_Rp_remove_6 : decode b_Rp_remove 6 = .ok (.getfield 22, 3) := by decide +kernel
theorem d_Rp_remove_9 : decode b_Rp_remove 9 = .ok (.if_icmp .ge 51, 3) := by decide +kernel
theorem d_Rp_remove_12 : decode b_Rp_remove 12 = .ok (.aload_n 0, 1) := by decide +kernel
theorem d_Rp_remove_13 : decode b_Rp_remove 13 = .ok (.getfield 9, 3) := by decide +kernel
theorem d_Rp_remove_16 : decode b_Rp_remove 16 = .ok (.iload_n 2, 1) := by decide +kernel
theorem d_Rp_remove_17 : decode b_Rp_remove 17 = .ok (.iconst 1, 1) := by decide +kernel
theorem d_Rp_remove_18 : decode b_Rp_remove 18 = .ok (.isub, 1) := by decide +kernel
theorem d_Rp_remove_19 : decode b_Rp_remove 19 = .ok (.aload_n 0, 1) := by decide +kernel
theorem d_Rp_remove_20 : decode b_Rp_remove 20 = .ok (.getfield 9, 3) := by decide +kernel
theorem d_Rp_remove_23 : decode b_Rp_remove 23 = .ok (.iload_n 2, 1) := by decide +kernel
theorem d_Rp_remove_24 : decode b_Rp_remove 24 = .ok (.iaload, 1) := by decide +kernel
theorem d_Rp_remove_25 : decode b_Rp_remove 25 = .ok (.iastore, 1) := by decide +kernel
theorem d_Rp_remove_26 : decode b_Rp_remove 26 = .ok (.aload_n 0, 1) := by decide +kernel
theorem d_Rp_remove_27 : decode b_Rp_remove 27 = .ok (.getfield 15, 3) := by decide +kernel
theorem d_Rp_remove_30 : decode b_Rp_remove 30 = .ok (.iload_n 2, 1) := by decide +kernel
theorem d_Rp_remove_31 : decode b_Rp_remove 31 = .ok (.iconst 1, 1) := by decide +kernel
theorem d_Rp_remove_32 : decode b_Rp_remove 32 = .ok (.isub, 1) := by decide +kernel
theorem d_Rp_remove_33 : decode b_Rp_remove 33 = .ok (.aload_n 0, 1) := by decide +kernel
theorem d_Rp_remove_34 : decode b_Rp_remove 34 = .ok (.getfield 15, 3) := by decide +kernel
theorem d_Rp_remove_37 : decode b_Rp_remove 37 = .ok (.iload_n 2, 1) := by decide +kernel
theorem d_Rp_remove_38 : decode b_Rp_remove 38 = .ok (.baload, 1) := by decide +kernel
theorem d_Rp_remove_39 : decode b_Rp_remove 39 = .ok (.bastore, 1) := by decide +kernel
theorem d_Rp_remove_40 : decode b_Rp_remove 40 = .ok (.aload_n 0, 1) := by decide +kernel
theorem d_Rp_remove_41 : decode b_Rp_remove 41 = .ok (.getfield 19, 3) := by decide +kernel
theorem d_Rp_remove_44 : decode b_Rp_remove 44 = .ok (.iload_n 2, 1) := by decide +kernel
theorem d_Rp_remove_45 : decode b_Rp_remove 45 = .ok (.iconst 1, 1) := by decide +kernel
theorem d_Rp_remove_46 : decode b_Rp_remove 46 = .ok (.isub, 1) := by decide +kernel
theorem d_Rp_remove_47 : decode b_Rp_remove 47 = .ok (.aload_n 0, 1) := by decide +kernel
theorem d_Rp_remove_48 : decode b_Rp_remove 48 = .ok (.getfield 19, 3) := by decide +kernel
theorem d_Rp_remove_51 : decode b_Rp_remove 51 = .ok (.iload_n 2, 1) := by decide +kernel
theorem d_Rp_remove_52 : decode b_Rp_remove 52 = .ok (.iaload, 1) := by decide +kernel
theorem d_Rp_remove_53 : decode b_Rp_remove 53 = .ok (.iastore, 1) := by decide +kernel
theorem d_Rp_remove_54 : decode b_Rp_remove 54 = .ok (.iinc 2 1, 3) := by decide +kernel
theorem d_Rp_remove_57 : decode b_Rp_remove 57 = .ok (.goto (-53), 3) := by decide +kernel
theorem d_Rp_remove_60 : decode b_Rp_remove 60 = .ok (.aload_n 0, 1) := by decide +kernel
theorem d_Rp_remove_61 : decode b_Rp_remove 61 = .ok (.dup, 1) := by decide +kernel
theorem d_Rp_remove_62 : decode b_Rp_remove 62 = .ok (.getfield 22, 3) := by decide +kernel
theorem d_Rp_remove_65 : decode b_Rp_remove 65 = .ok (.iconst 1, 1) := by decide +kernel
theorem d_Rp_remove_66 : decode b_Rp_remove 66 = .ok (.isub, 1) := by decide +kernel
theorem d_Rp_remove_67 : decode b_Rp_remove 67 = .ok (.putfield 22, 3) := by decide +kernel
theorem d_Rp_remove_70 : decode b_Rp_remove 70 = .ok (.return_, 1) := by decide +kernel
theorem d_Un_init_0 : decode b_Un_init 0 = .ok (.aload_n 0, 1) := by decide +kernel
theorem d_Un_init_1 : decode b_Un_init 1 = .ok (.invokespecial 3, 3) := by decide +kernel
theorem d_Un_init_4 : decode b_Un_init 4 = .ok (.aload_n 0, 1) := by decide +kernel
theorem d_Un_init_5 : decode b_Un_init 5 = .ok (.iconst 4, 1) := by decide +kernel
theorem d_Un_init_6 : decode b_Un_init 6 = .ok (.newarray .int, 2) := by decide +kernel
theorem d_Un_init_8 : decode b_Un_init 8 = .ok (.putfield 9, 3) := by decide +kernel
theorem d_Un_init_11 : decode b_Un_init 11 = .ok (.aload_n 0, 1) := by decide +kernel
theorem d_Un_init_12 : decode b_Un_init 12 = .ok (.iconst 4, 1) := by decide +kernel
theorem d_Un_init_13 : decode b_Un_init 13 = .ok (.newarray .int, 2) := by decide +kernel
theorem d_Un_init_15 : decode b_Un_init 15 = .ok (.putfield 15, 3) := by decide +kernel
theorem d_Un_init_18 : decode b_Un_init 18 = .ok (.aload_n 0, 1) := by decide +kernel
theorem d_Un_init_19 : decode b_Un_init 19 = .ok (.iconst 4, 1) := by decide +kernel
theorem d_Un_init_20 : decode b_Un_init 20 = .ok (.newarray .boolean, 2) := by decide +kernel
theorem d_Un_init_22 : decode b_Un_init 22 = .ok (.putfield 18, 3) := by decide +kernel
theorem d_Un_init_25 : decode b_Un_init 25 = .ok (.return_, 1) := by decide +kernel
theorem d_Un_size_0 : decode b_Un_size 0 = .ok (.aload_n 0, 1) := by decide +kernel
theorem d_Un_size_1 : decode b_Un_size 1 = .ok (.getfield 22, 3) := by decide +kernel
theorem d_Un_size_4 : decode b_Un_size 4 = .ok (.ireturn, 1) := by decide +kernel
theorem d_Un_numberOf_0 : decode b_Un_numberOf 0 = .ok (.aload_n 0, 1) := by decide +kernel
theorem d_Un_numberOf_1 : decode b_Un_numberOf 1 = .ok (.getfield 9, 3) := by decide +kernel
theorem d_Un_numberOf_4 : decode b_Un_numberOf 4 = .ok (.iload_n 1, 1) := by decide +kernel
theorem d_Un_numberOf_5 : decode b_Un_numberOf 5 = .ok (.iaload, 1) := by decide +kernel
theorem d_Un_numberOf_6 : decode b_Un_numberOf 6 = .ok (.ireturn, 1) := by decide +kernel
theorem d_Un_commandOf_0 : decode b_Un_commandOf 0 = .ok (.aload_n 0, 1) := by decide +kernel
theorem d_Un_commandOf_1 : decode b_Un_commandOf 1 = .ok (.getfield 15, 3) := by decide +kernel
theorem d_Un_commandOf_4 : decode b_Un_commandOf 4 = .ok (.iload_n 1, 1) := by decide +kernel
theorem d_Un_commandOf_5 : decode b_Un_commandOf 5 = .ok (.iaload, 1) := by decide +kernel
theorem d_Un_commandOf_6 : decode b_Un_commandOf 6 = .ok (.ireturn, 1) := by decide +kernel
theorem d_Un_add_0 : decode b_Un_add 0 = .ok (.aload_n 0, 1) := by decide +kernel
theorem d_Un_add_1 : decode b_Un_add 1 = .ok (.getfield 22, 3) := by decide +kernel
theorem d_Un_add_4 : decode b_Un_add 4 = .ok (.iconst 4, 1) := by decide +kernel
theorem d_Un_add_5 : decode b_Un_add 5 = .ok (.if_icmp .ge 43, 3) := by decide +kernel
theorem d_Un_add_8 : decode b_Un_add 8 = .ok (.aload_n 0, 1) := by decide +kernel
theorem d_Un_add_9 : decode b_Un_add 9 = .ok (.getfield 9, 3) := by decide +kernel
theorem d_Un_add_12 : decode b_Un_add 12 = .ok (.aload_n 0, 1) := by decide +kernel
theorem d_Un_add_13 : decode b_Un_add 13 = .ok (.getfield 22, 3) := by decide +kernel
theorem d_Un_add_16 : decode b_Un_add 16 = .ok (.iload_n 1, 1) := by decide +kernel
theorem d_Un_add_17 : decode b_Un_add 17 = .ok (.iastore, 1) := by decide +kernel
theorem d_Un_add_18 : decode b_Un_add 18 = .ok (.aload_n 0, 1) := by decide +kernel
theorem d_Un_add_19 : decode b_Un_add 19 = .ok (.getfield 15, 3) := by decide +kernel
theorem d_Un_add_22 : decode b_Un_add 22 = .ok (.aload_n 0, 1) := by decide +kernel
theorem d_Un_add_23 : decode b_Un_add 23 = .ok (.getfield 22, 3) := by decide +kernel
theorem d_Un_add_26 : decode b_Un_add 26 = .ok (.iload_n 2, 1) := by decide +kernel
theorem d_Un_add_27 : decode b_Un_add 27 = .ok (.iastore, 1) := by decide +kernel
theorem d_Un_add_28 : decode b_Un_add 28 = .ok (.aload_n 0, 1) := by decide +kernel
theorem d_Un_add_29 : decode b_Un_add 29 = .ok (.getfield 18, 3) := by decide +kernel
theorem d_Un_add_32 : decode b_Un_add 32 = .ok (.aload_n 0, 1) := by decide +kernel
theorem d_Un_add_33 : decode b_Un_add 33 = .ok (.getfield 22, 3) := by decide +kernel
theorem d_Un_add_36 : decode b_Un_add 36 = .ok (.iconst 0, 1) := by decide +kernel
theorem d_Un_add_37 : decode b_Un_add 37 = .ok (.bastore, 1) := by decide +kernel
theorem d_Un_add_38 : decode b_Un_add 38 = .ok (.aload_n 0, 1) := by decide +kernel
theorem d_Un_add_39 : decode b_Un_add 39 = .ok (.dup, 1) := by decide +kernel
theorem d_Un_add_40 : decode b_Un_add 40 = .ok (.getfield 22, 3) := by decide +kernel
theorem d_Un_add_43 : decode b_Un_add 43 = .ok (.iconst 1, 1) := by decide +kernel
theorem d_Un_add_44 : decode b_Un_add 44 = .ok (.iadd, 1) := by decide +kernel
theorem d_Un_add_45 : decode b_Un_add 45 = .ok (.putfield 22, 3) := by decide +kernel
theorem d_Un_add_48 : decode b_Un_add 48 = .ok (.return_, 1) := by decide +kernel
theorem d_Un_removeFirst_0 : decode b_Un_removeFirst 0 = .ok (.iload_n 1, 1) := by decide +kernel
theorem d_Un_removeFirst_1 : decode b_Un_removeFirst 1 = .ok (.istore_n 2, 1) := by decide +kernel
theorem d_Un_removeFirst_2 : decode b_Un_removeFirst 2 = .ok (.iload_n 2, 1) := by decide +kernel
theorem d_Un_removeFirst_3 : decode b_Un_removeFirst 3 = .ok (.aload_n 0, 1) := by decide +kernel
theorem d_Un_removeFirst_4 : decode b_Un_removeFirst 4 = .ok (.getfield 22, 3) := by decide +kernel
theorem d_Un_removeFirst_7 : decode b_Un_removeFirst 7 = .ok (.if_icmp .ge 51, 3) := by decide +kernel
theorem d_Un_removeFirst_10 : decode b_Un_removeFirst 10 = .ok (.aload_n 0, 1) := by decide +kernel
theorem d_Un_removeFirst_11 : decode b_Un_removeFirst 11 = .ok (.getfield 9, 3) := by decide +kernel
theorem d_Un_removeFirst_14 : decode b_Un_removeFirst 14 = .ok (.iload_n 2, 1) := by decide +kernel
theorem d_Un_removeFirst_15 : decode b_Un_removeFirst 15 = .ok (.iload_n 1, 1) := by decide +kernel
theorem d_Un_removeFirst_16 : decode b_Un_removeFirst 16 = .ok (.isub, 1) := by decide +kernel
theorem d_Un_removeFirst_17 : decode b_Un_removeFirst 17 = .ok (.aload_n 0, 1) := by decide +kernel
theorem d_Un_removeFirst_18 : decode b_Un_removeFirst 18 = .ok (.getfield 9, 3) := by decide +kernel
theorem d_Un_removeFirst_21 : decode b_Un_removeFirst 21 = .ok (.iload_n 2, 1) := by decide +kernel
theorem d_Un_removeFirst_22 : decode b_Un_removeFirst 22 = .ok (.iaload, 1) := by decide +kernel
theorem d_Un_removeFirst_23 : decode b_Un_removeFirst 23 = .ok (.iastore, 1) := by decide +kernel
theorem d_Un_removeFirst_24 : decode b_Un_removeFirst 24 = .ok (.aload_n 0, 1) := by decide +kernel
theorem d_Un_removeFirst_25 : decode b_Un_removeFirst 25 = .ok (.getfield 15, 3) := by decide +kernel
theorem d_Un_removeFirst_28 : decode b_Un_removeFirst 28 = .ok (.iload_n 2, 1) := by decide +kernel
theorem d_Un_removeFirst_29 : decode b_Un_removeFirst 29 = .ok (.iload_n 1, 1) := by decide +kernel
theorem d_Un_removeFirst_30 : decode b_Un_removeFirst 30 = .ok (.isub, 1) := by decide +kernel
theorem d_Un_removeFirst_31 : decode b_Un_removeFirst 31 = .ok (.aload_n 0, 1) := by decide +kernel
theorem d_Un_removeFirst_32 : decode b_Un_removeFirst 32 = .ok (.getfield 15, 3) := by decide +kernel
theorem d_Un_removeFirst_35 : decode b_Un_removeFirst 35 = .ok (.iload_n 2, 1) := by decide +kernel
theorem d_Un_removeFirst_36 : decode b_Un_removeFirst 36 = .ok (.iaload, 1) := by decide +kernel
theorem d_Un_removeFirst_37 : decode b_Un_removeFirst 37 = .ok (.iastore, 1) := by decide +kernel
theorem d_Un_removeFirst_38 : decode b_Un_removeFirst 38 = .ok (.aload_n 0, 1) := by decide +kernel
theorem d_Un_removeFirst_39 : decode b_Un_removeFirst 39 = .ok (.getfield 18, 3) := by decide +kernel
theorem d_Un_removeFirst_42 : decode b_Un_removeFirst 42 = .ok (.iload_n 2, 1) := by decide +kernel
theorem d_Un_removeFirst_43 : decode b_Un_removeFirst 43 = .ok (.iload_n 1, 1) := by decide +kernel
theorem d_Un_removeFirst_44 : decode b_Un_removeFirst 44 = .ok (.isub, 1) := by decide +kernel
theorem d_Un_removeFirst_45 : decode b_Un_removeFirst 45 = .ok (.aload_n 0, 1) := by decide +kernel
theorem d_Un_removeFirst_46 : decode b_Un_removeFirst 46 = .ok (.getfield 18, 3) := by decide +kernel
theorem d_Un_removeFirst_49 : decode b_Un_removeFirst 49 = .ok (.iload_n 2, 1) := by decide +kernel
theorem d_Un_removeFirst_50 : decode b_Un_removeFirst 50 = .ok (.baload, 1) := by decide +kernel
theorem d_Un_removeFirst_51 : decode b_Un_removeFirst 51 = .ok (.bastore, 1) := by decide +kernel
theorem d_Un_removeFirst_52 : decode b_Un_removeFirst 52 = .ok (.iinc 2 1, 3) := by decide +kernel
theorem d_Un_removeFirst_55 : decode b_Un_removeFirst 55 = .ok (.goto (-53), 3) := by decide +kernel
theorem d_Un_removeFirst_58 : decode b_Un_removeFirst 58 = .ok (.aload_n 0, 1) := by decide +kernel
theorem d_Un_removeFirst_59 : decode b_Un_removeFirst 59 = .ok (.dup, 1) := by decide +kernel
theorem d_Un_removeFirst_60 : decode b_Un_removeFirst 60 = .ok (.getfield 22, 3) := by decide +kernel
theorem d_Un_removeFirst_63 : decode b_Un_removeFirst 63 = .ok (.iload_n 1, 1) := by decide +kernel
theorem d_Un_removeFirst_64 : decode b_Un_removeFirst 64 = .ok (.isub, 1) := by decide +kernel
theorem d_Un_removeFirst_65 : decode b_Un_removeFirst 65 = .ok (.putfield 22, 3) := by decide +kernel
theorem d_Un_removeFirst_68 : decode b_Un_removeFirst 68 = .ok (.return_, 1) := by decide +kernel
theorem d_Un_clear_0 : decode b_Un_clear 0 = .ok (.aload_n 0, 1) := by decide +kernel
theorem d_Un_clear_1 : decode b_Un_clear 1 = .ok (.iconst 0, 1) := by decide +kernel
theorem d_Un_clear_2 : decode b_Un_clear 2 = .ok (.putfield 22, 3) := by decide +kernel
theorem d_Un_clear_5 : decode b_Un_clear 5 = .ok (.return_, 1) := by decide +kernel
theorem d_Un_markAll_0 : decode b_Un_markAll 0 = .ok (.iconst 0, 1) := by decide +kernel
theorem d_Un_markAll_1 : decode b_Un_markAll 1 = .ok (.istore_n 1, 1) := by decide +kernel
theorem d_Un_markAll_2 : decode b_Un_markAll 2 = .ok (.iload_n 1, 1) := by decide +kernel
theorem d_Un_markAll_3 : decode b_Un_markAll 3 = .ok (.aload_n 0, 1) := by decide +kernel
theorem d_Un_markAll_4 : decode b_Un_markAll 4 = .ok (.getfield 22, 3) := by decide +kernel
theorem d_Un_markAll_7 : decode b_Un_markAll 7 = .ok (.if_icmp .ge 16, 3) := by decide +kernel
theorem d_Un_markAll_10 : decode b_Un_markAll 10 = .ok (.aload_n 0, 1) := by decide +kernel
theorem d_Un_markAll_11 : decode b_Un_markAll 11 = .ok (.getfield 18, 3) := by decide +kernel
theorem d_Un_markAll_14 : decode b_Un_markAll 14 = .ok (.iload_n 1, 1) := by decide +kernel
theorem d_Un_markAll_15 : decode b_Un_markAll 15 = .ok (.iconst 1, 1) := by decide +kernel
theorem d_Un_markAll_16 : decode b_Un_markAll 16 = .ok (.bastore, 1) := by decide +kernel
theorem d_Un_markAll_17 : decode b_Un_markAll 17 = .ok (.iinc 1 1, 3) := by decide +kernel
theorem d_Un_markAll_20 : decode b_Un_markAll 20 = .ok (.goto (-18), 3) := by decide +kernel
theorem d_Un_markAll_23 : decode b_Un_markAll 23 = .ok (.return_, 1) := by decide +kernel
theorem d_Un_unmark_0 : decode b_Un_unmark 0 = .ok (.aload_n 0, 1) := by decide +kernel
theorem d_Un_unmark_1 : decode b_Un_unmark 1 = .ok (.getfield 18, 3) := by decide +kernel
theorem d_Un_unmark_4 : decode b_Un_unmark 4 = .ok (.iload_n 1, 1) := by decide +kernel
theorem d_Un_unmark_5 : decode b_Un_unmark 5 = .ok (.iconst 0, 1) := by decide +kernel
theorem d_Un_unmark_6 : decode b_Un_unmark 6 = .ok (.bastore, 1) := by decide +kernel
theorem d_Un_unmark_7 : decode b_Un_unmark 7 = .ok (.return_, 1) := by decide +kernel
theorem d_Un_firstMarked_0 : decode b_Un_firstMarked 0 = .ok (.iconst 0, 1) := by decide +kernel
theorem d_Un_firstMarked_1 : decode b_Un_firstMarked 1 = .ok (.istore_n 1, 1) := by decide +kernel
theorem d_Un_firstMarked_2 : decode b_Un_firstMarked 2 = .ok (.iload_n 1, 1) := by decide +kernel
theorem d_Un_firstMarked_3 : decode b_Un_firstMarked 3 = .ok (.aload_n 0, 1) := by decide +kernel
theorem d_Un_firstMarked_4 : decode b_Un_firstMarked 4 = .ok (.getfield 22, 3) := by decide +kernel
theorem d_Un_firstMarked_7 : decode b_Un_firstMarked 7 = .ok (.if_icmp .ge 20, 3) := by decide +kernel
theorem d_Un_firstMarked_10 : decode b_Un_firstMarked 10 = .ok (.aload_n 0, 1) := by decide +kernel
theorem d_Un_firstMarked_11 : decode b_Un_firstMarked 11 = .ok (.getfield 18, 3) := by decide +kernel
theorem d_Un_firstMarked_14 : decode b_Un_firstMarked 14 = .ok (.iload_n 1, 1) := by decide +kernel
theorem d_Un_firstMarked_15 : decode b_Un_firstMarked 15 = .ok (.baload, 1) := by decide +kernel
theorem d_Un_firstMarked_16 : decode b_Un_firstMarked 16 = .ok (.ifCond .eq 5, 3) := by decide +kernel
theorem d_Un_firstMarked_19 : decode b_Un_firstMarked 19 = .ok (.iload_n 1, 1) := by decide +kernel
theorem d_Un_firstMarked_20 : decode b_Un_firstMarked 20 = .ok (.ireturn, 1) := by decide +kernel
theorem d_Un_firstMarked_21 : decode b_Un_firstMarked 21 = .ok (.iinc 1 1, 3) := by decide +kernel
theorem d_Un_firstMarked_24 : decode b_Un_firstMarked 24 = .ok (.goto (-22), 3) := by decide +kernel
theorem d_Un_firstMarked_27 : decode b_Un_firstMarked 27 = .ok (.iconst (-1), 1) := by decide +kernel
theorem d_Un_firstMarked_28 : decode b_Un_firstMarked 28 = .ok (.ireturn, 1) := by decide +kernel
theorem d_Un_countMarked_0 : decode b_Un_countMarked 0 = .ok (.iconst 0, 1) := by decide +kernel
theorem d_Un_countMarked_1 : decode b_Un_countMarked 1 = .ok (.istore_n 1, 1) := by decide +kernel
theorem d_Un_countMarked_2 : decode b_Un_countMarked 2 = .ok (.iconst 0, 1) := by decide +kernel
theorem d_Un_countMarked_3 : decode b_Un_countMarked 3 = .ok (.istore_n 2, 1) := by decide +kernel
theorem d_Un_countMarked_4 : decode b_Un_countMarked 4 = .ok (.iload_n 2, 1) := by decide +kernel
theorem d_Un_countMarked_5 : decode b_Un_countMarked 5 = .ok (.aload_n 0, 1) := by decide +kernel
theorem d_Un_countMarked_6 : decode b_Un_countMarked 6 = .ok (.getfield 22, 3) := by decide +kernel
theorem d_Un_countMarked_9 : decode b_Un_countMarked 9 = .ok (.if_icmp .ge 21, 3) := by decide +kernel
theorem d_Un_countMarked_12 : decode b_Un_countMarked 12 = .ok (.aload_n 0, 1) := by decide +kernel
theorem d_Un_countMarked_13 : decode b_Un_countMarked 13 = .ok (.getfield 18, 3) := by decide +kernel
theorem d_Un_countMarked_16 : decode b_Un_countMarked 16 = .ok (.iload_n 2, 1) := by decide +kernel
theorem d_Un_countMarked_17 : decode b_Un_countMarked 17 = .ok (.baload, 1) := by decide +kernel
theorem d_Un_countMarked_18 : decode b_Un_countMarked 18 = .ok (.ifCond .eq 6, 3) := by decide +kernel
theorem d_Un_countMarked_21 : decode b_Un_countMarked 21 = .ok (.iinc 1 1, 3) := by decide +kernel
theorem d_Un_countMarked_24 : decode b_Un_countMarked 24 = .ok (.iinc 2 1, 3) := by decide +kernel
theorem d_Un_countMarked_27 : decode b_Un_countMarked 27 = .ok (.goto (-23), 3) := by decide +kernel
theorem d_Un_countMarked_30 : decode b_Un_countMarked 30 = .ok (.iload_n 1, 1) := by decide +kernel
theorem d_Un_countMarked_31 : decode b_Un_countMarked 31 = .ok (.ireturn, 1) := by decide +kernel
theorem d_Uf_init_0 : decode b_Uf_init 0 = .ok (.aload_n 0, 1) := by decide +kernel
theorem d_Uf_init_1 : decode b_Uf_init 1 = .ok (.invokespecial 3, 3) := by decide +kernel
theorem d_Uf_init_4 : decode b_Uf_init 4 = .ok (.aload_n 0, 1) := by decide +kernel
theorem d_Uf_init_5 : decode b_Uf_init 5 = .ok (.bipush 20, 2) := by decide +kernel
theorem d_Uf_init_7 : decode b_Uf_init 7 = .ok (.newarray .int, 2) := by decide +kernel
theorem d_Uf_init_9 : decode b_Uf_init 9 = .ok (.putfield 9, 3) := by decide +kernel
theorem d_Uf_init_12 : decode b_Uf_init 12 = .ok (.aload_n 0, 1) := by decide +kernel
theorem d_Uf_init_13 : decode b_Uf_init 13 = .ok (.bipush 20, 2) := by decide +kernel
theorem d_Uf_init_15 : decode b_Uf_init 15 = .ok (.newarray .int, 2) := by decide +kernel
theorem d_Uf_init_17 : decode b_Uf_init 17 = .ok (.putfield 15, 3) := by decide +kernel
theorem d_Uf_init_20 : decode b_Uf_init 20 = .ok (.aload_n 0, 1) := by decide +kernel
theorem d_Uf_init_21 : decode b_Uf_init 21 = .ok (.bipush 20, 2) := by decide +kernel
theorem d_Uf_init_23 : decode b_Uf_init 23 = .ok (.newarray .int, 2) := by decide +kernel
theorem d_Uf_init_25 : decode b_Uf_init 25 = .ok (.putfield 18, 3) := by decide +kernel
theorem d_Uf_init_28 : decode b_Uf_init 28 = .ok (.return_, 1) := by decide +kernel
theorem d_Uf_size_0 : decode b_Uf_size 0 = .ok (.aload_n 0, 1) := by decide +kernel
theorem d_Uf_size_1 : decode b_Uf_size 1 = .ok (.getfield 21, 3) := by decide +kernel
theorem d_Uf_size_4 : decode b_Uf_size 4 = .ok (.ireturn, 1) := by decide +kernel
theorem d_Uf_has_0 : decode b_Uf_has 0 = .ok (.iload_n 1, 1) := by decide +kernel
theorem d_Uf_has_1 : decode b_Uf_has 1 = .ok (.ifCond .lt 15, 3) := by decide +kernel
theorem d_Uf_has_4 : decode b_Uf_has 4 = .ok (.iload_n 1, 1) := by decide +kernel
theorem d_Uf_has_5 : decode b_Uf_has 5 = .ok (.aload_n 0, 1) := by decide +kernel
theorem d_Uf_has_6 : decode b_Uf_has 6 = .ok (.getfield 21, 3) := by decide +kernel
theorem d_Uf_has_9 : decode b_Uf_has 9 = .ok (.if_icmp .ge 7, 3) := by decide +kernel
theorem d_Uf_has_12 : decode b_Uf_has 12 = .ok (.iconst 1, 1) := by decide +kernel
theorem d_Uf_has_13 : decode b_Uf_has 13 = .ok (.goto 4, 3) := by decide +kernel
theorem d_Uf_has_16 : decode b_Uf_has 16 = .ok (.iconst 0, 1) := by decide +kernel
theorem d_Uf_has_17 : decode b_Uf_has 17 = .ok (.ireturn, 1) := by decide +kernel
theorem d_Uf_kind_0 : decode b_Uf_kind 0 = .ok (.aload_n 0, 1) := by decide +kernel
theorem d_Uf_kind_1 : decode b_Uf_kind 1 = .ok (.getfield 9, 3) := by decide +kernel
theorem d_Uf_kind_4 : decode b_Uf_kind 4 = .ok (.iload_n 1, 1) := by decide +kernel
theorem d_Uf_kind_5 : decode b_Uf_kind 5 = .ok (.iaload, 1) := by decide +kernel
theorem d_Uf_kind_6 : decode b_Uf_kind 6 = .ok (.ireturn, 1) := by decide +kernel
theorem d_Uf_numberOf_0 : decode b_Uf_numberOf 0 = .ok (.aload_n 0, 1) := by decide +kernel
theorem d_Uf_numberOf_1 : decode b_Uf_numberOf 1 = .ok (.getfield 15, 3) := by decide +kernel
theorem d_Uf_numberOf_4 : decode b_Uf_numberOf 4 = .ok (.iload_n 1, 1) := by decide +kernel
theorem d_Uf_numberOf_5 : decode b_Uf_numberOf 5 = .ok (.iaload, 1) := by decide +kernel
theorem d_Uf_numberOf_6 : decode b_Uf_numberOf 6 = .ok (.ireturn, 1) := by decide +kernel
theorem d_Uf_commandOf_0 : decode b_Uf_commandOf 0 = .ok (.aload_n 0, 1) := by decide +kernel
theorem d_Uf_commandOf_1 : decode b_Uf_commandOf 1 = .ok (.getfield 18, 3) := by decide +kernel
theorem d_Uf_commandOf_4 : decode b_Uf_commandOf 4 = .ok (.iload_n 1, 1) := by decide +kernel
theorem d_Uf_commandOf_5 : decode b_Uf_commandOf 5 = .ok (.iaload, 1) := by decide +kernel
theorem d_Uf_commandOf_6 : decode b_Uf_commandOf 6 = .ok (.ireturn, 1) := by decide +kernel
theorem d_Uf_tell_0 : decode b_Uf_tell 0 = .ok (.iload_n 2, 1) := by decide +kernel
theorem d_Uf_tell_1 : decode b_Uf_tell 1 = .ok (.tableswitch 48 0 2 #[27, 34, 41], 27) := by decide +kernel
theorem d_Uf_tell_28 : decode b_Uf_tell 28 = .ok (.aload_n 0, 1) := by decide +kernel
theorem d_Uf_tell_29 : decode b_Uf_tell 29 = .ok (.getfield 9, 3) := by decide +kernel
theorem d_Uf_tell_32 : decode b_Uf_tell 32 = .ok (.iload_n 1, 1) := by decide +kernel
theorem d_Uf_tell_33 : decode b_Uf_tell 33 = .ok (.iaload, 1) := by decide +kernel
theorem d_Uf_tell_34 : decode b_Uf_tell 34 = .ok (.ireturn, 1) := by decide +kernel
theorem d_Uf_tell_35 : decode b_Uf_tell 35 = .ok (.aload_n 0, 1) := by decide +kernel
theorem d_Uf_tell_36 : decode b_Uf_tell 36 = .ok (.getfield 15, 3) := by decide +kernel
theorem d_Uf_tell_39 : decode b_Uf_tell 39 = .ok (.iload_n 1, 1) := by decide +kernel
theorem d_Uf_tell_40 : decode b_Uf_tell 40 = .ok (.iaload, 1) := by decide +kernel
theorem d_Uf_tell_41 : decode b_Uf_tell 41 = .ok (.ireturn, 1) := by decide +kernel
theorem d_Uf_tell_42 : decode b_Uf_tell 42 = .ok (.aload_n 0, 1) := by decide +kernel
theorem d_Uf_tell_43 : decode b_Uf_tell 43 = .ok (.getfield 18, 3) := by decide +kernel
theorem d_Uf_tell_46 : decode b_Uf_tell 46 = .ok (.iload_n 1, 1) := by decide +kernel
theorem d_Uf_tell_47 : decode b_Uf_tell 47 = .ok (.iaload, 1) := by decide +kernel
theorem d_Uf_tell_48 : decode b_Uf_tell 48 = .ok (.ireturn, 1) := by decide +kernel
theorem d_Uf_tell_49 : decode b_Uf_tell 49 = .ok (.iconst 0, 1) := by decide +kernel
theorem d_Uf_tell_50 : decode b_Uf_tell 50 = .ok (.ireturn, 1) := by decide +kernel
theorem d_Uf_add_0 : decode b_Uf_add 0 = .ok (.aload_n 0, 1) := by decide +kernel
theorem d_Uf_add_1 : decode b_Uf_add 1 = .ok (.getfield 21, 3) := by decide +kernel
theorem d_Uf_add_4 : decode b_Uf_add 4 = .ok (.bipush 20, 2) := by decide +kernel
theorem d_Uf_add_6 : decode b_Uf_add 6 = .ok (.if_icmp .ge 43, 3) := by decide +kernel
theorem d_Uf_add_9 : decode b_Uf_add 9 = .ok (.aload_n 0, 1) := by decide +kernel
theorem d_Uf_add_10 : decode b_Uf_add 10 = .ok (.getfield 9, 3) := by decide +kernel
theorem d_Uf_add_13 : decode b_Uf_add 13 = .ok (.aload_n 0, 1) := by decide +kernel
theorem d_Uf_add_14 : decode b_Uf_add 14 = .ok (.getfield 21, 3) := by decide +kernel
theorem d_Uf_add_17 : decode b_Uf_add 17 = .ok (.iload_n 1, 1) := by decide +kernel
theorem d_Uf_add_18 : decode b_Uf_add 18 = .ok (.iastore, 1) := by decide +kernel
theorem d_Uf_add_19 : decode b_Uf_add 19 = .ok (.aload_n 0, 1) := by decide +kernel
theorem d_Uf_add_20 : decode b_Uf_add 20 = .ok (.getfield 15, 3) := by decide +kernel
theorem d_Uf_add_23 : decode b_Uf_add 23 = .ok (.aload_n 0, 1) := by decide +kernel
theorem d_Uf_add_24 : decode b_Uf_add 24 = .ok (.getfield 21, 3) := by decide +kernel
theorem d_Uf_add_27 : decode b_Uf_add 27 = .ok (.iload_n 2, 1) := by decide +kernel
theorem d_Uf_add_28 : decode b_Uf_add 28 = .ok (.iastore, 1) := by decide +kernel
theorem d_Uf_add_29 : decode b_Uf_add 29 = .ok (.aload_n 0, 1) := by decide +kernel
theorem d_Uf_add_30 : decode b_Uf_add 30 = .ok (.getfield 18, 3) := by decide +kernel
theorem d_Uf_add_33 : decode b_Uf_add 33 = .ok (.aload_n 0, 1) := by decide +kernel
theorem d_Uf_add_34 : decode b_Uf_add 34 = .ok (.getfield 21, 3) := by decide +kernel
theorem d_Uf_add_37 : decode b_Uf_add 37 = .ok (.iload_n 3, 1) := by decide +kernel
theorem d_Uf_add_38 : decode b_Uf_add 38 = .ok (.iastore, 1) := by decide +kernel
theorem d_Uf_add_39 : decode b_Uf_add 39 = .ok (.aload_n 0, 1) := by decide +kernel
theorem d_Uf_add_40 : decode b_Uf_add 40 = .ok (.dup, 1) := by decide +kernel
theorem d_Uf_add_41 : decode b_Uf_add 41 = .ok (.getfield 21, 3) := by decide +kernel
theorem d_Uf_add_44 : decode b_Uf_add 44 = .ok (.iconst 1, 1) := by decide +kernel
theorem d_Uf_add_45 : decode b_Uf_add 45 = .ok (.iadd, 1) := by decide +kernel
theorem d_Uf_add_46 : decode b_Uf_add 46 = .ok (.putfield 21, 3) := by decide +kernel
theorem d_Uf_add_49 : decode b_Uf_add 49 = .ok (.return_, 1) := by decide +kernel
theorem d_Uf_remove_0 : decode b_Uf_remove 0 = .ok (.iload_n 1, 1) := by decide +kernel
theorem d_Uf_remove_1 : decode b_Uf_remove 1 = .ok (.iconst 1, 1) := by decide +kernel
theorem d_Uf_remove_2 : decode b_Uf_remove 2 = .ok (.iadd, 1) := by decide +kernel
theorem d_Uf_remove_3 : decode b_Uf_remove 3 = .ok (.istore_n 2, 1) := by decide +kernel
theorem d_Uf_remove_4 : decode b_Uf_remove 4 = .ok (.iload_n 2, 1) := by decide +kernel
theorem d_Uf_remove_5 : decode b_Uf_remove 5 = .ok (.aload_n 0, 1) := by decide +kernel
theorem d_Uf_remove_6 : decode b_Uf_remove 6 = .ok (.getfield 21, 3) := by decide +kernel
theorem d_Uf_remove_9 : decode b_Uf_remove 9 = .ok (.if_icmp .ge 51, 3) := by decide +kernel
theorem d_Uf_remove_12 : decode b_Uf_remove 12 = .ok (.aload_n 0, 1) := by decide +kernel
theorem d_Uf_remove_13 : decode b_Uf_remove 13 = .ok (.getfield 9, 3) := by decide +kernel
theorem d_Uf_remove_16 : decode b_Uf_remove 16 = .ok (.iload_n 2, 1) := by decide +kernel
theorem d_Uf_remove_17 : decode b_Uf_remove 17 = .ok (.iconst 1, 1) := by decide +kernel
theorem d_Uf_remove_18 : decode b_Uf_remove 18 = .ok (.isub, 1) := by decide +kernel
theorem d_Uf_remove_19 : decode b_Uf_remove 19 = .ok (.aload_n 0, 1) := by decide +kernel
theorem d_Uf_remove_20 : decode b_Uf_remove 20 = .ok (.getfield 9, 3) := by decide +kernel
theorem d_Uf_remove_23 : decode b_Uf_remove 23 = .ok (.iload_n 2, 1) := by decide +kernel
theorem d_Uf_remove_24 : decode b_Uf_remove 24 = .ok (.iaload, 1) := by decide +kernel
theorem d_Uf_remove_25 : decode b_Uf_remove 25 = .ok (.iastore, 1) := by decide +kernel
theorem d_Uf_remove_26 : decode b_Uf_remove 26 = .ok (.aload_n 0, 1) := by decide +kernel
theorem d_Uf_remove_27 : decode b_Uf_remove 27 = .ok (.getfield 15, 3) := by decide +kernel
theorem d_Uf_remove_30 : decode b_Uf_remove 30 = .ok (.iload_n 2, 1) := by decide +kernel
theorem d_Uf_remove_31 : decode b_Uf_remove 31 = .ok (.iconst 1, 1) := by decide +kernel
theorem d_Uf_remove_32 : decode b_Uf_remove 32 = .ok (.isub, 1) := by decide +kernel
theorem d_Uf_remove_33 : decode b_Uf_remove 33 = .ok (.aload_n 0, 1) := by decide +kernel
theorem d_Uf_remove_34 : decode b_Uf_remove 34 = .ok (.getfield 15, 3) := by decide +kernel
theorem d_Uf_remove_37 : decode b_Uf_remove 37 = .ok (.iload_n 2, 1) := by decide +kernel
theorem d_Uf_remove_38 : decode b_Uf_remove 38 = .ok (.iaload, 1) := by decide +kernel
theorem d_Uf_remove_39 : decode b_Uf_remove 39 = .ok (.iastore, 1) := by decide +kernel
theorem d_Uf_remove_40 : decode b_Uf_remove 40 = .ok (.aload_n 0, 1) := by decide +kernel
theorem d_Uf_remove_41 : decode b_Uf_remove 41 = .ok (.getfield 18, 3) := by decide +kernel
theorem d_Uf_remove_44 : decode b_Uf_remove 44 = .ok (.iload_n 2, 1) := by decide +kernel
theorem d_Uf_remove_45 : decode b_Uf_remove 45 = .ok (.iconst 1, 1) := by decide +kernel
theorem d_Uf_remove_46 : decode b_Uf_remove 46 = .ok (.isub, 1) := by decide +kernel
theorem d_Uf_remove_47 : decode b_Uf_remove 47 = .ok (.aload_n 0, 1) := by decide +kernel
theorem d_Uf_remove_48 : decode b_Uf_remove 48 = .ok (.getfield 18, 3) := by decide +kernel
theorem d_Uf_remove_51 : decode b_Uf_remove 51 = .ok (.iload_n 2, 1) := by decide +kernel
theorem d_Uf_remove_52 : decode b_Uf_remove 52 = .ok (.iaload, 1) := by decide +kernel
theorem d_Uf_remove_53 : decode b_Uf_remove 53 = .ok (.iastore, 1) := by decide +kernel
theorem d_Uf_remove_54 : decode b_Uf_remove 54 = .ok (.iinc 2 1, 3) := by decide +kernel
theorem d_Uf_remove_57 : decode b_Uf_remove 57 = .ok (.goto (-53), 3) := by decide +kernel
theorem d_Uf_remove_60 : decode b_Uf_remove 60 = .ok (.aload_n 0, 1) := by decide +kernel
theorem d_Uf_remove_61 : decode b_Uf_remove 61 = .ok (.dup, 1) := by decide +kernel
theorem d_Uf_remove_62 : decode b_Uf_remove 62 = .ok (.getfield 21, 3) := by decide +kernel
theorem d_Uf_remove_65 : decode b_Uf_remove 65 = .ok (.iconst 1, 1) := by decide +kernel
theorem d_Uf_remove_66 : decode b_Uf_remove 66 = .ok (.isub, 1) := by decide +kernel
theorem d_Uf_remove_67 : decode b_Uf_remove 67 = .ok (.putfield 21, 3) := by decide +kernel
theorem d_Uf_remove_70 : decode b_Uf_remove 70 = .ok (.return_, 1) := by decide +kernel
theorem d_Ma_floorMod_0 : decode b_Ma_floorMod 0 = .ok (.iload_n 0, 1) := by decide +kernel
theorem d_Ma_floorMod_1 : decode b_Ma_floorMod 1 = .ok (.iload_n 1, 1) := by decide +kernel
theorem d_Ma_floorMod_2 : decode b_Ma_floorMod 2 = .ok (.irem, 1) := by decide +kernel
theorem d_Ma_floorMod_3 : decode b_Ma_floorMod 3 = .ok (.istore_n 2, 1) := by decide +kernel
theorem d_Ma_floorMod_4 : decode b_Ma_floorMod 4 = .ok (.iload_n 0, 1) := by decide +kernel
theorem d_Ma_floorMod_5 : decode b_Ma_floorMod 5 = .ok (.iload_n 1, 1) := by decide +kernel
theorem d_Ma_floorMod_6 : decode b_Ma_floorMod 6 = .ok (.ixor, 1) := by decide +kernel
theorem d_Ma_floorMod_7 : decode b_Ma_floorMod 7 = .ok (.ifCond .ge 11, 3) := by decide +kernel
theorem d_Ma_floorMod_10 : decode b_Ma_floorMod 10 = .ok (.iload_n 2, 1) := by decide +kernel
theorem d_Ma_floorMod_11 : decode b_Ma_floorMod 11 = .ok (.ifCond .eq 7, 3) := by decide +kernel
theorem d_Ma_floorMod_14 : decode b_Ma_floorMod 14 = .ok (.iload_n 2, 1) := by decide +kernel
theorem d_Ma_floorMod_15 : decode b_Ma_floorMod 15 = .ok (.iload_n 1, 1) := by decide +kernel
theorem d_Ma_floorMod_16 : decode b_Ma_floorMod 16 = .ok (.iadd, 1) := by decide +kernel
theorem d_Ma_floorMod_17 : decode b_Ma_floorMod 17 = .ok (.ireturn, 1) := by decide +kernel
theorem d_Ma_floorMod_18 : decode b_Ma_floorMod 18 = .ok (.iload_n 2, 1) := by decide +kernel
theorem d_Ma_floorMod_19 : decode b_Ma_floorMod 19 = .ok (.ireturn, 1) := by decide +kernel
theorem d_Ma_max_0 : decode b_Ma_max 0 = .ok (.iload_n 0, 1) := by decide +kernel
theorem d_Ma_max_1 : decode b_Ma_max 1 = .ok (.iload_n 1, 1) := by decide +kernel
theorem d_Ma_max_2 : decode b_Ma_max 2 = .ok (.if_icmp .lt 7, 3) := by decide +kernel
theorem d_Ma_max_5 : decode b_Ma_max 5 = .ok (.iload_n 0, 1) := by decide +kernel
theorem d_Ma_max_6 : decode b_Ma_max 6 = .ok (.goto 4, 3) := by decide +kernel
theorem d_Ma_max_9 : decode b_Ma_max 9 = .ok (.iload_n 1, 1) := by decide +kernel
theorem d_Ma_max_10 : decode b_Ma_max 10 = .ok (.ireturn, 1) := by decide +kernel
end
section
theorem d_As_init_0 : decode b_As_init 0 = .ok (.aload_n 0, 1) := by decide +kernel
theorem d_As_init_1 : decode b_As_init 1 = .ok (.invokespecial 3, 3) := by decide +kernel
theorem d_As_init_4 : decode b_As_init 4 = .ok (.aload_n 0, 1) := by decide +kernel
theorem d_As_init_5 : decode b_As_init 5 = .ok (.iconst 1, 1) := by decide +kernel
theorem d_As_init_6 : decode b_As_init 6 = .ok (.putfield 9, 3) := by decide +kernel
theorem d_As_init_9 : decode b_As_init 9 = .ok (.aload_n 0, 1) := by decide +kernel
theorem d_As_init_10 : decode b_As_init 10 = .ok (.iload_n 1, 1) := by decide +kernel
theorem d_As_init_11 : decode b_As_init 11 = .ok (.putfield 15, 3) := by decide +kernel
theorem d_As_init_14 : decode b_As_init 14 = .ok (.return_, 1) := by decide +kernel
theorem d_As_receive_0 : decode b_As_receive 0 = .ok (.iconst 0, 1) := by decide +kernel
theorem d_As_receive_1 : decode b_As_receive 1 = .ok (.istore_n 3, 1) := by decide +kernel
theorem d_As_receive_2 : decode b_As_receive 2 = .ok (.aload_n 0, 1) := by decide +kernel
theorem d_As_receive_3 : decode b_As_receive 3 = .ok (.getfield 9, 3) := by decide +kernel
theorem d_As_receive_6 : decode b_As_receive 6 = .ok (.ifCond .eq 14, 3) := by decide +kernel
theorem d_As_receive_9 : decode b_As_receive 9 = .ok (.aload_n 1, 1) := by decide +kernel
theorem d_As_receive_10 : decode b_As_receive 10 = .ok (.getfield 19, 3) := by decide +kernel
theorem d_As_receive_13 : decode b_As_receive 13 = .ok (.aload_n 0, 1) := by decide +kernel
theorem d_As_receive_14 : decode b_As_receive 14 = .ok (.getfield 24, 3) := by decide +kernel
theorem d_As_receive_17 : decode b_As_receive 17 = .ok (.if_icmp .eq 28, 3) := by decide +kernel
theorem d_As_receive_20 : decode b_As_receive 20 = .ok (.aload_n 0, 1) := by decide +kernel
theorem d_As_receive_21 : decode b_As_receive 21 = .ok (.iconst 0, 1) := by decide +kernel
theorem d_As_receive_22 : decode b_As_receive 22 = .ok (.putfield 27, 3) := by decide +kernel
theorem d_As_receive_25 : decode b_As_receive 25 = .ok (.aload_n 1, 1) := by decide +kernel
theorem d_As_receive_26 : decode b_As_receive 26 = .ok (.getfield 30, 3) := by decide +kernel
theorem d_As_receive_29 : decode b_As_receive 29 = .ok (.istore_n 3, 1) := by decide +kernel
theorem d_As_receive_30 : decode b_As_receive 30 = .ok (.aload_n 0, 1) := by decide +kernel
theorem d_As_receive_31 : decode b_As_receive 31 = .ok (.iload_n 3, 1) := by decide +kernel
theorem d_As_receive_32 : decode b_As_receive 32 = .ok (.bipush 6, 2) := by decide +kernel
theorem d_As_receive_34 : decode b_As_receive 34 = .ok (.if_icmp .ge 7, 3) := by decide +kernel
theorem d_As_receive_37 : decode b_As_receive 37 = .ok (.iconst 1, 1) := by decide +kernel
theorem d_As_receive_38 : decode b_As_receive 38 = .ok (.goto 4, 3) := by decide +kernel
theorem d_As_receive_41 : decode b_As_receive 41 = .ok (.iconst 0, 1) := by decide +kernel
theorem d_As_receive_42 : decode b_As_receive 42 = .ok (.putfield 9, 3) := by decide +kernel
theorem d_As_receive_45 : decode b_As_receive 45 = .ok (.iload_n 3, 1) := by decide +kernel
theorem d_As_receive_46 : decode b_As_receive 46 = .ok (.istore 4, 2) := by decide +kernel
theorem d_As_receive_48 : decode b_As_receive 48 = .ok (.iload 4, 2) := by decide +kernel
theorem d_As_receive_50 : decode b_As_receive 50 = .ok (.bipush 6, 2) := by decide +kernel
theorem d_As_receive_52 : decode b_As_receive 52 = .ok (.if_icmp .ge 21, 3) := by decide +kernel
theorem d_As_receive_55 : decode b_As_receive 55 = .ok (.aload_n 0, 1) := by decide +kernel
theorem d_As_receive_56 : decode b_As_receive 56 = .ok (.aload_n 1, 1) := by decide +kernel
theorem d_As_receive_57 : decode b_As_receive 57 = .ok (.getfield 33, 3) := by decide +kernel
theorem d_As_receive_60 : decode b_As_receive 60 = .ok (.iload 4, 2) := by decide +kernel
theorem d_As_receive_62 : decode b_As_receive 62 = .ok (.iaload, 1) := by decide +kernel
theorem d_As_receive_63 : decode b_As_receive 63 = .ok (.aload_n 2, 1) := by decide +kernel
theorem d_As_receive_64 : decode b_As_receive 64 = .ok (.invokevirtual 37, 3) := by decide +kernel
theorem d_As_receive_67 : decode b_As_receive 67 = .ok (.iinc 4 1, 3) := by decide +kernel
theorem d_As_receive_70 : decode b_As_receive 70 = .ok (.goto (-22), 3) := by decide +kernel
theorem d_As_receive_73 : decode b_As_receive 73 = .ok (.aload_n 0, 1) := by decide +kernel
theorem d_As_receive_74 : decode b_As_receive 74 = .ok (.aload_n 1, 1) := by decide +kernel
theorem d_As_receive_75 : decode b_As_receive 75 = .ok (.getfield 19, 3) := by decide +kernel
theorem d_As_receive_78 : decode b_As_receive 78 = .ok (.invokestatic 41, 3) := by decide +kernel
theorem d_As_receive_81 : decode b_As_receive 81 = .ok (.putfield 24, 3) := by decide +kernel
theorem d_As_receive_84 : decode b_As_receive 84 = .ok (.return_, 1) := by decide +kernel
theorem d_As_read_0 : decode b_As_read 0 = .ok (.aload_n 0, 1) := by decide +kernel
theorem d_As_read_1 : decode b_As_read 1 = .ok (.getfield 27, 3) := by decide +kernel
theorem d_As_read_4 : decode b_As_read 4 = .ok (.ifCond .ne 16, 3) := by decide +kernel
theorem d_As_read_7 : decode b_As_read 7 = .ok (.aload_n 0, 1) := by decide +kernel
theorem d_As_read_8 : decode b_As_read 8 = .ok (.iload_n 1, 1) := by decide +kernel
theorem d_As_read_9 : decode b_As_read 9 = .ok (.putfield 45, 3) := by decide +kernel
theorem d_As_read_12 : decode b_As_read 12 = .ok (.aload_n 0, 1) := by decide +kernel
theorem d_As_read_13 : decode b_As_read 13 = .ok (.iconst 0, 1) := by decide +kernel
theorem d_As_read_14 : decode b_As_read 14 = .ok (.putfield 48, 3) := by decide +kernel
theorem d_As_read_17 : decode b_As_read 17 = .ok (.goto 29, 3) := by decide +kernel
theorem d_As_read_20 : decode b_As_read 20 = .ok (.aload_n 0, 1) := by decide +kernel
theorem d_As_read_21 : decode b_As_read 21 = .ok (.getfield 27, 3) := by decide +kernel
theorem d_As_read_24 : decode b_As_read 24 = .ok (.iconst 1, 1) := by decide +kernel
theorem d_As_read_25 : decode b_As_read 25 = .ok (.if_icmp .ne 11, 3) := by decide +kernel
theorem d_As_read_28 : decode b_As_read 28 = .ok (.aload_n 0, 1) := by decide +kernel
theorem d_As_read_29 : decode b_As_read 29 = .ok (.iload_n 1, 1) := by decide +kernel
theorem d_As_read_30 : decode b_As_read 30 = .ok (.putfield 51, 3) := by decide +kernel
theorem d_As_read_33 : decode b_As_read 33 = .ok (.goto 13, 3) := by decide +kernel
theorem d_As_read_36 : decode b_As_read 36 = .ok (.aload_n 0, 1) := by decide +kernel
theorem d_As_read_37 : decode b_As_read 37 = .ok (.dup, 1) := by decide +kernel
theorem d_As_read_38 : decode b_As_read 38 = .ok (.getfield 48, 3) := by decide +kernel
theorem d_As_read_41 : decode b_As_read 41 = .ok (.iload_n 1, 1) := by decide +kernel
theorem d_As_read_42 : decode b_As_read 42 = .ok (.iadd, 1) := by decide +kernel
theorem d_As_read_43 : decode b_As_read 43 = .ok (.putfield 48, 3) := by decide +kernel
theorem d_As_read_46 : decode b_As_read 46 = .ok (.aload_n 0, 1) := by decide +kernel
theorem d_As_read_47 : decode b_As_read 47 = .ok (.dup, 1) := by decide +kernel
theorem d_As_read_48 : decode b_As_read 48 = .ok (.getfield 27, 3) := by decide +kernel
theorem d_As_read_51 : decode b_As_read 51 = .ok (.iconst 1, 1) := by decide +kernel
theorem d_As_read_52 : decode b_As_read 52 = .ok (.iadd, 1) := by decide +kernel
theorem d_As_read_53 : decode b_As_read 53 = .ok (.putfield 27, 3) := by decide +kernel
theorem d_As_read_56 : decode b_As_read 56 = .ok (.aload_n 0, 1) := by decide +kernel
theorem d_As_read_57 : decode b_As_read 57 = .ok (.getfield 27, 3) := by decide +kernel
theorem d_As_read_60 : decode b_As_read 60 = .ok (.iconst 2, 1) := by decide +kernel
theorem d_As_read_61 : decode b_As_read 61 = .ok (.if_icmp .lt 48, 3) := by decide +kernel
theorem d_As_read_64 : decode b_As_read 64 = .ok (.aload_n 0, 1) := by decide +kernel
theorem d_As_read_65 : decode b_As_read 65 = .ok (.getfield 27, 3) := by decide +kernel
theorem d_As_read_68 : decode b_As_read 68 = .ok (.iconst 2, 1) := by decide +kernel
theorem d_As_read_69 : decode b_As_read 69 = .ok (.isub, 1) := by decide +kernel
theorem d_As_read_70 : decode b_As_read 70 = .ok (.aload_n 0, 1) := by decide +kernel
theorem d_As_read_71 : decode b_As_read 71 = .ok (.getfield 51, 3) := by decide +kernel
theorem d_As_read_74 : decode b_As_read 74 = .ok (.if_icmp .ne 35, 3) := by decide +kernel
theorem d_As_read_77 : decode b_As_read 77 = .ok (.aload_n 0, 1) := by decide +kernel
theorem d_As_read_78 : decode b_As_read 78 = .ok (.iconst 0, 1) := by decide +kernel
theorem d_As_read_79 : decode b_As_read 79 = .ok (.putfield 27, 3) := by decide +kernel
theorem d_As_read_82 : decode b_As_read 82 = .ok (.aload_n 0, 1) := by decide +kernel
theorem d_As_read_83 : decode b_As_read 83 = .ok (.getfield 45, 3) := by decide +kernel
theorem d_As_read_86 : decode b_As_read 86 = .ok (.ifCond .eq 23, 3) := by decide +kernel
theorem d_As_read_89 : decode b_As_read 89 = .ok (.aload_n 2, 1) := by decide +kernel
theorem d_As_read_90 : decode b_As_read 90 = .ok (.aload_n 0, 1) := by decide +kernel
theorem d_As_read_91 : decode b_As_read 91 = .ok (.getfield 15, 3) := by decide +kernel
theorem d_As_read_94 : decode b_As_read 94 = .ok (.aload_n 0, 1) := by decide +kernel
theorem d_As_read_95 : decode b_As_read 95 = .ok (.getfield 45, 3) := by decide +kernel
theorem d_As_read_98 : decode b_As_read 98 = .ok (.aload_n 0, 1) := by decide +kernel
theorem d_As_read_99 : decode b_As_read 99 = .ok (.getfield 51, 3) := by decide +kernel
theorem d_As_read_102 : decode b_As_read 102 = .ok (.aload_n 0, 1) := by decide +kernel
theorem d_As_read_103 : decode b_As_read 103 = .ok (.getfield 48, 3) := by decide +kernel
theorem d_As_read_106 : decode b_As_read 106 = .ok (.invokevirtual 54, 3) := by decide +kernel
theorem d_As_read_109 : decode b_As_read 109 = .ok (.return_, 1) := by decide +kernel
theorem d_Cr_init_0 : decode b_Cr_init 0 = .ok (.aload_n 0, 1) := by decide +kernel
theorem d_Cr_init_1 : decode b_Cr_init 1 = .ok (.invokespecial 3, 3) := by decide +kernel
theorem d_Cr_init_4 : decode b_Cr_init 4 = .ok (.aload_n 0, 1) := by decide +kernel
theorem d_Cr_init_5 : decode b_Cr_init 5 = .ok (.iconst 3, 1) := by decide +kernel
theorem d_Cr_init_6 : decode b_Cr_init 6 = .ok (.newarray .int, 2) := by decide +kernel
theorem d_Cr_init_8 : decode b_Cr_init 8 = .ok (.putfield 11, 3) := by decide +kernel
theorem d_Cr_init_11 : decode b_Cr_init 11 = .ok (.aload_n 0, 1) := by decide +kernel
theorem d_Cr_init_12 : decode b_Cr_init 12 = .ok (.iconst 0, 1) := by decide +kernel
theorem d_Cr_init_13 : decode b_Cr_init 13 = .ok (.putfield 15, 3) := by decide +kernel
theorem d_Cr_init_16 : decode b_Cr_init 16 = .ok (.return_, 1) := by decide +kernel
theorem d_Cr_queued_0 : decode b_Cr_queued 0 = .ok (.aload_n 0, 1) := by decide +kernel
theorem d_Cr_queued_1 : decode b_Cr_queued 1 = .ok (.getfield 19, 3) := by decide +kernel
theorem d_Cr_queued_4 : decode b_Cr_queued 4 = .ok (.ireturn, 1) := by decide +kernel
theorem d_Cr_takeFirst_0 : decode b_Cr_takeFirst 0 = .ok (.aload_n 0, 1) := by decide +kernel
theorem d_Cr_takeFirst_1 : decode b_Cr_takeFirst 1 = .ok (.getfield 11, 3) := by decide +kernel
theorem d_Cr_takeFirst_4 : decode b_Cr_takeFirst 4 = .ok (.iconst 0, 1) := by decide +kernel
theorem d_Cr_takeFirst_5 : decode b_Cr_takeFirst 5 = .ok (.iaload, 1) := by decide +kernel
theorem d_Cr_takeFirst_6 : decode b_Cr_takeFirst 6 = .ok (.istore_n 1, 1) := by decide +kernel
theorem d_Cr_takeFirst_7 : decode b_Cr_takeFirst 7 = .ok (.iconst 1, 1) := by decide +kernel
theorem d_Cr_takeFirst_8 : decode b_Cr_takeFirst 8 = .ok (.istore_n 2, 1) := by decide +kernel
theorem d_Cr_takeFirst_9 : decode b_Cr_takeFirst 9 = .ok (.iload_n 2, 1) := by decide +kernel
theorem d_Cr_takeFirst_10 : decode b_Cr_takeFirst 10 = .ok (.aload_n 0, 1) := by decide +kernel
theorem d_Cr_takeFirst_11 : decode b_Cr_takeFirst 11 = .ok (.getfield 19, 3) := by decide +kernel
theorem d_Cr_takeFirst_14 : decode b_Cr_takeFirst 14 = .ok (.if_icmp .ge 23, 3) := by decide +kernel
theorem d_Cr_takeFirst_17 : decode b_Cr_takeFirst 17 = .ok (.aload_n 0, 1) := by decide +kernel
theorem d_Cr_takeFirst_18 : decode b_Cr_takeFirst 18 = .ok (.getfield 11, 3) := by decide +kernel
theorem d_Cr_takeFirst_21 : decode b_Cr_takeFirst 21 = .ok (.iload_n 2, 1) := by decide +kernel
theorem d_Cr_takeFirst_22 : decode b_Cr_takeFirst 22 = .ok (.iconst 1, 1) := by decide +kernel
theorem d_Cr_takeFirst_23 : decode b_Cr_takeFirst 23 = .ok (.isub, 1) := by decide +kernel
theorem d_Cr_takeFirst_24 : decode b_Cr_takeFirst 24 = .ok (.aload_n 0, 1) := by decide +kernel
theorem d_Cr_takeFirst_25 : decode b_Cr_takeFirst 25 = .ok (.getfield 11, 3) := by decide +kernel
theorem d_Cr_takeFirst_28 : decode b_Cr_takeFirst 28 = .ok (.iload_n 2, 1) := by decide +kernel
theorem d_Cr_takeFirst_29 : decode b_Cr_takeFirst 29 = .ok (.iaload, 1) := by decide +kernel
theorem d_Cr_takeFirst_30 : decode b_Cr_takeFirst 30 = .ok (.iastore, 1) := by decide +kernel
theorem d_Cr_takeFirst_31 : decode b_Cr_takeFirst 31 = .ok (.iinc 2 1, 3) := by decide +kernel
theorem d_Cr_takeFirst_34 : decode b_Cr_takeFirst 34 = .ok (.goto (-25), 3) := by decide +kernel
theorem d_Cr_takeFirst_37 : decode b_Cr_takeFirst 37 = .ok (.aload_n 0, 1) := by decide +kernel
theorem d_Cr_takeFirst_38 : decode b_Cr_takeFirst 38 = .ok (.dup, 1) := by decide +kernel
theorem d_Cr_takeFirst_39 : decode b_Cr_takeFirst 39 = .ok (.getfield 19, 3) := by decide +kernel
theorem d_Cr_takeFirst_42 : decode b_Cr_takeFirst 42 = .ok (.iconst 1, 1) := by decide +kernel
theorem d_Cr_takeFirst_43 : decode b_Cr_takeFirst 43 = .ok (.isub, 1) := by decide +kernel
theorem d_Cr_takeFirst_44 : decode b_Cr_takeFirst 44 = .ok (.putfield 19, 3) := by decide +kernel
theorem d_Cr_takeFirst_47 : decode b_Cr_takeFirst 47 = .ok (.aload_n 0, 1) := by decide +kernel
theorem d_Cr_takeFirst_48 : decode b_Cr_takeFirst 48 = .ok (.getfield 15, 3) := by decide +kernel
theorem d_Cr_takeFirst_51 : decode b_Cr_takeFirst 51 = .ok (.iconst 1, 1) := by decide +kernel
theorem d_Cr_takeFirst_52 : decode b_Cr_takeFirst 52 = .ok (.if_icmp .ne 8, 3) := by decide +kernel
theorem d_Cr_takeFirst_55 : decode b_Cr_takeFirst 55 = .ok (.aload_n 0, 1) := by decide +kernel
theorem d_Cr_takeFirst_56 : decode b_Cr_takeFirst 56 = .ok (.iconst 0, 1) := by decide +kernel
theorem d_Cr_takeFirst_57 : decode b_Cr_takeFirst 57 = .ok (.putfield 15, 3) := by decide +kernel
theorem d_Cr_takeFirst_60 : decode b_Cr_takeFirst 60 = .ok (.iload_n 1, 1) := by decide +kernel
theorem d_Cr_takeFirst_61 : decode b_Cr_takeFirst 61 = .ok (.ireturn, 1) := by decide +kernel
theorem d_Cr_receive_0 : decode b_Cr_receive 0 = .ok (.iload_n 1, 1) := by decide +kernel
theorem d_Cr_receive_1 : decode b_Cr_receive 1 = .ok (.ifCond .ne 19, 3) := by decide +kernel
theorem d_Cr_receive_4 : decode b_Cr_receive 4 = .ok (.aload_n 0, 1) := by decide +kernel
theorem d_Cr_receive_5 : decode b_Cr_receive 5 = .ok (.aload_n 0, 1) := by decide +kernel
theorem d_Cr_receive_6 : decode b_Cr_receive 6 = .ok (.getfield 22, 3) := by decide +kernel
theorem d_Cr_receive_9 : decode b_Cr_receive 9 = .ok (.iload_n 2, 1) := by decide +kernel
theorem d_Cr_receive_10 : decode b_Cr_receive 10 = .ok (.invokestatic 25, 3) := by decide +kernel
theorem d_Cr_receive_13 : decode b_Cr_receive 13 = .ok (.iload_n 3, 1) := by decide +kernel
theorem d_Cr_receive_14 : decode b_Cr_receive 14 = .ok (.invokevirtual 29, 3) := by decide +kernel
theorem d_Cr_receive_17 : decode b_Cr_receive 17 = .ok (.goto 32, 3) := by decide +kernel
theorem d_Cr_receive_20 : decode b_Cr_receive 20 = .ok (.iload_n 1, 1) := by decide +kernel
theorem d_Cr_receive_21 : decode b_Cr_receive 21 = .ok (.iconst 1, 1) := by decide +kernel
theorem d_Cr_receive_22 : decode b_Cr_receive 22 = .ok (.if_icmp .ne 10, 3) := by decide +kernel
theorem d_Cr_receive_25 : decode b_Cr_receive 25 = .ok (.aload_n 0, 1) := by decide +kernel
theorem d_Cr_receive_26 : decode b_Cr_receive 26 = .ok (.invokevirtual 33, 3) := by decide +kernel
theorem d_Cr_receive_29 : decode b_Cr_receive 29 = .ok (.goto 20, 3) := by decide +kernel
theorem d_Cr_receive_32 : decode b_Cr_receive 32 = .ok (.aload_n 0, 1) := by decide +kernel
theorem d_Cr_receive_33 : decode b_Cr_receive 33 = .ok (.getfield 15, 3) := by decide +kernel
theorem d_Cr_receive_36 : decode b_Cr_receive 36 = .ok (.iconst 2, 1) := by decide +kernel
theorem d_Cr_receive_37 : decode b_Cr_receive 37 = .ok (.if_icmp .eq 12, 3) := by decide +kernel
theorem d_Cr_receive_40 : decode b_Cr_receive 40 = .ok (.aload_n 0, 1) := by decide +kernel
theorem d_Cr_receive_41 : decode b_Cr_receive 41 = .ok (.iload_n 2, 1) := by decide +kernel
theorem d_Cr_receive_42 : decode b_Cr_receive 42 = .ok (.putfield 22, 3) := by decide +kernel
theorem d_Cr_receive_45 : decode b_Cr_receive 45 = .ok (.aload_n 0, 1) := by decide +kernel
theorem d_Cr_receive_46 : decode b_Cr_receive 46 = .ok (.invokevirtual 33, 3) := by decide +kernel
theorem d_Cr_receive_49 : decode b_Cr_receive 49 = .ok (.return_, 1) := by decide +kernel
theorem d_Cr_tell_0 : decode b_Cr_tell 0 = .ok (.iload_n 1, 1) := by decide +kernel
theorem d_Cr_tell_1 : decode b_Cr_tell 1 = .ok (.tableswitch 50 0 2 #[27, 32, 37], 27) := by decide +kernel
theorem d_Cr_tell_28 : decode b_Cr_tell 28 = .ok (.aload_n 0, 1) := by decide +kernel
theorem d_Cr_tell_29 : decode b_Cr_tell 29 = .ok (.getfield 15, 3) := by decide +kernel
theorem d_Cr_tell_32 : decode b_Cr_tell 32 = .ok (.ireturn, 1) := by decide +kernel
theorem d_Cr_tell_33 : decode b_Cr_tell 33 = .ok (.aload_n 0, 1) := by decide +kernel
theorem d_Cr_tell_34 : decode b_Cr_tell 34 = .ok (.getfield 22, 3) := by decide +kernel
theorem d_Cr_tell_37 : decode b_Cr_tell 37 = .ok (.ireturn, 1) := by decide +kernel
theorem d_Cr_tell_38 : decode b_Cr_tell 38 = .ok (.aload_n 0, 1) := by decide +kernel
theorem d_Cr_tell_39 : decode b_Cr_tell 39 = .ok (.getfield 36, 3) := by decide +kernel
theorem d_Cr_tell_42 : decode b_Cr_tell 42 = .ok (.ifCond .eq 7, 3) := by decide +kernel
theorem d_Cr_tell_45 : decode b_Cr_tell 45 = .ok (.iconst 1, 1) := by decide +kernel
theorem d_Cr_tell_46 : decode b_Cr_tell 46 = .ok (.goto 4, 3) := by decide +kernel
theorem d_Cr_tell_49 : decode b_Cr_tell 49 = .ok (.iconst 0, 1) := by decide +kernel
theorem d_Cr_tell_50 : decode b_Cr_tell 50 = .ok (.ireturn, 1) := by decide +kernel
theorem d_Cr_tell_51 : decode b_Cr_tell 51 = .ok (.aload_n 0, 1) := by decide +kernel
theorem d_Cr_tell_52 : decode b_Cr_tell 52 = .ok (.getfield 19, 3) := by decide +kernel
theorem d_Cr_tell_55 : decode b_Cr_tell 55 = .ok (.ireturn, 1) := by decide +kernel
theorem d_Cr_reopen_0 : decode b_Cr_reopen 0 = .ok (.aload_n 0, 1) := by decide +kernel
theorem d_Cr_reopen_1 : decode b_Cr_reopen 1 = .ok (.iconst 0, 1) := by decide +kernel
theorem d_Cr_reopen_2 : decode b_Cr_reopen 2 = .ok (.putfield 15, 3) := by decide +kernel
theorem d_Cr_reopen_5 : decode b_Cr_reopen 5 = .ok (.aload_n 0, 1) := by decide +kernel
theorem d_Cr_reopen_6 : decode b_Cr_reopen 6 = .ok (.iconst 0, 1) := by decide +kernel
theorem d_Cr_reopen_7 : decode b_Cr_reopen 7 = .ok (.putfield 36, 3) := by decide +kernel
theorem d_Cr_reopen_10 : decode b_Cr_reopen 10 = .ok (.return_, 1) := by decide +kernel
theorem d_Cr_receiveCommand_0 : decode b_Cr_receiveCommand 0 = .ok (.iload_n 1, 1) := by decide +kernel
theorem d_Cr_receiveCommand_1 : decode b_Cr_receiveCommand 1 = .ok (.iconst 4, 1) := by decide +kernel
theorem d_Cr_receiveCommand_2 : decode b_Cr_receiveCommand 2 = .ok (.if_icmp .le 17, 3) := by decide +kernel
theorem d_Cr_receiveCommand_5 : decode b_Cr_receiveCommand 5 = .ok (.iload_n 1, 1) := by decide +kernel
theorem d_Cr_receiveCommand_6 : decode b_Cr_receiveCommand 6 = .ok (.bipush 10, 2) := by decide +kernel
theorem d_Cr_receiveCommand_8 : decode b_Cr_receiveCommand 8 = .ok (.if_icmp .gt 35, 3) := by decide +kernel
theorem d_Cr_receiveCommand_11 : decode b_Cr_receiveCommand 11 = .ok (.aload_n 0, 1) := by decide +kernel
theorem d_Cr_receiveCommand_12 : decode b_Cr_receiveCommand 12 = .ok (.iconst 2, 1) := by decide +kernel
theorem d_Cr_receiveCommand_13 : decode b_Cr_receiveCommand 13 = .ok (.putfield 15, 3) := by decide +kernel
theorem d_Cr_receiveCommand_16 : decode b_Cr_receiveCommand 16 = .ok (.goto 27, 3) := by decide +kernel
theorem d_Cr_receiveCommand_19 : decode b_Cr_receiveCommand 19 = .ok (.aload_n 0, 1) := by decide +kernel
theorem d_Cr_receiveCommand_20 : decode b_Cr_receiveCommand 20 = .ok (.getfield 15, 3) := by decide +kernel
theorem d_Cr_receiveCommand_23 : decode b_Cr_receiveCommand 23 = .ok (.ifCond .ne 20, 3) := by decide +kernel
theorem d_Cr_receiveCommand_26 : decode b_Cr_receiveCommand 26 = .ok (.iload_n 1, 1) := by decide +kernel
theorem d_Cr_receiveCommand_27 : decode b_Cr_receiveCommand 27 = .ok (.ifCond .le 11, 3) := by decide +kernel
theorem d_Cr_receiveCommand_30 : decode b_Cr_receiveCommand 30 = .ok (.aload_n 0, 1) := by decide +kernel
theorem d_Cr_receiveCommand_31 : decode b_Cr_receiveCommand 31 = .ok (.iconst 1, 1) := by decide +kernel
theorem d_Cr_receiveCommand_32 : decode b_Cr_receiveCommand 32 = .ok (.putfield 36, 3) := by decide +kernel
theorem d_Cr_receiveCommand_35 : decode b_Cr_receiveCommand 35 = .ok (.goto 8, 3) := by decide +kernel
theorem d_Cr_receiveCommand_38 : decode b_Cr_receiveCommand 38 = .ok (.aload_n 0, 1) := by decide +kernel
theorem d_Cr_receiveCommand_39 : decode b_Cr_receiveCommand 39 = .ok (.iload_n 2, 1) := by decide +kernel
theorem d_Cr_receiveCommand_40 : decode b_Cr_receiveCommand 40 = .ok (.invokevirtual 40, 3) := by decide +kernel
theorem d_Cr_receiveCommand_43 : decode b_Cr_receiveCommand 43 = .ok (.return_, 1) := by decide +kernel
theorem d_Cr_receiveExpected_0 : decode b_Cr_receiveExpected 0 = .ok (.aload_n 0, 1) := by decide +kernel
theorem d_Cr_receiveExpected_1 : decode b_Cr_receiveExpected 1 = .ok (.getfield 19, 3) := by decide +kernel
theorem d_Cr_receiveExpected_4 : decode b_Cr_receiveExpected 4 = .ok (.iconst 3, 1) := by decide +kernel
theorem d_Cr_receiveExpected_5 : decode b_Cr_receiveExpected 5 = .ok (.if_icmp .ge 42, 3) := by decide +kernel
theorem d_Cr_receiveExpected_8 : decode b_Cr_receiveExpected 8 = .ok (.aload_n 0, 1) := by decide +kernel
theorem d_Cr_receiveExpected_9 : decode b_Cr_receiveExpected 9 = .ok (.getfield 11, 3) := by decide +kernel
theorem d_Cr_receiveExpected_12 : decode b_Cr_receiveExpected 12 = .ok (.aload_n 0, 1) := by decide +kernel
theorem d_Cr_receiveExpected_13 : decode b_Cr_receiveExpected 13 = .ok (.getfield 19, 3) := by decide +kernel
theorem d_Cr_receiveExpected_16 : decode b_Cr_receiveExpected 16 = .ok (.iload_n 1, 1) := by decide +kernel
theorem d_Cr_receiveExpected_17 : decode b_Cr_receiveExpected 17 = .ok (.iastore, 1) := by decide +kernel
theorem d_Cr_receiveExpected_18 : decode b_Cr_receiveExpected 18 = .ok (.aload_n 0, 1) := by decide +kernel
theorem d_Cr_receiveExpected_19 : decode b_Cr_receiveExpected 19 = .ok (.dup, 1) := by decide +kernel
theorem d_Cr_receiveExpected_20 : decode b_Cr_receiveExpected 20 = .ok (.getfield 19, 3) := by decide +kernel
theorem d_Cr_receiveExpected_23 : decode b_Cr_receiveExpected 23 = .ok (.iconst 1, 1) := by decide +kernel
theorem d_Cr_receiveExpected_24 : decode b_Cr_receiveExpected 24 = .ok (.iadd, 1) := by decide +kernel
theorem d_Cr_receiveExpected_25 : decode b_Cr_receiveExpected 25 = .ok (.putfield 19, 3) := by decide +kernel
theorem d_Cr_receiveExpected_28 : decode b_Cr_receiveExpected 28 = .ok (.aload_n 0, 1) := by decide +kernel
theorem d_Cr_receiveExpected_29 : decode b_Cr_receiveExpected 29 = .ok (.aload_n 0, 1) := by decide +kernel
theorem d_Cr_receiveExpected_30 : decode b_Cr_receiveExpected 30 = .ok (.getfield 22, 3) := by decide +kernel
theorem d_Cr_receiveExpected_33 : decode b_Cr_receiveExpected 33 = .ok (.invokestatic 44, 3) := by decide +kernel
theorem d_Cr_receiveExpected_36 : decode b_Cr_receiveExpected 36 = .ok (.putfield 22, 3) := by decide +kernel
theorem d_Cr_receiveExpected_39 : decode b_Cr_receiveExpected 39 = .ok (.aload_n 0, 1) := by decide +kernel
theorem d_Cr_receiveExpected_40 : decode b_Cr_receiveExpected 40 = .ok (.iconst 0, 1) := by decide +kernel
theorem d_Cr_receiveExpected_41 : decode b_Cr_receiveExpected 41 = .ok (.putfield 36, 3) := by decide +kernel
theorem d_Cr_receiveExpected_44 : decode b_Cr_receiveExpected 44 = .ok (.goto 13, 3) := by decide +kernel
theorem d_Cr_receiveExpected_47 : decode b_Cr_receiveExpected 47 = .ok (.aload_n 0, 1) := by decide +kernel
theorem d_Cr_receiveExpected_48 : decode b_Cr_receiveExpected 48 = .ok (.iconst 1, 1) := by decide +kernel
theorem d_Cr_receiveExpected_49 : decode b_Cr_receiveExpected 49 = .ok (.putfield 36, 3) := by decide +kernel
theorem d_Cr_receiveExpected_52 : decode b_Cr_receiveExpected 52 = .ok (.aload_n 0, 1) := by decide +kernel
theorem d_Cr_receiveExpected_53 : decode b_Cr_receiveExpected 53 = .ok (.iconst 1, 1) := by decide +kernel
theorem d_Cr_receiveExpected_54 : decode b_Cr_receiveExpected 54 = .ok (.putfield 15, 3) := by decide +kernel
theorem d_Cr_receiveExpected_57 : decode b_Cr_receiveExpected 57 = .ok (.return_, 1) := by decide +kernel
theorem d_Gr_init_0 : decode b_Gr_init 0 = .ok (.aload_n 0, 1) := by decide +kernel
theorem d_Gr_init_1 : decode b_Gr_init 1 = .ok (.invokespecial 3, 3) := by decide +kernel
theorem d_Gr_init_4 : decode b_Gr_init 4 = .ok (.aload_n 0, 1) := by decide +kernel
theorem d_Gr_init_5 : decode b_Gr_init 5 = .ok (.new 9, 3) := by decide +kernel
theorem d_Gr_init_8 : decode b_Gr_init 8 = .ok (.dup, 1) := by decide +kernel
theorem d_Gr_init_9 : decode b_Gr_init 9 = .ok (.invokespecial 11, 3) := by decide +kernel
theorem d_Gr_init_12 : decode b_Gr_init 12 = .ok (.putfield 12, 3) := by decide +kernel
theorem d_Gr_init_15 : decode b_Gr_init 15 = .ok (.aload_n 0, 1) := by decide +kernel
theorem d_Gr_init_16 : decode b_Gr_init 16 = .ok (.iconst 0, 1) := by decide +kernel
theorem d_Gr_init_17 : decode b_Gr_init 17 = .ok (.putfield 18, 3) := by decide +kernel
theorem d_Gr_init_20 : decode b_Gr_init 20 = .ok (.aload_n 0, 1) := by decide +kernel
theorem d_Gr_init_21 : decode b_Gr_init 21 = .ok (.iconst 3, 1) := by decide +kernel
theorem d_Gr_init_22 : decode b_Gr_init 22 = .ok (.putfield 22, 3) := by decide +kernel
theorem d_Gr_init_25 : decode b_Gr_init 25 = .ok (.aload_n 0, 1) := by decide +kernel
theorem d_Gr_init_26 : decode b_Gr_init 26 = .ok (.iconst 4, 1) := by decide +kernel
theorem d_Gr_init_27 : decode b_Gr_init 27 = .ok (.putfield 25, 3) := by decide +kernel
theorem d_Gr_init_30 : decode b_Gr_init 30 = .ok (.aload_n 0, 1) := by decide +kernel
theorem d_Gr_init_31 : decode b_Gr_init 31 = .ok (.iconst 5, 1) := by decide +kernel
theorem d_Gr_init_32 : decode b_Gr_init 32 = .ok (.putfield 28, 3) := by decide +kernel
theorem d_Gr_init_35 : decode b_Gr_init 35 = .ok (.return_, 1) := by decide +kernel
theorem d_Gr_isIdle_0 : decode b_Gr_isIdle 0 = .ok (.aload_n 0, 1) := by decide +kernel
theorem d_Gr_isIdle_1 : decode b_Gr_isIdle 1 = .ok (.getfield 18, 3) := by decide +kernel
theorem d_Gr_isIdle_4 : decode b_Gr_isIdle 4 = .ok (.ifCond .ne 7, 3) := by decide +kernel
theorem d_Gr_isIdle_7 : decode b_Gr_isIdle 7 = .ok (.iconst 1, 1) := by decide +kernel
theorem d_Gr_isIdle_8 : decode b_Gr_isIdle 8 = .ok (.goto 4, 3) := by decide +kernel
theorem d_Gr_isIdle_11 : decode b_Gr_isIdle 11 = .ok (.iconst 0, 1) := by decide +kernel
theorem d_Gr_isIdle_12 : decode b_Gr_isIdle 12 = .ok (.ireturn, 1) := by decide +kernel
theorem d_Gr_takesCommands_0 : decode b_Gr_takesCommands 0 = .ok (.aload_n 0, 1) := by decide +kernel
theorem d_Gr_takesCommands_1 : decode b_Gr_takesCommands 1 = .ok (.invokevirtual 31, 3) := by decide +kernel
theorem d_Gr_takesCommands_4 : decode b_Gr_takesCommands 4 = .ok (.ifCond .ne 11, 3) := by decide +kernel
theorem d_Gr_takesCommands_7 : decode b_Gr_takesCommands 7 = .ok (.aload_n 0, 1) := by decide +kernel
theorem d_Gr_takesCommands_8 : decode b_Gr_takesCommands 8 = .ok (.getfield 18, 3) := by decide +kernel
theorem d_Gr_takesCommands_11 : decode b_Gr_takesCommands 11 = .ok (.iconst 3, 1) := by decide +kernel
theorem d_Gr_takesCommands_12 : decode b_Gr_takesCommands 12 = .ok (.if_icmp .ne 7, 3) := by decide +kernel
theorem d_Gr_takesCommands_15 : decode b_Gr_takesCommands 15 = .ok (.iconst 1, 1) := by decide +kernel
theorem d_Gr_takesCommands_16 : decode b_Gr_takesCommands 16 = .ok (.goto 4, 3) := by decide +kernel
theorem d_Gr_takesCommands_19 : decode b_Gr_takesCommands 19 = .ok (.iconst 0, 1) := by decide +kernel
theorem d_Gr_takesCommands_20 : decode b_Gr_takesCommands 20 = .ok (.ireturn, 1) := by decide +kernel
theorem d_Gr_adjust_0 : decode b_Gr_adjust 0 = .ok (.aload_n 0, 1) := by decide +kernel
theorem d_Gr_adjust_1 : decode b_Gr_adjust 1 = .ok (.iload_n 1, 1) := by decide +kernel
theorem d_Gr_adjust_2 : decode b_Gr_adjust 2 = .ok (.putfield 22, 3) := by decide +kernel
theorem d_Gr_adjust_5 : decode b_Gr_adjust 5 = .ok (.aload_n 0, 1) := by decide +kernel
theorem d_Gr_adjust_6 : decode b_Gr_adjust 6 = .ok (.iload_n 2, 1) := by decide +kernel
theorem d_Gr_adjust_7 : decode b_Gr_adjust 7 = .ok (.putfield 25, 3) := by decide +kernel
theorem d_Gr_adjust_10 : decode b_Gr_adjust 10 = .ok (.aload_n 0, 1) := by decide +kernel
theorem d_Gr_adjust_11 : decode b_Gr_adjust 11 = .ok (.iload_n 3, 1) := by decide +kernel
theorem d_Gr_adjust_12 : decode b_Gr_adjust 12 = .ok (.putfield 28, 3) := by decide +kernel
theorem d_Gr_adjust_15 : decode b_Gr_adjust 15 = .ok (.return_, 1) := by decide +kernel
theorem d_Gr_renumber_0 : decode b_Gr_renumber 0 = .ok (.aload_n 0, 1) := by decide +kernel
theorem d_Gr_renumber_1 : decode b_Gr_renumber 1 = .ok (.iload_n 1, 1) := by decide +kernel
theorem d_Gr_renumber_2 : decode b_Gr_renumber 2 = .ok (.putfield 35, 3) := by decide +kernel
theorem d_Gr_renumber_5 : decode b_Gr_renumber 5 = .ok (.aload_n 0, 1) := by decide +kernel
theorem d_Gr_renumber_6 : decode b_Gr_renumber 6 = .ok (.iload_n 1, 1) := by decide +kernel
theorem d_Gr_renumber_7 : decode b_Gr_renumber 7 = .ok (.putfield 38, 3) := by decide +kernel
theorem d_Gr_renumber_10 : decode b_Gr_renumber 10 = .ok (.return_, 1) := by decide +kernel
theorem d_Gr_start_0 : decode b_Gr_start 0 = .ok (.aload_n 0, 1) := by decide +kernel
theorem d_Gr_start_1 : decode b_Gr_start 1 = .ok (.iconst 1, 1) := by decide +kernel
theorem d_Gr_start_2 : decode b_Gr_start 2 = .ok (.putfield 41, 3) := by decide +kernel
theorem d_Gr_start_5 : decode b_Gr_start 5 = .ok (.aload_n 0, 1) := by decide +kernel
theorem d_Gr_start_6 : decode b_Gr_start 6 = .ok (.iconst 0, 1) := by decide +kernel
theorem d_Gr_start_7 : decode b_Gr_start 7 = .ok (.putfield 44, 3) := by decide +kernel
theorem d_Gr_start_10 : decode b_Gr_start 10 = .ok (.iload_n 1, 1) := by decide +kernel
theorem d_Gr_start_11 : decode b_Gr_start 11 = .ok (.lookupswitch 49 #[(0, 25), (1, 33)], 25) := by decide +kernel
theorem d_Gr_start_36 : decode b_Gr_start 36 = .ok (.aload_n 0, 1) := by decide +kernel
theorem d_Gr_start_37 : decode b_Gr_start 37 = .ok (.iconst 1, 1) := by decide +kernel
theorem d_Gr_start_38 : decode b_Gr_start 38 = .ok (.putfield 18, 3) := by decide +kernel
theorem d_Gr_start_41 : decode b_Gr_start 41 = .ok (.goto 43, 3) := by decide +kernel
theorem d_Gr_start_44 : decode b_Gr_start 44 = .ok (.aload_n 0, 1) := by decide +kernel
theorem d_Gr_start_45 : decode b_Gr_start 45 = .ok (.iconst 4, 1) := by decide +kernel
theorem d_Gr_start_46 : decode b_Gr_start 46 = .ok (.putfield 18, 3) := by decide +kernel
theorem d_Gr_start_49 : decode b_Gr_start 49 = .ok (.aload_n 0, 1) := by decide +kernel
theorem d_Gr_start_50 : decode b_Gr_start 50 = .ok (.aload_n 0, 1) := by decide +kernel
theorem d_Gr_start_51 : decode b_Gr_start 51 = .ok (.getfield 28, 3) := by decide +kernel
theorem d_Gr_start_54 : decode b_Gr_start 54 = .ok (.putfield 47, 3) := by decide +kernel
theorem d_Gr_start_57 : decode b_Gr_start 57 = .ok (.goto 27, 3) := by decide +kernel
theorem d_Gr_start_60 : decode b_Gr_start 60 = .ok (.aload_n 0, 1) := by decide +kernel
theorem d_Gr_start_61 : decode b_Gr_start 61 = .ok (.iconst 5, 1) := by decide +kernel
theorem d_Gr_start_62 : decode b_Gr_start 62 = .ok (.putfield 18, 3) := by decide +kernel
theorem d_Gr_start_65 : decode b_Gr_start 65 = .ok (.aload_n 0, 1) := by decide +kernel
theorem d_Gr_start_66 : decode b_Gr_start 66 = .ok (.iload_n 1, 1) := by decide +kernel
theorem d_Gr_start_67 : decode b_Gr_start 67 = .ok (.iconst 2, 1) := by decide +kernel
theorem d_Gr_start_68 : decode b_Gr_start 68 = .ok (.if_icmp .ne 7, 3) := by decide +kernel
theorem d_Gr_start_71 : decode b_Gr_start 71 = .ok (.iconst 1, 1) := by decide +kernel
theorem d_Gr_start_72 : decode b_Gr_start 72 = .ok (.goto 4, 3) := by decide +kernel
theorem d_Gr_start_75 : decode b_Gr_start 75 = .ok (.iconst 2, 1) := by decide +kernel
theorem d_Gr_start_76 : decode b_Gr_start 76 = .ok (.putfield 50, 3) := by decide +kernel
theorem d_Gr_start_79 : decode b_Gr_start 79 = .ok (.aload_n 0, 1) := by decide +kernel
theorem d_Gr_start_80 : decode b_Gr_start 80 = .ok (.iconst 1, 1) := by decide +kernel
theorem d_Gr_start_81 : decode b_Gr_start 81 = .ok (.putfield 53, 3) := by decide +kernel
theorem d_Gr_start_84 : decode b_Gr_start 84 = .ok (.return_, 1) := by decide +kernel
theorem d_Gr_finish_0 : decode b_Gr_finish 0 = .ok (.aload_n 0, 1) := by decide +kernel
theorem d_Gr_finish_1 : decode b_Gr_finish 1 = .ok (.iconst 0, 1) := by decide +kernel
theorem d_Gr_finish_2 : decode b_Gr_finish 2 = .ok (.putfield 18, 3) := by decide +kernel
theorem d_Gr_finish_5 : decode b_Gr_finish 5 = .ok (.aload_n 0, 1) := by decide +kernel
theorem d_Gr_finish_6 : decode b_Gr_finish 6 = .ok (.getfield 12, 3) := by decide +kernel
theorem d_Gr_finish_9 : decode b_Gr_finish 9 = .ok (.invokevirtual 57, 3) := by decide +kernel
theorem d_Gr_finish_12 : decode b_Gr_finish 12 = .ok (.aload_n 0, 1) := by decide +kernel
theorem d_Gr_finish_13 : decode b_Gr_finish 13 = .ok (.iconst 0, 1) := by decide +kernel
theorem d_Gr_finish_14 : decode b_Gr_finish 14 = .ok (.putfield 60, 3) := by decide +kernel
theorem d_Gr_finish_17 : decode b_Gr_finish 17 = .ok (.aload_n 0, 1) := by decide +kernel
theorem d_Gr_finish_18 : decode b_Gr_finish 18 = .ok (.aload_n 0, 1) := by decide +kernel
theorem d_Gr_finish_19 : decode b_Gr_finish 19 = .ok (.getfield 35, 3) := by decide +kernel
theorem d_Gr_finish_22 : decode b_Gr_finish 22 = .ok (.putfield 38, 3) := by decide +kernel
theorem d_Gr_finish_25 : decode b_Gr_finish 25 = .ok (.aload_n 0, 1) := by decide +kernel
theorem d_Gr_finish_26 : decode b_Gr_finish 26 = .ok (.iconst 0, 1) := by decide +kernel
theorem d_Gr_finish_27 : decode b_Gr_finish 27 = .ok (.putfield 47, 3) := by decide +kernel
theorem d_Gr_finish_30 : decode b_Gr_finish 30 = .ok (.return_, 1) := by decide +kernel
theorem d_Gr_offer_0 : decode b_Gr_offer 0 = .ok (.aload_n 0, 1) := by decide +kernel
theorem d_Gr_offer_1 : decode b_Gr_offer 1 = .ok (.getfield 60, 3) := by decide +kernel
theorem d_Gr_offer_4 : decode b_Gr_offer 4 = .ok (.ifCond .eq 5, 3) := by decide +kernel
theorem d_Gr_offer_7 : decode b_Gr_offer 7 = .ok (.iconst 0, 1) := by decide +kernel
theorem d_Gr_offer_8 : decode b_Gr_offer 8 = .ok (.ireturn, 1) := by decide +kernel
theorem d_Gr_offer_9 : decode b_Gr_offer 9 = .ok (.aload_n 0, 1) := by decide +kernel
theorem d_Gr_offer_10 : decode b_Gr_offer 10 = .ok (.iload_n 1, 1) := by decide +kernel
theorem d_Gr_offer_11 : decode b_Gr_offer 11 = .ok (.putfield 63, 3) := by decide +kernel
theorem d_Gr_offer_14 : decode b_Gr_offer 14 = .ok (.aload_n 0, 1) := by decide +kernel
theorem d_Gr_offer_15 : decode b_Gr_offer 15 = .ok (.iconst 1, 1) := by decide +kernel
theorem d_Gr_offer_16 : decode b_Gr_offer 16 = .ok (.putfield 60, 3) := by decide +kernel
theorem d_Gr_offer_19 : decode b_Gr_offer 19 = .ok (.iconst 1, 1) := by decide +kernel
theorem d_Gr_offer_20 : decode b_Gr_offer 20 = .ok (.ireturn, 1) := by decide +kernel
theorem d_Gr_pass_0 : decode b_Gr_pass 0 = .ok (.aload_n 0, 1) := by decide +kernel
theorem d_Gr_pass_1 : decode b_Gr_pass 1 = .ok (.getfield 47, 3) := by decide +kernel
theorem d_Gr_pass_4 : decode b_Gr_pass 4 = .ok (.ifCond .le 24, 3) := by decide +kernel
theorem d_Gr_pass_7 : decode b_Gr_pass 7 = .ok (.aload_n 0, 1) := by decide +kernel
theorem d_Gr_pass_8 : decode b_Gr_pass 8 = .ok (.dup, 1) := by decide +kernel
theorem d_Gr_pass_9 : decode b_Gr_pass 9 = .ok (.getfield 47, 3) := by decide +kernel
theorem d_Gr_pass_12 : decode b_Gr_pass 12 = .ok (.iconst 1, 1) := by decide +kernel
theorem d_Gr_pass_13 : decode b_Gr_pass 13 = .ok (.isub, 1) := by decide +kernel
theorem d_Gr_pass_14 : decode b_Gr_pass 14 = .ok (.putfield 47, 3) := by decide +kernel
theorem d_Gr_pass_17 : decode b_Gr_pass 17 = .ok (.aload_n 0, 1) := by decide +kernel
theorem d_Gr_pass_18 : decode b_Gr_pass 18 = .ok (.getfield 47, 3) := by decide +kernel
theorem d_Gr_pass_21 : decode b_Gr_pass 21 = .ok (.ifCond .ne 7, 3) := by decide +kernel
theorem d_Gr_pass_24 : decode b_Gr_pass 24 = .ok (.aload_n 0, 1) := by decide +kernel
theorem d_Gr_pass_25 : decode b_Gr_pass 25 = .ok (.invokevirtual 66, 3) := by decide +kernel
theorem d_Gr_pass_28 : decode b_Gr_pass 28 = .ok (.aload_n 0, 1) := by decide +kernel
theorem d_Gr_pass_29 : decode b_Gr_pass 29 = .ok (.getfield 18, 3) := by decide +kernel
theorem d_Gr_pass_32 : decode b_Gr_pass 32 = .ok (.iconst 5, 1) := by decide +kernel
theorem d_Gr_pass_33 : decode b_Gr_pass 33 = .ok (.if_icmp .ne 16, 3) := by decide +kernel
theorem d_Gr_pass_36 : decode b_Gr_pass 36 = .ok (.aload_n 0, 1) := by decide +kernel
theorem d_Gr_pass_37 : decode b_Gr_pass 37 = .ok (.getfield 53, 3) := by decide +kernel
theorem d_Gr_pass_40 : decode b_Gr_pass 40 = .ok (.ifCond .eq 9, 3) := by decide +kernel
theorem d_Gr_pass_43 : decode b_Gr_pass 43 = .ok (.aload_n 0, 1) := by decide +kernel
theorem d_Gr_pass_44 : decode b_Gr_pass 44 = .ok (.aload_n 1, 1) := by decide +kernel
theorem d_Gr_pass_45 : decode b_Gr_pass 45 = .ok (.invokevirtual 69, 3) := by decide +kernel
theorem d_Gr_pass_48 : decode b_Gr_pass 48 = .ok (.ireturn, 1) := by decide +kernel
theorem d_Gr_pass_49 : decode b_Gr_pass 49 = .ok (.aload_n 0, 1) := by decide +kernel
theorem d_Gr_pass_50 : decode b_Gr_pass 50 = .ok (.invokevirtual 31, 3) := by decide +kernel
theorem d_Gr_pass_53 : decode b_Gr_pass 53 = .ok (.ifCond .eq 11, 3) := by decide +kernel
theorem d_Gr_pass_56 : decode b_Gr_pass 56 = .ok (.aload_n 0, 1) := by decide +kernel
theorem d_Gr_pass_57 : decode b_Gr_pass 57 = .ok (.aload_n 1, 1) := by decide +kernel
theorem d_Gr_pass_58 : decode b_Gr_pass 58 = .ok (.invokevirtual 73, 3) := by decide +kernel
theorem d_Gr_pass_61 : decode b_Gr_pass 61 = .ok (.goto 4, 3) := by decide +kernel
theorem d_Gr_pass_64 : decode b_Gr_pass 64 = .ok (.iconst (-1), 1) := by decide +kernel
theorem d_Gr_pass_65 : decode b_Gr_pass 65 = .ok (.ireturn, 1) := by decide +kernel
theorem d_Gr_hear_0 : decode b_Gr_hear 0 = .ok (.aload_n 0, 1) := by decide +kernel
theorem d_Gr_hear_1 : decode b_Gr_hear 1 = .ok (.getfield 18, 3) := by decide +kernel
theorem d_Gr_hear_4 : decode b_Gr_hear 4 = .ok (.ifCond .ne 4, 3) := by decide +kernel
theorem d_Gr_hear_7 : decode b_Gr_hear 7 = .ok (.return_, 1) := by decide +kernel
theorem d_Gr_hear_8 : decode b_Gr_hear 8 = .ok (.aload_n 0, 1) := by decide +kernel
theorem d_Gr_hear_9 : decode b_Gr_hear 9 = .ok (.getfield 18, 3) := by decide +kernel
theorem d_Gr_hear_12 : decode b_Gr_hear 12 = .ok (.iconst 5, 1) := by decide +kernel
theorem d_Gr_hear_13 : decode b_Gr_hear 13 = .ok (.if_icmp .ne 11, 3) := by decide +kernel
theorem d_Gr_hear_16 : decode b_Gr_hear 16 = .ok (.aload_n 0, 1) := by decide +kernel
theorem d_Gr_hear_17 : decode b_Gr_hear 17 = .ok (.iload_n 1, 1) := by decide +kernel
theorem d_Gr_hear_18 : decode b_Gr_hear 18 = .ok (.iload_n 2, 1) := by decide +kernel
theorem d_Gr_hear_19 : decode b_Gr_hear 19 = .ok (.iload_n 3, 1) := by decide +kernel
theorem d_Gr_hear_20 : decode b_Gr_hear 20 = .ok (.invokevirtual 76, 3) := by decide +kernel
theorem d_Gr_hear_23 : decode b_Gr_hear 23 = .ok (.return_, 1) := by decide +kernel
theorem d_Gr_hear_24 : decode b_Gr_hear 24 = .ok (.aload_n 0, 1) := by decide +kernel
theorem d_Gr_hear_25 : decode b_Gr_hear 25 = .ok (.getfield 38, 3) := by decide +kernel
theorem d_Gr_hear_28 : decode b_Gr_hear 28 = .ok (.iload_n 1, 1) := by decide +kernel
theorem d_Gr_hear_29 : decode b_Gr_hear 29 = .ok (.invokestatic 80, 3) := by decide +kernel
theorem d_Gr_hear_32 : decode b_Gr_hear 32 = .ok (.istore 4, 2) := by decide +kernel
theorem d_Gr_hear_34 : decode b_Gr_hear 34 = .ok (.iload_n 3, 1) := by decide +kernel
theorem d_Gr_hear_35 : decode b_Gr_hear 35 = .ok (.iconst 2, 1) := by decide +kernel
theorem d_Gr_hear_36 : decode b_Gr_hear 36 = .ok (.if_icmp .ne 11, 3) := by decide +kernel
theorem d_Gr_hear_39 : decode b_Gr_hear 39 = .ok (.aload_n 0, 1) := by decide +kernel
theorem d_Gr_hear_40 : decode b_Gr_hear 40 = .ok (.iconst 2, 1) := by decide +kernel
theorem d_Gr_hear_41 : decode b_Gr_hear 41 = .ok (.invokevirtual 84, 3) := by decide +kernel
theorem d_Gr_hear_44 : decode b_Gr_hear 44 = .ok (.goto 65, 3) := by decide +kernel
theorem d_Gr_hear_47 : decode b_Gr_hear 47 = .ok (.iload 4, 2) := by decide +kernel
theorem d_Gr_hear_49 : decode b_Gr_hear 49 = .ok (.aload_n 0, 1) := by decide +kernel
theorem d_Gr_hear_50 : decode b_Gr_hear 50 = .ok (.getfield 12, 3) := by decide +kernel
theorem d_Gr_hear_53 : decode b_Gr_hear 53 = .ok (.invokevirtual 88, 3) := by decide +kernel
theorem d_Gr_hear_56 : decode b_Gr_hear 56 = .ok (.if_icmp .le 11, 3) := by decide +kernel
theorem d_Gr_hear_59 : decode b_Gr_hear 59 = .ok (.aload_n 0, 1) := by decide +kernel
theorem d_Gr_hear_60 : decode b_Gr_hear 60 = .ok (.iconst 4, 1) := by decide +kernel
theorem d_Gr_hear_61 : decode b_Gr_hear 61 = .ok (.invokevirtual 84, 3) := by decide +kernel
theorem d_Gr_hear_64 : decode b_Gr_hear 64 = .ok (.goto 45, 3) := by decide +kernel
theorem d_Gr_hear_67 : decode b_Gr_hear 67 = .ok (.aload_n 0, 1) := by decide +kernel
theorem d_Gr_hear_68 : decode b_Gr_hear 68 = .ok (.iload 4, 2) := by decide +kernel
theorem d_Gr_hear_70 : decode b_Gr_hear 70 = .ok (.iload_n 1, 1) := by decide +kernel
theorem d_Gr_hear_71 : decode b_Gr_hear 71 = .ok (.invokevirtual 92, 3) := by decide +kernel
theorem d_Gr_hear_74 : decode b_Gr_hear 74 = .ok (.aload_n 0, 1) := by decide +kernel
theorem d_Gr_hear_75 : decode b_Gr_hear 75 = .ok (.getfield 12, 3) := by decide +kernel
theorem d_Gr_hear_78 : decode b_Gr_hear 78 = .ok (.invokevirtual 88, 3) := by decide +kernel
theorem d_Gr_hear_81 : decode b_Gr_hear 81 = .ok (.ifCond .ne 12, 3) := by decide +kernel
theorem d_Gr_hear_84 : decode b_Gr_hear 84 = .ok (.aload_n 0, 1) := by decide +kernel
theorem d_Gr_hear_85 : decode b_Gr_hear 85 = .ok (.iload_n 2, 1) := by decide +kernel
theorem d_Gr_hear_86 : decode b_Gr_hear 86 = .ok (.iload_n 3, 1) := by decide +kernel
theorem d_Gr_hear_87 : decode b_Gr_hear 87 = .ok (.invokevirtual 96, 3) := by decide +kernel
theorem d_Gr_hear_90 : decode b_Gr_hear 90 = .ok (.goto 19, 3) := by decide +kernel
theorem d_Gr_hear_93 : decode b_Gr_hear 93 = .ok (.aload_n 0, 1) := by decide +kernel
theorem d_Gr_hear_94 : decode b_Gr_hear 94 = .ok (.iload_n 2, 1) := by decide +kernel
theorem d_Gr_hear_95 : decode b_Gr_hear 95 = .ok (.iload_n 3, 1) := by decide +kernel
theorem d_Gr_hear_96 : decode b_Gr_hear 96 = .ok (.iload 4, 2) := by decide +kernel
theorem d_Gr_hear_98 : decode b_Gr_hear 98 = .ok (.ifCond .le 7, 3) := by decide +kernel
theorem d_Gr_hear_101 : decode b_Gr_hear 101 = .ok (.iconst 1, 1) := by decide +kernel
theorem d_Gr_hear_102 : decode b_Gr_hear 102 = .ok (.goto 4, 3) := by decide +kernel
theorem d_Gr_hear_105 : decode b_Gr_hear 105 = .ok (.iconst 0, 1) := by decide +kernel
theorem d_Gr_hear_106 : decode b_Gr_hear 106 = .ok (.invokevirtual 100, 3) := by decide +kernel
theorem d_Gr_hear_109 : decode b_Gr_hear 109 = .ok (.return_, 1) := by decide +kernel
theorem d_Gr_tell_0 : decode b_Gr_tell 0 = .ok (.iload_n 1, 1) := by decide +kernel
theorem d_Gr_tell_1 : decode b_Gr_tell 1 = .ok (.tableswitch 101 0 7 #[47, 52, 57, 62, 70, 78, 91, 96], 47) := by decide +kernel
theorem d_Gr_tell_48 : decode b_Gr_tell 48 = .ok (.aload_n 0, 1) := by decide +kernel
theorem d_Gr_tell_49 : decode b_Gr_tell 49 = .ok (.getfield 18, 3) := by decide +kernel
theorem d_Gr_tell_52 : decode b_Gr_tell 52 = .ok (.ireturn, 1) := by decide +kernel
theorem d_Gr_tell_53 : decode b_Gr_tell 53 = .ok (.aload_n 0, 1) := by decide +kernel
theorem d_Gr_tell_54 : decode b_Gr_tell 54 = .ok (.getfield 35, 3) := by decide +kernel
theorem d_Gr_tell_57 : decode b_Gr_tell 57 = .ok (.ireturn, 1) := by decide +kernel
theorem d_Gr_tell_58 : decode b_Gr_tell 58 = .ok (.aload_n 0, 1) := by decide +kernel
theorem d_Gr_tell_59 : decode b_Gr_tell 59 = .ok (.getfield 38, 3) := by decide +kernel
theorem d_Gr_tell_62 : decode b_Gr_tell 62 = .ok (.ireturn, 1) := by decide +kernel
theorem d_Gr_tell_63 : decode b_Gr_tell 63 = .ok (.aload_n 0, 1) := by decide +kernel
theorem d_Gr_tell_64 : decode b_Gr_tell 64 = .ok (.getfield 12, 3) := by decide +kernel
theorem d_Gr_tell_67 : decode b_Gr_tell 67 = .ok (.invokevirtual 88, 3) := by decide +kernel
theorem d_Gr_tell_70 : decode b_Gr_tell 70 = .ok (.ireturn, 1) := by decide +kernel
theorem d_Gr_tell_71 : decode b_Gr_tell 71 = .ok (.aload_n 0, 1) := by decide +kernel
theorem d_Gr_tell_72 : decode b_Gr_tell 72 = .ok (.getfield 12, 3) := by decide +kernel
theorem d_Gr_tell_75 : decode b_Gr_tell 75 = .ok (.invokevirtual 104, 3) := by decide +kernel
theorem d_Gr_tell_78 : decode b_Gr_tell 78 = .ok (.ireturn, 1) := by decide +kernel
theorem d_Gr_tell_79 : decode b_Gr_tell 79 = .ok (.aload_n 0, 1) := by decide +kernel
theorem d_Gr_tell_80 : decode b_Gr_tell 80 = .ok (.getfield 60, 3) := by decide +kernel
theorem d_Gr_tell_83 : decode b_Gr_tell 83 = .ok (.ifCond .eq 7, 3) := by decide +kernel
theorem d_Gr_tell_86 : decode b_Gr_tell 86 = .ok (.iconst 1, 1) := by decide +kernel
theorem d_Gr_tell_87 : decode b_Gr_tell 87 = .ok (.goto 4, 3) := by decide +kernel
theorem d_Gr_tell_90 : decode b_Gr_tell 90 = .ok (.iconst 0, 1) := by decide +kernel
theorem d_Gr_tell_91 : decode b_Gr_tell 91 = .ok (.ireturn, 1) := by decide +kernel
theorem d_Gr_tell_92 : decode b_Gr_tell 92 = .ok (.aload_n 0, 1) := by decide +kernel
theorem d_Gr_tell_93 : decode b_Gr_tell 93 = .ok (.getfield 41, 3) := by decide +kernel
theorem d_Gr_tell_96 : decode b_Gr_tell 96 = .ok (.ireturn, 1) := by decide +kernel
theorem d_Gr_tell_97 : decode b_Gr_tell 97 = .ok (.aload_n 0, 1) := by decide +kernel
theorem d_Gr_tell_98 : decode b_Gr_tell 98 = .ok (.getfield 47, 3) := by decide +kernel
theorem d_Gr_tell_101 : decode b_Gr_tell 101 = .ok (.ireturn, 1) := by decide +kernel
theorem d_Gr_tell_102 : decode b_Gr_tell 102 = .ok (.aload_n 0, 1) := by decide +kernel
theorem d_Gr_tell_103 : decode b_Gr_tell 103 = .ok (.getfield 44, 3) := by decide +kernel
theorem d_Gr_tell_106 : decode b_Gr_tell 106 = .ok (.ireturn, 1) := by decide +kernel
theorem d_Gr_isSending_0 : decode b_Gr_isSending 0 = .ok (.aload_n 0, 1) := by decide +kernel
theorem d_Gr_isSending_1 : decode b_Gr_isSending 1 = .ok (.getfield 18, 3) := by decide +kernel
theorem d_Gr_isSending_4 : decode b_Gr_isSending 4 = .ok (.iconst 1, 1) := by decide +kernel
theorem d_Gr_isSending_5 : decode b_Gr_isSending 5 = .ok (.if_icmp .eq 11, 3) := by decide +kernel
theorem d_Gr_isSending_8 : decode b_Gr_isSending 8 = .ok (.aload_n 0, 1) := by decide +kernel
theorem d_Gr_isSending_9 : decode b_Gr_isSending 9 = .ok (.getfield 18, 3) := by decide +kernel
theorem d_Gr_isSending_12 : decode b_Gr_isSending 12 = .ok (.iconst 2, 1) := by decide +kernel
theorem d_Gr_isSending_13 : decode b_Gr_isSending 13 = .ok (.if_icmp .ne 7, 3) := by decide +kernel
theorem d_Gr_isSending_16 : decode b_Gr_isSending 16 = .ok (.iconst 1, 1) := by decide +kernel
theorem d_Gr_isSending_17 : decode b_Gr_isSending 17 = .ok (.goto 4, 3) := by decide +kernel
theorem d_Gr_isSending_20 : decode b_Gr_isSending 20 = .ok (.iconst 0, 1) := by decide +kernel
theorem d_Gr_isSending_21 : decode b_Gr_isSending 21 = .ok (.ireturn, 1) := by decide +kernel
theorem d_Gr_alarm_0 : decode b_Gr_alarm 0 = .ok (.aload_n 0, 1) := by decide +kernel
theorem d_Gr_alarm_1 : decode b_Gr_alarm 1 = .ok (.iload_n 1, 1) := by decide +kernel
theorem d_Gr_alarm_2 : decode b_Gr_alarm 2 = .ok (.putfield 44, 3) := by decide +kernel
theorem d_Gr_alarm_5 : decode b_Gr_alarm 5 = .ok (.aload_n 0, 1) := by decide +kernel
theorem d_Gr_alarm_6 : decode b_Gr_alarm 6 = .ok (.invokevirtual 107, 3) := by decide +kernel
theorem d_Gr_alarm_9 : decode b_Gr_alarm 9 = .ok (.return_, 1) := by decide +kernel
theorem d_Gr_tryAgain_0 : decode b_Gr_tryAgain 0 = .ok (.aload_n 0, 1) := by decide +kernel
theorem d_Gr_tryAgain_1 : decode b_Gr_tryAgain 1 = .ok (.dup, 1) := by decide +kernel
theorem d_Gr_tryAgain_2 : decode b_Gr_tryAgain 2 = .ok (.getfield 41, 3) := by decide +kernel
theorem d_Gr_tryAgain_5 : decode b_Gr_tryAgain 5 = .ok (.iconst 1, 1) := by decide +kernel
theorem d_Gr_tryAgain_6 : decode b_Gr_tryAgain 6 = .ok (.iadd, 1) := by decide +kernel
theorem d_Gr_tryAgain_7 : decode b_Gr_tryAgain 7 = .ok (.putfield 41, 3) := by decide +kernel
theorem d_Gr_tryAgain_10 : decode b_Gr_tryAgain 10 = .ok (.aload_n 0, 1) := by decide +kernel
theorem d_Gr_tryAgain_11 : decode b_Gr_tryAgain 11 = .ok (.getfield 12, 3) := by decide +kernel
theorem d_Gr_tryAgain_14 : decode b_Gr_tryAgain 14 = .ok (.invokevirtual 110, 3) := by decide +kernel
theorem d_Gr_tryAgain_17 : decode b_Gr_tryAgain 17 = .ok (.return_, 1) := by decide +kernel
theorem d_Gr_resend_0 : decode b_Gr_resend 0 = .ok (.aload_n 0, 1) := by decide +kernel
theorem d_Gr_resend_1 : decode b_Gr_resend 1 = .ok (.getfield 41, 3) := by decide +kernel
theorem d_Gr_resend_4 : decode b_Gr_resend 4 = .ok (.aload_n 0, 1) := by decide +kernel
theorem d_Gr_resend_5 : decode b_Gr_resend 5 = .ok (.getfield 25, 3) := by decide +kernel
theorem d_Gr_resend_8 : decode b_Gr_resend 8 = .ok (.if_icmp .lt 11, 3) := by decide +kernel
theorem d_Gr_resend_11 : decode b_Gr_resend 11 = .ok (.aload_n 0, 1) := by decide +kernel
theorem d_Gr_resend_12 : decode b_Gr_resend 12 = .ok (.iconst 1, 1) := by decide +kernel
theorem d_Gr_resend_13 : decode b_Gr_resend 13 = .ok (.invokevirtual 84, 3) := by decide +kernel
theorem d_Gr_resend_16 : decode b_Gr_resend 16 = .ok (.goto 12, 3) := by decide +kernel
theorem d_Gr_resend_19 : decode b_Gr_resend 19 = .ok (.aload_n 0, 1) := by decide +kernel
theorem d_Gr_resend_20 : decode b_Gr_resend 20 = .ok (.invokevirtual 113, 3) := by decide +kernel
theorem d_Gr_resend_23 : decode b_Gr_resend 23 = .ok (.aload_n 0, 1) := by decide +kernel
theorem d_Gr_resend_24 : decode b_Gr_resend 24 = .ok (.iconst 2, 1) := by decide +kernel
theorem d_Gr_resend_25 : decode b_Gr_resend 25 = .ok (.putfield 18, 3) := by decide +kernel
theorem d_Gr_resend_28 : decode b_Gr_resend 28 = .ok (.return_, 1) := by decide +kernel
theorem d_Gr_runOut_0 : decode b_Gr_runOut 0 = .ok (.aload_n 0, 1) := by decide +kernel
theorem d_Gr_runOut_1 : decode b_Gr_runOut 1 = .ok (.getfield 18, 3) := by decide +kernel
theorem d_Gr_runOut_4 : decode b_Gr_runOut 4 = .ok (.iconst 4, 1) := by decide +kernel
theorem d_Gr_runOut_5 : decode b_Gr_runOut 5 = .ok (.if_icmp .eq 14, 3) := by decide +kernel
theorem d_Gr_runOut_8 : decode b_Gr_runOut 8 = .ok (.aload_n 0, 1) := by decide +kernel
theorem d_Gr_runOut_9 : decode b_Gr_runOut 9 = .ok (.getfield 41, 3) := by decide +kernel
theorem d_Gr_runOut_12 : decode b_Gr_runOut 12 = .ok (.aload_n 0, 1) := by decide +kernel
theorem d_Gr_runOut_13 : decode b_Gr_runOut 13 = .ok (.getfield 25, 3) := by decide +kernel
theorem d_Gr_runOut_16 : decode b_Gr_runOut 16 = .ok (.if_icmp .lt 11, 3) := by decide +kernel
theorem d_Gr_runOut_19 : decode b_Gr_runOut 19 = .ok (.aload_n 0, 1) := by decide +kernel
theorem d_Gr_runOut_20 : decode b_Gr_runOut 20 = .ok (.iconst 5, 1) := by decide +kernel
theorem d_Gr_runOut_21 : decode b_Gr_runOut 21 = .ok (.invokevirtual 84, 3) := by decide +kernel
theorem d_Gr_runOut_24 : decode b_Gr_runOut 24 = .ok (.goto 40, 3) := by decide +kernel
theorem d_Gr_runOut_27 : decode b_Gr_runOut 27 = .ok (.aload_n 0, 1) := by decide +kernel
theorem d_Gr_runOut_28 : decode b_Gr_runOut 28 = .ok (.getfield 18, 3) := by decide +kernel
theorem d_Gr_runOut_31 : decode b_Gr_runOut 31 = .ok (.iconst 5, 1) := by decide +kernel
theorem d_Gr_runOut_32 : decode b_Gr_runOut 32 = .ok (.if_icmp .ne 21, 3) := by decide +kernel
theorem d_Gr_runOut_35 : decode b_Gr_runOut 35 = .ok (.aload_n 0, 1) := by decide +kernel
theorem d_Gr_runOut_36 : decode b_Gr_runOut 36 = .ok (.dup, 1) := by decide +kernel
theorem d_Gr_runOut_37 : decode b_Gr_runOut 37 = .ok (.getfield 41, 3) := by decide +kernel
theorem d_Gr_runOut_40 : decode b_Gr_runOut 40 = .ok (.iconst 1, 1) := by decide +kernel
theorem d_Gr_runOut_41 : decode b_Gr_runOut 41 = .ok (.iadd, 1) := by decide +kernel
theorem d_Gr_runOut_42 : decode b_Gr_runOut 42 = .ok (.putfield 41, 3) := by decide +kernel
theorem d_Gr_runOut_45 : decode b_Gr_runOut 45 = .ok (.aload_n 0, 1) := by decide +kernel
theorem d_Gr_runOut_46 : decode b_Gr_runOut 46 = .ok (.iconst 1, 1) := by decide +kernel
theorem d_Gr_runOut_47 : decode b_Gr_runOut 47 = .ok (.putfield 53, 3) := by decide +kernel
theorem d_Gr_runOut_50 : decode b_Gr_runOut 50 = .ok (.goto 14, 3) := by decide +kernel
theorem d_Gr_runOut_53 : decode b_Gr_runOut 53 = .ok (.aload_n 0, 1) := by decide +kernel
theorem d_Gr_runOut_54 : decode b_Gr_runOut 54 = .ok (.invokevirtual 31, 3) := by decide +kernel
theorem d_Gr_runOut_57 : decode b_Gr_runOut 57 = .ok (.ifCond .eq 7, 3) := by decide +kernel
theorem d_Gr_runOut_60 : decode b_Gr_runOut 60 = .ok (.aload_n 0, 1) := by decide +kernel
theorem d_Gr_runOut_61 : decode b_Gr_runOut 61 = .ok (.invokevirtual 113, 3) := by decide +kernel
theorem d_Gr_runOut_64 : decode b_Gr_runOut 64 = .ok (.return_, 1) := by decide +kernel
theorem d_Gr_sendStart_0 : decode b_Gr_sendStart 0 = .ok (.aload_n 0, 1) := by decide +kernel
theorem d_Gr_sendStart_1 : decode b_Gr_sendStart 1 = .ok (.iconst 0, 1) := by decide +kernel
theorem d_Gr_sendStart_2 : decode b_Gr_sendStart 2 = .ok (.putfield 53, 3) := by decide +kernel
theorem d_Gr_sendStart_5 : decode b_Gr_sendStart 5 = .ok (.aload_n 0, 1) := by decide +kernel
theorem d_Gr_sendStart_6 : decode b_Gr_sendStart 6 = .ok (.aload_n 1, 1) := by decide +kernel
theorem d_Gr_sendStart_7 : decode b_Gr_sendStart 7 = .ok (.aload_n 0, 1) := by decide +kernel
theorem d_Gr_sendStart_8 : decode b_Gr_sendStart 8 = .ok (.getfield 50, 3) := by decide +kernel
theorem d_Gr_sendStart_11 : decode b_Gr_sendStart 11 = .ok (.aload_n 0, 1) := by decide +kernel
theorem d_Gr_sendStart_12 : decode b_Gr_sendStart 12 = .ok (.getfield 50, 3) := by decide +kernel
theorem d_Gr_sendStart_15 : decode b_Gr_sendStart 15 = .ok (.iconst 2, 1) := by decide +kernel
theorem d_Gr_sendStart_16 : decode b_Gr_sendStart 16 = .ok (.if_icmp .ne 10, 3) := by decide +kernel
theorem d_Gr_sendStart_19 : decode b_Gr_sendStart 19 = .ok (.aload_n 0, 1) := by decide +kernel
theorem d_Gr_sendStart_20 : decode b_Gr_sendStart 20 = .ok (.getfield 35, 3) := by decide +kernel
theorem d_Gr_sendStart_23 : decode b_Gr_sendStart 23 = .ok (.goto 4, 3) := by decide +kernel
theorem d_Gr_sendStart_26 : decode b_Gr_sendStart 26 = .ok (.iconst 0, 1) := by decide +kernel
theorem d_Gr_sendStart_27 : decode b_Gr_sendStart 27 = .ok (.iconst 0, 1) := by decide +kernel
theorem d_Gr_sendStart_28 : decode b_Gr_sendStart 28 = .ok (.invokevirtual 116, 3) := by decide +kernel
theorem d_Gr_sendStart_31 : decode b_Gr_sendStart 31 = .ok (.ireturn, 1) := by decide +kernel
theorem d_Gr_sendCommand_0 : decode b_Gr_sendCommand 0 = .ok (.aload_n 0, 1) := by decide +kernel
theorem d_Gr_sendCommand_1 : decode b_Gr_sendCommand 1 = .ok (.getfield 12, 3) := by decide +kernel
theorem d_Gr_sendCommand_4 : decode b_Gr_sendCommand 4 = .ok (.invokevirtual 120, 3) := by decide +kernel
theorem d_Gr_sendCommand_7 : decode b_Gr_sendCommand 7 = .ok (.istore_n 2, 1) := by decide +kernel
theorem d_Gr_sendCommand_8 : decode b_Gr_sendCommand 8 = .ok (.iload_n 2, 1) := by decide +kernel
theorem d_Gr_sendCommand_9 : decode b_Gr_sendCommand 9 = .ok (.ifCond .lt 34, 3) := by decide +kernel
theorem d_Gr_sendCommand_12 : decode b_Gr_sendCommand 12 = .ok (.aload_n 0, 1) := by decide +kernel
theorem d_Gr_sendCommand_13 : decode b_Gr_sendCommand 13 = .ok (.getfield 12, 3) := by decide +kernel
theorem d_Gr_sendCommand_16 : decode b_Gr_sendCommand 16 = .ok (.iload_n 2, 1) := by decide +kernel
theorem d_Gr_sendCommand_17 : decode b_Gr_sendCommand 17 = .ok (.invokevirtual 123, 3) := by decide +kernel
theorem d_Gr_sendCommand_20 : decode b_Gr_sendCommand 20 = .ok (.aload_n 0, 1) := by decide +kernel
theorem d_Gr_sendCommand_21 : decode b_Gr_sendCommand 21 = .ok (.aload_n 1, 1) := by decide +kernel
theorem d_Gr_sendCommand_22 : decode b_Gr_sendCommand 22 = .ok (.iconst 0, 1) := by decide +kernel
theorem d_Gr_sendCommand_23 : decode b_Gr_sendCommand 23 = .ok (.aload_n 0, 1) := by decide +kernel
theorem d_Gr_sendCommand_24 : decode b_Gr_sendCommand 24 = .ok (.getfield 12, 3) := by decide +kernel
theorem d_Gr_sendCommand_27 : decode b_Gr_sendCommand 27 = .ok (.iload_n 2, 1) := by decide +kernel
theorem d_Gr_sendCommand_28 : decode b_Gr_sendCommand 28 = .ok (.invokevirtual 126, 3) := by decide +kernel
theorem d_Gr_sendCommand_31 : decode b_Gr_sendCommand 31 = .ok (.aload_n 0, 1) := by decide +kernel
theorem d_Gr_sendCommand_32 : decode b_Gr_sendCommand 32 = .ok (.getfield 12, 3) := by decide +kernel
theorem d_Gr_sendCommand_35 : decode b_Gr_sendCommand 35 = .ok (.iload_n 2, 1) := by decide +kernel
theorem d_Gr_sendCommand_36 : decode b_Gr_sendCommand 36 = .ok (.invokevirtual 130, 3) := by decide +kernel
theorem d_Gr_sendCommand_39 : decode b_Gr_sendCommand 39 = .ok (.invokevirtual 116, 3) := by decide +kernel
theorem d_Gr_sendCommand_42 : decode b_Gr_sendCommand 42 = .ok (.ireturn, 1) := by decide +kernel
theorem d_Gr_sendCommand_43 : decode b_Gr_sendCommand 43 = .ok (.aload_n 0, 1) := by decide +kernel
theorem d_Gr_sendCommand_44 : decode b_Gr_sendCommand 44 = .ok (.getfield 60, 3) := by decide +kernel
theorem d_Gr_sendCommand_47 : decode b_Gr_sendCommand 47 = .ok (.ifCond .eq 23, 3) := by decide +kernel
theorem d_Gr_sendCommand_50 : decode b_Gr_sendCommand 50 = .ok (.aload_n 0, 1) := by decide +kernel
theorem d_Gr_sendCommand_51 : decode b_Gr_sendCommand 51 = .ok (.getfield 12, 3) := by decide +kernel
theorem d_Gr_sendCommand_54 : decode b_Gr_sendCommand 54 = .ok (.invokevirtual 88, 3) := by decide +kernel
theorem d_Gr_sendCommand_57 : decode b_Gr_sendCommand 57 = .ok (.aload_n 0, 1) := by decide +kernel
theorem d_Gr_sendCommand_58 : decode b_Gr_sendCommand 58 = .ok (.getfield 22, 3) := by decide +kernel
theorem d_Gr_sendCommand_61 : decode b_Gr_sendCommand 61 = .ok (.if_icmp .ge 9, 3) := by decide +kernel
theorem d_Gr_sendCommand_64 : decode b_Gr_sendCommand 64 = .ok (.aload_n 0, 1) := by decide +kernel
theorem d_Gr_sendCommand_65 : decode b_Gr_sendCommand 65 = .ok (.aload_n 1, 1) := by decide +kernel
theorem d_Gr_sendCommand_66 : decode b_Gr_sendCommand 66 = .ok (.invokevirtual 133, 3) := by decide +kernel
theorem d_Gr_sendCommand_69 : decode b_Gr_sendCommand 69 = .ok (.ireturn, 1) := by decide +kernel
theorem d_Gr_sendCommand_70 : decode b_Gr_sendCommand 70 = .ok (.iconst (-1), 1) := by decide +kernel
theorem d_Gr_sendCommand_71 : decode b_Gr_sendCommand 71 = .ok (.ireturn, 1) := by decide +kernel
theorem d_Gr_sendSlot_0 : decode b_Gr_sendSlot 0 = .ok (.aload_n 0, 1) := by decide +kernel
theorem d_Gr_sendSlot_1 : decode b_Gr_sendSlot 1 = .ok (.getfield 35, 3) := by decide +kernel
theorem d_Gr_sendSlot_4 : decode b_Gr_sendSlot 4 = .ok (.istore_n 2, 1) := by decide +kernel
theorem d_Gr_sendSlot_5 : decode b_Gr_sendSlot 5 = .ok (.aload_n 0, 1) := by decide +kernel
theorem d_Gr_sendSlot_6 : decode b_Gr_sendSlot 6 = .ok (.getfield 12, 3) := by decide +kernel
theorem d_Gr_sendSlot_9 : decode b_Gr_sendSlot 9 = .ok (.iload_n 2, 1) := by decide +kernel
theorem d_Gr_sendSlot_10 : decode b_Gr_sendSlot 10 = .ok (.aload_n 0, 1) := by decide +kernel
theorem d_Gr_sendSlot_11 : decode b_Gr_sendSlot 11 = .ok (.getfield 63, 3) := by decide +kernel
theorem d_Gr_sendSlot_14 : decode b_Gr_sendSlot 14 = .ok (.invokevirtual 136, 3) := by decide +kernel
theorem d_Gr_sendSlot_17 : decode b_Gr_sendSlot 17 = .ok (.aload_n 0, 1) := by decide +kernel
theorem d_Gr_sendSlot_18 : decode b_Gr_sendSlot 18 = .ok (.aload_n 0, 1) := by decide +kernel
theorem d_Gr_sendSlot_19 : decode b_Gr_sendSlot 19 = .ok (.getfield 35, 3) := by decide +kernel
theorem d_Gr_sendSlot_22 : decode b_Gr_sendSlot 22 = .ok (.invokestatic 139, 3) := by decide +kernel
theorem d_Gr_sendSlot_25 : decode b_Gr_sendSlot 25 = .ok (.putfield 35, 3) := by decide +kernel
theorem d_Gr_sendSlot_28 : decode b_Gr_sendSlot 28 = .ok (.aload_n 0, 1) := by decide +kernel
theorem d_Gr_sendSlot_29 : decode b_Gr_sendSlot 29 = .ok (.iconst 0, 1) := by decide +kernel
theorem d_Gr_sendSlot_30 : decode b_Gr_sendSlot 30 = .ok (.putfield 60, 3) := by decide +kernel
theorem d_Gr_sendSlot_33 : decode b_Gr_sendSlot 33 = .ok (.aload_n 0, 1) := by decide +kernel
theorem d_Gr_sendSlot_34 : decode b_Gr_sendSlot 34 = .ok (.getfield 12, 3) := by decide +kernel
theorem d_Gr_sendSlot_37 : decode b_Gr_sendSlot 37 = .ok (.invokevirtual 88, 3) := by decide +kernel
theorem d_Gr_sendSlot_40 : decode b_Gr_sendSlot 40 = .ok (.iconst 1, 1) := by decide +kernel
theorem d_Gr_sendSlot_41 : decode b_Gr_sendSlot 41 = .ok (.if_icmp .ne 8, 3) := by decide +kernel
theorem d_Gr_sendSlot_44 : decode b_Gr_sendSlot 44 = .ok (.aload_n 0, 1) := by decide +kernel
theorem d_Gr_sendSlot_45 : decode b_Gr_sendSlot 45 = .ok (.iconst 1, 1) := by decide +kernel
theorem d_Gr_sendSlot_46 : decode b_Gr_sendSlot 46 = .ok (.putfield 41, 3) := by decide +kernel
theorem d_Gr_sendSlot_49 : decode b_Gr_sendSlot 49 = .ok (.aload_n 0, 1) := by decide +kernel
theorem d_Gr_sendSlot_50 : decode b_Gr_sendSlot 50 = .ok (.aload_n 1, 1) := by decide +kernel
theorem d_Gr_sendSlot_51 : decode b_Gr_sendSlot 51 = .ok (.iconst 0, 1) := by decide +kernel
theorem d_Gr_sendSlot_52 : decode b_Gr_sendSlot 52 = .ok (.iload_n 2, 1) := by decide +kernel
theorem d_Gr_sendSlot_53 : decode b_Gr_sendSlot 53 = .ok (.aload_n 0, 1) := by decide +kernel
theorem d_Gr_sendSlot_54 : decode b_Gr_sendSlot 54 = .ok (.getfield 63, 3) := by decide +kernel
theorem d_Gr_sendSlot_57 : decode b_Gr_sendSlot 57 = .ok (.invokevirtual 116, 3) := by decide +kernel
theorem d_Gr_sendSlot_60 : decode b_Gr_sendSlot 60 = .ok (.ireturn, 1) := by decide +kernel
theorem d_Gr_send_0 : decode b_Gr_send 0 = .ok (.aload_n 1, 1) := by decide +kernel
theorem d_Gr_send_1 : decode b_Gr_send 1 = .ok (.iload_n 2, 1) := by decide +kernel
theorem d_Gr_send_2 : decode b_Gr_send 2 = .ok (.iload_n 3, 1) := by decide +kernel
theorem d_Gr_send_3 : decode b_Gr_send 3 = .ok (.iload 4, 2) := by decide +kernel
theorem d_Gr_send_5 : decode b_Gr_send 5 = .ok (.invokevirtual 142, 3) := by decide +kernel
theorem d_Gr_send_8 : decode b_Gr_send 8 = .ok (.aload_n 0, 1) := by decide +kernel
theorem d_Gr_send_9 : decode b_Gr_send 9 = .ok (.aload_n 0, 1) := by decide +kernel
theorem d_Gr_send_10 : decode b_Gr_send 10 = .ok (.getfield 28, 3) := by decide +kernel
theorem d_Gr_send_13 : decode b_Gr_send 13 = .ok (.putfield 47, 3) := by decide +kernel
theorem d_Gr_send_16 : decode b_Gr_send 16 = .ok (.iload_n 2, 1) := by decide +kernel
theorem d_Gr_send_17 : decode b_Gr_send 17 = .ok (.ireturn, 1) := by decide +kernel
theorem d_Gr_hearAtStart_0 : decode b_Gr_hearAtStart 0 = .ok (.iload_n 3, 1) := by decide +kernel
theorem d_Gr_hearAtStart_1 : decode b_Gr_hearAtStart 1 = .ok (.ifCond .ne 30, 3) := by decide +kernel
theorem d_Gr_hearAtStart_4 : decode b_Gr_hearAtStart 4 = .ok (.iload_n 2, 1) := by decide +kernel
theorem d_Gr_hearAtStart_5 : decode b_Gr_hearAtStart 5 = .ok (.ifCond .ne 26, 3) := by decide +kernel
theorem d_Gr_hearAtStart_8 : decode b_Gr_hearAtStart 8 = .ok (.iload_n 1, 1) := by decide +kernel
theorem d_Gr_hearAtStart_9 : decode b_Gr_hearAtStart 9 = .ok (.aload_n 0, 1) := by decide +kernel
theorem d_Gr_hearAtStart_10 : decode b_Gr_hearAtStart 10 = .ok (.getfield 35, 3) := by decide +kernel
theorem d_Gr_hearAtStart_13 : decode b_Gr_hearAtStart 13 = .ok (.if_icmp .ne 18, 3) := by decide +kernel
theorem d_Gr_hearAtStart_16 : decode b_Gr_hearAtStart 16 = .ok (.aload_n 0, 1) := by decide +kernel
theorem d_Gr_hearAtStart_17 : decode b_Gr_hearAtStart 17 = .ok (.iconst 1, 1) := by decide +kernel
theorem d_Gr_hearAtStart_18 : decode b_Gr_hearAtStart 18 = .ok (.putfield 18, 3) := by decide +kernel
theorem d_Gr_hearAtStart_21 : decode b_Gr_hearAtStart 21 = .ok (.aload_n 0, 1) := by decide +kernel
theorem d_Gr_hearAtStart_22 : decode b_Gr_hearAtStart 22 = .ok (.iconst 1, 1) := by decide +kernel
theorem d_Gr_hearAtStart_23 : decode b_Gr_hearAtStart 23 = .ok (.putfield 41, 3) := by decide +kernel
theorem d_Gr_hearAtStart_26 : decode b_Gr_hearAtStart 26 = .ok (.aload_n 0, 1) := by decide +kernel
theorem d_Gr_hearAtStart_27 : decode b_Gr_hearAtStart 27 = .ok (.iconst 0, 1) := by decide +kernel
theorem d_Gr_hearAtStart_28 : decode b_Gr_hearAtStart 28 = .ok (.putfield 47, 3) := by decide +kernel
theorem d_Gr_hearAtStart_31 : decode b_Gr_hearAtStart 31 = .ok (.return_, 1) := by decide +kernel
theorem d_Gr_acknowledge_0 : decode b_Gr_acknowledge 0 = .ok (.aload_n 0, 1) := by decide +kernel
theorem d_Gr_acknowledge_1 : decode b_Gr_acknowledge 1 = .ok (.getfield 12, 3) := by decide +kernel
theorem d_Gr_acknowledge_4 : decode b_Gr_acknowledge 4 = .ok (.iload_n 1, 1) := by decide +kernel
theorem d_Gr_acknowledge_5 : decode b_Gr_acknowledge 5 = .ok (.invokevirtual 147, 3) := by decide +kernel
theorem d_Gr_acknowledge_8 : decode b_Gr_acknowledge 8 = .ok (.aload_n 0, 1) := by decide +kernel
theorem d_Gr_acknowledge_9 : decode b_Gr_acknowledge 9 = .ok (.iload_n 2, 1) := by decide +kernel
theorem d_Gr_acknowledge_10 : decode b_Gr_acknowledge 10 = .ok (.putfield 38, 3) := by decide +kernel
theorem d_Gr_acknowledge_13 : decode b_Gr_acknowledge 13 = .ok (.iload_n 1, 1) := by decide +kernel
theorem d_Gr_acknowledge_14 : decode b_Gr_acknowledge 14 = .ok (.ifCond .le 8, 3) := by decide +kernel
theorem d_Gr_acknowledge_17 : decode b_Gr_acknowledge 17 = .ok (.aload_n 0, 1) := by decide +kernel
theorem d_Gr_acknowledge_18 : decode b_Gr_acknowledge 18 = .ok (.iconst 1, 1) := by decide +kernel
theorem d_Gr_acknowledge_19 : decode b_Gr_acknowledge 19 = .ok (.putfield 41, 3) := by decide +kernel
theorem d_Gr_acknowledge_22 : decode b_Gr_acknowledge 22 = .ok (.return_, 1) := by decide +kernel
theorem d_Gr_hearWithNonePending_0 : decode b_Gr_hearWithNonePending 0 = .ok (.iload_n 1, 1) := by decide +kernel
theorem d_Gr_hearWithNonePending_1 : decode b_Gr_hearWithNonePending 1 = .ok (.ifCond .eq 11, 3) := by decide +kernel
theorem d_Gr_hearWithNonePending_4 : decode b_Gr_hearWithNonePending 4 = .ok (.aload_n 0, 1) := by decide +kernel
theorem d_Gr_hearWithNonePending_5 : decode b_Gr_hearWithNonePending 5 = .ok (.iconst 3, 1) := by decide +kernel
theorem d_Gr_hearWithNonePending_6 : decode b_Gr_hearWithNonePending 6 = .ok (.invokevirtual 84, 3) := by decide +kernel
theorem d_Gr_hearWithNonePending_9 : decode b_Gr_hearWithNonePending 9 = .ok (.goto 27, 3) := by decide +kernel
theorem d_Gr_hearWithNonePending_12 : decode b_Gr_hearWithNonePending 12 = .ok (.iload_n 2, 1) := by decide +kernel
theorem d_Gr_hearWithNonePending_13 : decode b_Gr_hearWithNonePending 13 = .ok (.iconst 1, 1) := by decide +kernel
theorem d_Gr_hearWithNonePending_14 : decode b_Gr_hearWithNonePending 14 = .ok (.if_icmp .ne 12, 3) := by decide +kernel
theorem d_Gr_hearWithNonePending_17 : decode b_Gr_hearWithNonePending 17 = .ok (.aload_n 0, 1) := by decide +kernel
theorem d_Gr_hearWithNonePending_18 : decode b_Gr_hearWithNonePending 18 = .ok (.bipush 6, 2) := by decide +kernel
theorem d_Gr_hearWithNonePending_20 : decode b_Gr_hearWithNonePending 20 = .ok (.invokevirtual 84, 3) := by decide +kernel
theorem d_Gr_hearWithNonePending_23 : decode b_Gr_hearWithNonePending 23 = .ok (.goto 13, 3) := by decide +kernel
theorem d_Gr_hearWithNonePending_26 : decode b_Gr_hearWithNonePending 26 = .ok (.aload_n 0, 1) := by decide +kernel
theorem d_Gr_hearWithNonePending_27 : decode b_Gr_hearWithNonePending 27 = .ok (.iconst 1, 1) := by decide +kernel
theorem d_Gr_hearWithNonePending_28 : decode b_Gr_hearWithNonePending 28 = .ok (.putfield 18, 3) := by decide +kernel
theorem d_Gr_hearWithNonePending_31 : decode b_Gr_hearWithNonePending 31 = .ok (.aload_n 0, 1) := by decide +kernel
theorem d_Gr_hearWithNonePending_32 : decode b_Gr_hearWithNonePending 32 = .ok (.iconst 0, 1) := by decide +kernel
theorem d_Gr_hearWithNonePending_33 : decode b_Gr_hearWithNonePending 33 = .ok (.putfield 47, 3) := by decide +kernel
theorem d_Gr_hearWithNonePending_36 : decode b_Gr_hearWithNonePending 36 = .ok (.return_, 1) := by decide +kernel
theorem d_Gr_hearWithSomePending_0 : decode b_Gr_hearWithSomePending 0 = .ok (.iload_n 1, 1) := by decide +kernel
theorem d_Gr_hearWithSomePending_1 : decode b_Gr_hearWithSomePending 1 = .ok (.ifCond .ne 17, 3) := by decide +kernel
theorem d_Gr_hearWithSomePending_4 : decode b_Gr_hearWithSomePending 4 = .ok (.iload_n 2, 1) := by decide +kernel
theorem d_Gr_hearWithSomePending_5 : decode b_Gr_hearWithSomePending 5 = .ok (.iconst 1, 1) := by decide +kernel
theorem d_Gr_hearWithSomePending_6 : decode b_Gr_hearWithSomePending 6 = .ok (.if_icmp .ne 12, 3) := by decide +kernel
theorem d_Gr_hearWithSomePending_9 : decode b_Gr_hearWithSomePending 9 = .ok (.aload_n 0, 1) := by decide +kernel
theorem d_Gr_hearWithSomePending_10 : decode b_Gr_hearWithSomePending 10 = .ok (.bipush 6, 2) := by decide +kernel
theorem d_Gr_hearWithSomePending_12 : decode b_Gr_hearWithSomePending 12 = .ok (.invokevirtual 84, 3) := by decide +kernel
theorem d_Gr_hearWithSomePending_15 : decode b_Gr_hearWithSomePending 15 = .ok (.goto 69, 3) := by decide +kernel
theorem d_Gr_hearWithSomePending_18 : decode b_Gr_hearWithSomePending 18 = .ok (.iload_n 1, 1) := by decide +kernel
theorem d_Gr_hearWithSomePending_19 : decode b_Gr_hearWithSomePending 19 = .ok (.ifCond .ne 11, 3) := by decide +kernel
theorem d_Gr_hearWithSomePending_22 : decode b_Gr_hearWithSomePending 22 = .ok (.aload_n 0, 1) := by decide +kernel
theorem d_Gr_hearWithSomePending_23 : decode b_Gr_hearWithSomePending 23 = .ok (.iconst 1, 1) := by decide +kernel
theorem d_Gr_hearWithSomePending_24 : decode b_Gr_hearWithSomePending 24 = .ok (.putfield 18, 3) := by decide +kernel
theorem d_Gr_hearWithSomePending_27 : decode b_Gr_hearWithSomePending 27 = .ok (.goto 57, 3) := by decide +kernel
theorem d_Gr_hearWithSomePending_30 : decode b_Gr_hearWithSomePending 30 = .ok (.iload_n 2, 1) := by decide +kernel
theorem d_Gr_hearWithSomePending_31 : decode b_Gr_hearWithSomePending 31 = .ok (.iconst 1, 1) := by decide +kernel
theorem d_Gr_hearWithSomePending_32 : decode b_Gr_hearWithSomePending 32 = .ok (.if_icmp .ne 23, 3) := by decide +kernel
theorem d_Gr_hearWithSomePending_35 : decode b_Gr_hearWithSomePending 35 = .ok (.aload_n 0, 1) := by decide +kernel
theorem d_Gr_hearWithSomePending_36 : decode b_Gr_hearWithSomePending 36 = .ok (.getfield 25, 3) := by decide +kernel
theorem d_Gr_hearWithSomePending_39 : decode b_Gr_hearWithSomePending 39 = .ok (.iconst 1, 1) := by decide +kernel
theorem d_Gr_hearWithSomePending_40 : decode b_Gr_hearWithSomePending 40 = .ok (.if_icmp .ne 15, 3) := by decide +kernel
theorem d_Gr_hearWithSomePending_43 : decode b_Gr_hearWithSomePending 43 = .ok (.iload_n 3, 1) := by decide +kernel
theorem d_Gr_hearWithSomePending_44 : decode b_Gr_hearWithSomePending 44 = .ok (.ifCond .eq 11, 3) := by decide +kernel
theorem d_Gr_hearWithSomePending_47 : decode b_Gr_hearWithSomePending 47 = .ok (.aload_n 0, 1) := by decide +kernel
theorem d_Gr_hearWithSomePending_48 : decode b_Gr_hearWithSomePending 48 = .ok (.iconst 1, 1) := by decide +kernel
theorem d_Gr_hearWithSomePending_49 : decode b_Gr_hearWithSomePending 49 = .ok (.invokevirtual 84, 3) := by decide +kernel
theorem d_Gr_hearWithSomePending_52 : decode b_Gr_hearWithSomePending 52 = .ok (.goto 32, 3) := by decide +kernel
theorem d_Gr_hearWithSomePending_55 : decode b_Gr_hearWithSomePending 55 = .ok (.iload_n 2, 1) := by decide +kernel
theorem d_Gr_hearWithSomePending_56 : decode b_Gr_hearWithSomePending 56 = .ok (.iconst 1, 1) := by decide +kernel
theorem d_Gr_hearWithSomePending_57 : decode b_Gr_hearWithSomePending 57 = .ok (.if_icmp .ne 11, 3) := by decide +kernel
theorem d_Gr_hearWithSomePending_60 : decode b_Gr_hearWithSomePending 60 = .ok (.aload_n 0, 1) := by decide +kernel
theorem d_Gr_hearWithSomePending_61 : decode b_Gr_hearWithSomePending 61 = .ok (.iconst 3, 1) := by decide +kernel
theorem d_Gr_hearWithSomePending_62 : decode b_Gr_hearWithSomePending 62 = .ok (.putfield 18, 3) := by decide +kernel
theorem d_Gr_hearWithSomePending_65 : decode b_Gr_hearWithSomePending 65 = .ok (.goto 19, 3) := by decide +kernel
theorem d_Gr_hearWithSomePending_68 : decode b_Gr_hearWithSomePending 68 = .ok (.aload_n 0, 1) := by decide +kernel
theorem d_Gr_hearWithSomePending_69 : decode b_Gr_hearWithSomePending 69 = .ok (.getfield 18, 3) := by decide +kernel
theorem d_Gr_hearWithSomePending_72 : decode b_Gr_hearWithSomePending 72 = .ok (.iconst 2, 1) := by decide +kernel
theorem d_Gr_hearWithSomePending_73 : decode b_Gr_hearWithSomePending 73 = .ok (.if_icmp .ne 7, 3) := by decide +kernel
theorem d_Gr_hearWithSomePending_76 : decode b_Gr_hearWithSomePending 76 = .ok (.iload_n 3, 1) := by decide +kernel
theorem d_Gr_hearWithSomePending_77 : decode b_Gr_hearWithSomePending 77 = .ok (.ifCond .eq 7, 3) := by decide +kernel
theorem d_Gr_hearWithSomePending_80 : decode b_Gr_hearWithSomePending 80 = .ok (.aload_n 0, 1) := by decide +kernel
theorem d_Gr_hearWithSomePending_81 : decode b_Gr_hearWithSomePending 81 = .ok (.invokevirtual 150, 3) := by decide +kernel
theorem d_Gr_hearWithSomePending_84 : decode b_Gr_hearWithSomePending 84 = .ok (.return_, 1) := by decide +kernel
theorem d_St_init_0 : decode b_St_init 0 = .ok (.aload_n 0, 1) := by decide +kernel
theorem d_St_init_1 : decode b_St_init 1 = .ok (.invokespecial 3, 3) := by decide +kernel
theorem d_St_init_4 : decode b_St_init 4 = .ok (.aload_n 0, 1) := by decide +kernel
theorem d_St_init_5 : decode b_St_init 5 = .ok (.bipush 60, 2) := by decide +kernel
theorem d_St_init_7 : decode b_St_init 7 = .ok (.newarray .int, 2) := by decide +kernel
theorem d_St_init_9 : decode b_St_init 9 = .ok (.putfield 11, 3) := by decide +kernel
theorem d_St_init_12 : decode b_St_init 12 = .ok (.aload_n 0, 1) := by decide +kernel
theorem d_St_init_13 : decode b_St_init 13 = .ok (.bipush 60, 2) := by decide +kernel
theorem d_St_init_15 : decode b_St_init 15 = .ok (.newarray .boolean, 2) := by decide +kernel
theorem d_St_init_17 : decode b_St_init 17 = .ok (.putfield 15, 3) := by decide +kernel
theorem d_St_init_20 : decode b_St_init 20 = .ok (.return_, 1) := by decide +kernel
theorem d_St_size_0 : decode b_St_size 0 = .ok (.aload_n 0, 1) := by decide +kernel
theorem d_St_size_1 : decode b_St_size 1 = .ok (.getfield 19, 3) := by decide +kernel
theorem d_St_size_4 : decode b_St_size 4 = .ok (.ireturn, 1) := by decide +kernel
theorem d_St_write_0 : decode b_St_write 0 = .ok (.aload_n 0, 1) := by decide +kernel
theorem d_St_write_1 : decode b_St_write 1 = .ok (.getfield 19, 3) := by decide +kernel
theorem d_St_write_4 : decode b_St_write 4 = .ok (.iconst 2, 1) := by decide +kernel
theorem d_St_write_5 : decode b_St_write 5 = .ok (.iadd, 1) := by decide +kernel
theorem d_St_write_6 : decode b_St_write 6 = .ok (.iload_n 2, 1) := by decide +kernel
theorem d_St_write_7 : decode b_St_write 7 = .ok (.iadd, 1) := by decide +kernel
theorem d_St_write_8 : decode b_St_write 8 = .ok (.bipush 60, 2) := by decide +kernel
theorem d_St_write_10 : decode b_St_write 10 = .ok (.if_icmp .le 5, 3) := by decide +kernel
theorem d_St_write_13 : decode b_St_write 13 = .ok (.iconst 0, 1) := by decide +kernel
theorem d_St_write_14 : decode b_St_write 14 = .ok (.ireturn, 1) := by decide +kernel
theorem d_St_write_15 : decode b_St_write 15 = .ok (.aload_n 0, 1) := by decide +kernel
theorem d_St_write_16 : decode b_St_write 16 = .ok (.iload_n 1, 1) := by decide +kernel
theorem d_St_write_17 : decode b_St_write 17 = .ok (.iload_n 2, 1) := by decide +kernel
theorem d_St_write_18 : decode b_St_write 18 = .ok (.invokevirtual 23, 3) := by decide +kernel
theorem d_St_write_21 : decode b_St_write 21 = .ok (.iconst 0, 1) := by decide +kernel
theorem d_St_write_22 : decode b_St_write 22 = .ok (.istore_n 3, 1) := by decide +kernel
theorem d_St_write_23 : decode b_St_write 23 = .ok (.iload_n 3, 1) := by decide +kernel
theorem d_St_write_24 : decode b_St_write 24 = .ok (.iload_n 2, 1) := by decide +kernel
theorem d_St_write_25 : decode b_St_write 25 = .ok (.if_icmp .ge 20, 3) := by decide +kernel
theorem d_St_write_28 : decode b_St_write 28 = .ok (.aload_n 0, 1) := by decide +kernel
theorem d_St_write_29 : decode b_St_write 29 = .ok (.iload_n 1, 1) := by decide +kernel
theorem d_St_write_30 : decode b_St_write 30 = .ok (.bipush 7, 2) := by decide +kernel
theorem d_St_write_32 : decode b_St_write 32 = .ok (.imul, 1) := by decide +kernel
theorem d_St_write_33 : decode b_St_write 33 = .ok (.iload_n 3, 1) := by decide +kernel
theorem d_St_write_34 : decode b_St_write 34 = .ok (.iadd, 1) := by decide +kernel
theorem d_St_write_35 : decode b_St_write 35 = .ok (.iconst 0, 1) := by decide +kernel
theorem d_St_write_36 : decode b_St_write 36 = .ok (.invokevirtual 27, 3) := by decide +kernel
theorem d_St_write_39 : decode b_St_write 39 = .ok (.iinc 3 1, 3) := by decide +kernel
theorem d_St_write_42 : decode b_St_write 42 = .ok (.goto (-19), 3) := by decide +kernel
theorem d_St_write_45 : decode b_St_write 45 = .ok (.iconst 1, 1) := by decide +kernel
theorem d_St_write_46 : decode b_St_write 46 = .ok (.ireturn, 1) := by decide +kernel
theorem d_St_fill_0 : decode b_St_fill 0 = .ok (.aload_n 0, 1) := by decide +kernel
theorem d_St_fill_1 : decode b_St_fill 1 = .ok (.getfield 19, 3) := by decide +kernel
theorem d_St_fill_4 : decode b_St_fill 4 = .ok (.bipush 6, 2) := by decide +kernel
theorem d_St_fill_6 : decode b_St_fill 6 = .ok (.if_icmp .ge 7, 3) := by decide +kernel
theorem d_St_fill_9 : decode b_St_fill 9 = .ok (.aload_n 0, 1) := by decide +kernel
theorem d_St_fill_10 : decode b_St_fill 10 = .ok (.invokevirtual 31, 3) := by decide +kernel
theorem d_St_fill_13 : decode b_St_fill 13 = .ok (.aload_n 1, 1) := by decide +kernel
theorem d_St_fill_14 : decode b_St_fill 14 = .ok (.aload_n 0, 1) := by decide +kernel
theorem d_St_fill_15 : decode b_St_fill 15 = .ok (.getfield 34, 3) := by decide +kernel
theorem d_St_fill_18 : decode b_St_fill 18 = .ok (.putfield 37, 3) := by decide +kernel
theorem d_St_fill_21 : decode b_St_fill 21 = .ok (.aload_n 1, 1) := by decide +kernel
theorem d_St_fill_22 : decode b_St_fill 22 = .ok (.bipush 6, 2) := by decide +kernel
theorem d_St_fill_24 : decode b_St_fill 24 = .ok (.putfield 40, 3) := by decide +kernel
theorem d_St_fill_27 : decode b_St_fill 27 = .ok (.iconst 5, 1) := by decide +kernel
theorem d_St_fill_28 : decode b_St_fill 28 = .ok (.istore_n 2, 1) := by decide +kernel
theorem d_St_fill_29 : decode b_St_fill 29 = .ok (.iload_n 2, 1) := by decide +kernel
theorem d_St_fill_30 : decode b_St_fill 30 = .ok (.ifCond .lt 35, 3) := by decide +kernel
theorem d_St_fill_33 : decode b_St_fill 33 = .ok (.aload_n 1, 1) := by decide +kernel
theorem d_St_fill_34 : decode b_St_fill 34 = .ok (.getfield 43, 3) := by decide +kernel
theorem d_St_fill_37 : decode b_St_fill 37 = .ok (.iload_n 2, 1) := by decide +kernel
theorem d_St_fill_38 : decode b_St_fill 38 = .ok (.aload_n 0, 1) := by decide +kernel
theorem d_St_fill_39 : decode b_St_fill 39 = .ok (.getfield 11, 3) := by decide +kernel
theorem d_St_fill_42 : decode b_St_fill 42 = .ok (.iload_n 2, 1) := by decide +kernel
theorem d_St_fill_43 : decode b_St_fill 43 = .ok (.iaload, 1) := by decide +kernel
theorem d_St_fill_44 : decode b_St_fill 44 = .ok (.iastore, 1) := by decide +kernel
theorem d_St_fill_45 : decode b_St_fill 45 = .ok (.aload_n 0, 1) := by decide +kernel
theorem d_St_fill_46 : decode b_St_fill 46 = .ok (.getfield 15, 3) := by decide +kernel
theorem d_St_fill_49 : decode b_St_fill 49 = .ok (.iload_n 2, 1) := by decide +kernel
theorem d_St_fill_50 : decode b_St_fill 50 = .ok (.baload, 1) := by decide +kernel
theorem d_St_fill_51 : decode b_St_fill 51 = .ok (.ifCond .eq 8, 3) := by decide +kernel
theorem d_St_fill_54 : decode b_St_fill 54 = .ok (.aload_n 1, 1) := by decide +kernel
theorem d_St_fill_55 : decode b_St_fill 55 = .ok (.iload_n 2, 1) := by decide +kernel
theorem d_St_fill_56 : decode b_St_fill 56 = .ok (.putfield 40, 3) := by decide +kernel
theorem d_St_fill_59 : decode b_St_fill 59 = .ok (.iinc 2 (-1), 3) := by decide +kernel
theorem d_St_fill_62 : decode b_St_fill 62 = .ok (.goto (-33), 3) := by decide +kernel
theorem d_St_fill_65 : decode b_St_fill 65 = .ok (.aload_n 0, 1) := by decide +kernel
theorem d_St_fill_66 : decode b_St_fill 66 = .ok (.aload_n 0, 1) := by decide +kernel
theorem d_St_fill_67 : decode b_St_fill 67 = .ok (.getfield 34, 3) := by decide +kernel
theorem d_St_fill_70 : decode b_St_fill 70 = .ok (.invokestatic 44, 3) := by decide +kernel
theorem d_St_fill_73 : decode b_St_fill 73 = .ok (.putfield 34, 3) := by decide +kernel
theorem d_St_fill_76 : decode b_St_fill 76 = .ok (.aload_n 0, 1) := by decide +kernel
theorem d_St_fill_77 : decode b_St_fill 77 = .ok (.invokevirtual 48, 3) := by decide +kernel
theorem d_St_fill_80 : decode b_St_fill 80 = .ok (.return_, 1) := by decide +kernel
theorem d_St_writeIdle_0 : decode b_St_writeIdle 0 = .ok (.iconst 0, 1) := by decide +kernel
theorem d_St_writeIdle_1 : decode b_St_writeIdle 1 = .ok (.iconst 4, 1) := by decide +kernel
theorem d_St_writeIdle_2 : decode b_St_writeIdle 2 = .ok (.aload_n 0, 1) := by decide +kernel
theorem d_St_writeIdle_3 : decode b_St_writeIdle 3 = .ok (.getfield 19, 3) := by decide +kernel
theorem d_St_writeIdle_6 : decode b_St_writeIdle 6 = .ok (.isub, 1) := by decide +kernel
theorem d_St_writeIdle_7 : decode b_St_writeIdle 7 = .ok (.invokestatic 51, 3) := by decide +kernel
theorem d_St_writeIdle_10 : decode b_St_writeIdle 10 = .ok (.istore_n 1, 1) := by decide +kernel
theorem d_St_writeIdle_11 : decode b_St_writeIdle 11 = .ok (.aload_n 0, 1) := by decide +kernel
theorem d_St_writeIdle_12 : decode b_St_writeIdle 12 = .ok (.iconst 0, 1) := by decide +kernel
theorem d_St_writeIdle_13 : decode b_St_writeIdle 13 = .ok (.iload_n 1, 1) := by decide +kernel
theorem d_St_writeIdle_14 : decode b_St_writeIdle 14 = .ok (.invokevirtual 23, 3) := by decide +kernel
theorem d_St_writeIdle_17 : decode b_St_writeIdle 17 = .ok (.iconst 0, 1) := by decide +kernel
theorem d_St_writeIdle_18 : decode b_St_writeIdle 18 = .ok (.istore_n 2, 1) := by decide +kernel
theorem d_St_writeIdle_19 : decode b_St_writeIdle 19 = .ok (.iload_n 2, 1) := by decide +kernel
theorem d_St_writeIdle_20 : decode b_St_writeIdle 20 = .ok (.iload_n 1, 1) := by decide +kernel
theorem d_St_writeIdle_21 : decode b_St_writeIdle 21 = .ok (.if_icmp .ge 15, 3) := by decide +kernel
theorem d_St_writeIdle_24 : decode b_St_writeIdle 24 = .ok (.aload_n 0, 1) := by decide +kernel
theorem d_St_writeIdle_25 : decode b_St_writeIdle 25 = .ok (.iconst 0, 1) := by decide +kernel
theorem d_St_writeIdle_26 : decode b_St_writeIdle 26 = .ok (.iconst 0, 1) := by decide +kernel
theorem d_St_writeIdle_27 : decode b_St_writeIdle 27 = .ok (.invokevirtual 27, 3) := by decide +kernel
theorem d_St_writeIdle_30 : decode b_St_writeIdle 30 = .ok (.iinc 2 1, 3) := by decide +kernel
theorem d_St_writeIdle_33 : decode b_St_writeIdle 33 = .ok (.goto (-14), 3) := by decide +kernel
theorem d_St_writeIdle_36 : decode b_St_writeIdle 36 = .ok (.return_, 1) := by decide +kernel
theorem d_St_writeHead_0 : decode b_St_writeHead 0 = .ok (.aload_n 0, 1) := by decide +kernel
theorem d_St_writeHead_1 : decode b_St_writeHead 1 = .ok (.iload_n 1, 1) := by decide +kernel
theorem d_St_writeHead_2 : decode b_St_writeHead 2 = .ok (.iconst 1, 1) := by decide +kernel
theorem d_St_writeHead_3 : decode b_St_writeHead 3 = .ok (.invokevirtual 27, 3) := by decide +kernel
theorem d_St_writeHead_6 : decode b_St_writeHead 6 = .ok (.aload_n 0, 1) := by decide +kernel
theorem d_St_writeHead_7 : decode b_St_writeHead 7 = .ok (.iload_n 2, 1) := by decide +kernel
theorem d_St_writeHead_8 : decode b_St_writeHead 8 = .ok (.iconst 0, 1) := by decide +kernel
theorem d_St_writeHead_9 : decode b_St_writeHead 9 = .ok (.invokevirtual 27, 3) := by decide +kernel
theorem d_St_writeHead_12 : decode b_St_writeHead 12 = .ok (.return_, 1) := by decide +kernel
theorem d_St_put_0 : decode b_St_put 0 = .ok (.aload_n 0, 1) := by decide +kernel
theorem d_St_put_1 : decode b_St_put 1 = .ok (.getfield 19, 3) := by decide +kernel
theorem d_St_put_4 : decode b_St_put 4 = .ok (.bipush 60, 2) := by decide +kernel
theorem d_St_put_6 : decode b_St_put 6 = .ok (.if_icmp .ge 33, 3) := by decide +kernel
theorem d_St_put_9 : decode b_St_put 9 = .ok (.aload_n 0, 1) := by decide +kernel
theorem d_St_put_10 : decode b_St_put 10 = .ok (.getfield 11, 3) := by decide +kernel
theorem d_St_put_13 : decode b_St_put 13 = .ok (.aload_n 0, 1) := by decide +kernel
theorem d_St_put_14 : decode b_St_put 14 = .ok (.getfield 19, 3) := by decide +kernel
theorem d_St_put_17 : decode b_St_put 17 = .ok (.iload_n 1, 1) := by decide +kernel
theorem d_St_put_18 : decode b_St_put 18 = .ok (.iastore, 1) := by decide +kernel
theorem d_St_put_19 : decode b_St_put 19 = .ok (.aload_n 0, 1) := by decide +kernel
theorem d_St_put_20 : decode b_St_put 20 = .ok (.getfield 15, 3) := by decide +kernel
theorem d_St_put_23 : decode b_St_put 23 = .ok (.aload_n 0, 1) := by decide +kernel
theorem d_St_put_24 : decode b_St_put 24 = .ok (.getfield 19, 3) := by decide +kernel
theorem d_St_put_27 : decode b_St_put 27 = .ok (.iload_n 2, 1) := by decide +kernel
theorem d_St_put_28 : decode b_St_put 28 = .ok (.bastore, 1) := by decide +kernel
theorem d_St_put_29 : decode b_St_put 29 = .ok (.aload_n 0, 1) := by decide +kernel
theorem d_St_put_30 : decode b_St_put 30 = .ok (.dup, 1) := by decide +kernel
theorem d_St_put_31 : decode b_St_put 31 = .ok (.getfield 19, 3) := by decide +kernel
theorem d_St_put_34 : decode b_St_put 34 = .ok (.iconst 1, 1) := by decide +kernel
theorem d_St_put_35 : decode b_St_put 35 = .ok (.iadd, 1) := by decide +kernel
theorem d_St_put_36 : decode b_St_put 36 = .ok (.putfield 19, 3) := by decide +kernel
theorem d_St_put_39 : decode b_St_put 39 = .ok (.return_, 1) := by decide +kernel
theorem d_St_removeFrame_0 : decode b_St_removeFrame 0 = .ok (.bipush 6, 2) := by decide +kernel
theorem d_St_removeFrame_2 : decode b_St_removeFrame 2 = .ok (.istore_n 1, 1) := by decide +kernel
theorem d_St_removeFrame_3 : decode b_St_removeFrame 3 = .ok (.iload_n 1, 1) := by decide +kernel
theorem d_St_removeFrame_4 : decode b_St_removeFrame 4 = .ok (.aload_n 0, 1) := by decide +kernel
theorem d_St_removeFrame_5 : decode b_St_removeFrame 5 = .ok (.getfield 19, 3) := by decide +kernel
theorem d_St_removeFrame_8 : decode b_St_removeFrame 8 = .ok (.if_icmp .ge 39, 3) := by decide +kernel
theorem d_St_removeFrame_11 : decode b_St_removeFrame 11 = .ok (.aload_n 0, 1) := by decide +kernel
theorem d_St_removeFrame_12 : decode b_St_removeFrame 12 = .ok (.getfield 11, 3) := by decide +kernel
theorem d_St_removeFrame_15 : decode b_St_removeFrame 15 = .ok (.iload_n 1, 1) := by decide +kernel
theorem d_St_removeFrame_16 : decode b_St_removeFrame 16 = .ok (.bipush 6, 2) := by decide +kernel
theorem d_St_removeFrame_18 : decode b_St_removeFrame 18 = .ok (.isub, 1) := by decide +kernel
theorem d_St_removeFrame_19 : decode b_St_removeFrame 19 = .ok (.aload_n 0, 1) := by decide +kernel
theorem d_St_removeFrame_20 : decode b_St_removeFrame 20 = .ok (.getfield 11, 3) := by decide +kernel
theorem d_St_removeFrame_23 : decode b_St_removeFrame 23 = .ok (.iload_n 1, 1) := by decide +kernel
theorem d_St_removeFrame_24 : decode b_St_removeFrame 24 = .ok (.iaload, 1) := by decide +kernel
theorem d_St_removeFrame_25 : decode b_St_removeFrame 25 = .ok (.iastore, 1) := by decide +kernel
theorem d_St_removeFrame_26 : decode b_St_removeFrame 26 = .ok (.aload_n 0, 1) := by decide +kernel
theorem d_St_removeFrame_27 : decode b_St_removeFrame 27 = .ok (.getfield 15, 3) := by decide +kernel
theorem d_St_removeFrame_30 : decode b_St_removeFrame 30 = .ok (.iload_n 1, 1) := by decide +kernel
theorem d_St_removeFrame_31 : decode b_St_removeFrame 31 = .ok (.bipush 6, 2) := by decide +kernel
theorem d_St_removeFrame_33 : decode b_St_removeFrame 33 = .ok (.isub, 1) := by decide +kernel
theorem d_St_removeFrame_34 : decode b_St_removeFrame 34 = .ok (.aload_n 0, 1) := by decide +kernel
theorem d_St_removeFrame_35 : decode b_St_removeFrame 35 = .ok (.getfield 15, 3) := by decide +kernel
theorem d_St_removeFrame_38 : decode b_St_removeFrame 38 = .ok (.iload_n 1, 1) := by decide +kernel
theorem d_St_removeFrame_39 : decode b_St_removeFrame 39 = .ok (.baload, 1) := by decide +kernel
theorem d_St_removeFrame_40 : decode b_St_removeFrame 40 = .ok (.bastore, 1) := by decide +kernel
theorem d_St_removeFrame_41 : decode b_St_removeFrame 41 = .ok (.iinc 1 1, 3) := by decide +kernel
theorem d_St_removeFrame_44 : decode b_St_removeFrame 44 = .ok (.goto (-41), 3) := by decide +kernel
theorem d_St_removeFrame_47 : decode b_St_removeFrame 47 = .ok (.aload_n 0, 1) := by decide +kernel
theorem d_St_removeFrame_48 : decode b_St_removeFrame 48 = .ok (.dup, 1) := by decide +kernel
theorem d_St_removeFrame_49 : decode b_St_removeFrame 49 = .ok (.getfield 19, 3) := by decide +kernel
theorem d_St_removeFrame_52 : decode b_St_removeFrame 52 = .ok (.bipush 6, 2) := by decide +kernel
theorem d_St_removeFrame_54 : decode b_St_removeFrame 54 = .ok (.isub, 1) := by decide +kernel
theorem d_St_removeFrame_55 : decode b_St_removeFrame 55 = .ok (.putfield 19, 3) := by decide +kernel
theorem d_St_removeFrame_58 : decode b_St_removeFrame 58 = .ok (.return_, 1) := by decide +kernel
end
section
theorem d_T_init_0 : decode b_T_init 0 = .ok (.aload_n 0, 1) := by decide +kernel
theorem d_T_init_1 : decode b_T_init 1 = .ok (.invokespecial 1, 3) := by decide +kernel
theorem d_T_init_4 : decode b_T_init 4 = .ok (.aload_n 0, 1) := by decide +kernel
theorem d_T_init_5 : decode b_T_init 5 = .ok (.new 7, 3) := by decide +kernel
theorem d_T_init_8 : decode b_T_init 8 = .ok (.dup, 1) := by decide +kernel
theorem d_T_init_9 : decode b_T_init 9 = .ok (.invokespecial 9, 3) := by decide +kernel
theorem d_T_init_12 : decode b_T_init 12 = .ok (.putfield 10, 3) := by decide +kernel
theorem d_T_init_15 : decode b_T_init 15 = .ok (.aload_n 0, 1) := by decide +kernel
theorem d_T_init_16 : decode b_T_init 16 = .ok (.new 16, 3) := by decide +kernel
theorem d_T_init_19 : decode b_T_init 19 = .ok (.dup, 1) := by decide +kernel
theorem d_T_init_20 : decode b_T_init 20 = .ok (.invokespecial 18, 3) := by decide +kernel
theorem d_T_init_23 : decode b_T_init 23 = .ok (.putfield 19, 3) := by decide +kernel
theorem d_T_init_26 : decode b_T_init 26 = .ok (.aload_n 0, 1) := by decide +kernel
theorem d_T_init_27 : decode b_T_init 27 = .ok (.new 23, 3) := by decide +kernel
theorem d_T_init_30 : decode b_T_init 30 = .ok (.dup, 1) := by decide +kernel
theorem d_T_init_31 : decode b_T_init 31 = .ok (.invokespecial 25, 3) := by decide +kernel
theorem d_T_init_34 : decode b_T_init 34 = .ok (.putfield 26, 3) := by decide +kernel
theorem d_T_init_37 : decode b_T_init 37 = .ok (.aload_n 0, 1) := by decide +kernel
theorem d_T_init_38 : decode b_T_init 38 = .ok (.new 30, 3) := by decide +kernel
theorem d_T_init_41 : decode b_T_init 41 = .ok (.dup, 1) := by decide +kernel
theorem d_T_init_42 : decode b_T_init 42 = .ok (.invokespecial 32, 3) := by decide +kernel
theorem d_T_init_45 : decode b_T_init 45 = .ok (.putfield 33, 3) := by decide +kernel
theorem d_T_init_48 : decode b_T_init 48 = .ok (.aload_n 0, 1) := by decide +kernel
theorem d_T_init_49 : decode b_T_init 49 = .ok (.iconst 2, 1) := by decide +kernel
theorem d_T_init_50 : decode b_T_init 50 = .ok (.anewarray 37, 3) := by decide +kernel
theorem d_T_init_53 : decode b_T_init 53 = .ok (.putfield 39, 3) := by decide +kernel
theorem d_T_init_56 : decode b_T_init 56 = .ok (.aload_n 0, 1) := by decide +kernel
theorem d_T_init_57 : decode b_T_init 57 = .ok (.iconst 2, 1) := by decide +kernel
theorem d_T_init_58 : decode b_T_init 58 = .ok (.anewarray 43, 3) := by decide +kernel
theorem d_T_init_61 : decode b_T_init 61 = .ok (.putfield 45, 3) := by decide +kernel
theorem d_T_init_64 : decode b_T_init 64 = .ok (.iconst 0, 1) := by decide +kernel
theorem d_T_init_65 : decode b_T_init 65 = .ok (.istore_n 1, 1) := by decide +kernel
theorem d_T_init_66 : decode b_T_init 66 = .ok (.iload_n 1, 1) := by decide +kernel
theorem d_T_init_67 : decode b_T_init 67 = .ok (.iconst 2, 1) := by decide +kernel
theorem d_T_init_68 : decode b_T_init 68 = .ok (.if_icmp .ge 36, 3) := by decide +kernel
theorem d_T_init_71 : decode b_T_init 71 = .ok (.aload_n 0, 1) := by decide +kernel
theorem d_T_init_72 : decode b_T_init 72 = .ok (.getfield 39, 3) := by decide +kernel
theorem d_T_init_75 : decode b_T_init 75 = .ok (.iload_n 1, 1) := by decide +kernel
theorem d_T_init_76 : decode b_T_init 76 = .ok (.new 37, 3) := by decide +kernel
theorem d_T_init_79 : decode b_T_init 79 = .ok (.dup, 1) := by decide +kernel
theorem d_T_init_80 : decode b_T_init 80 = .ok (.invokespecial 49, 3) := by decide +kernel
theorem d_T_init_83 : decode b_T_init 83 = .ok (.aastore, 1) := by decide +kernel
theorem d_T_init_84 : decode b_T_init 84 = .ok (.aload_n 0, 1) := by decide +kernel
theorem d_T_init_85 : decode b_T_init 85 = .ok (.getfield 45, 3) := by decide +kernel
theorem d_T_init_88 : decode b_T_init 88 = .ok (.iload_n 1, 1) := by decide +kernel
theorem d_T_init_89 : decode b_T_init 89 = .ok (.new 43, 3) := by decide +kernel
theorem d_T_init_92 : decode b_T_init 92 = .ok (.dup, 1) := by decide +kernel
theorem d_T_init_93 : decode b_T_init 93 = .ok (.iload_n 1, 1) := by decide +kernel
theorem d_T_init_94 : decode b_T_init 94 = .ok (.invokespecial 50, 3) := by decide +kernel
theorem d_T_init_97 : decode b_T_init 97 = .ok (.aastore, 1) := by decide +kernel
theorem d_T_init_98 : decode b_T_init 98 = .ok (.iinc 1 1, 3) := by decide +kernel
theorem d_T_init_101 : decode b_T_init 101 = .ok (.goto (-35), 3) := by decide +kernel
theorem d_T_init_104 : decode b_T_init 104 = .ok (.aload_n 0, 1) := by decide +kernel
theorem d_T_init_105 : decode b_T_init 105 = .ok (.new 53, 3) := by decide +kernel
theorem d_T_init_108 : decode b_T_init 108 = .ok (.dup, 1) := by decide +kernel
theorem d_T_init_109 : decode b_T_init 109 = .ok (.invokespecial 55, 3) := by decide +kernel
theorem d_T_init_112 : decode b_T_init 112 = .ok (.putfield 56, 3) := by decide +kernel
theorem d_T_init_115 : decode b_T_init 115 = .ok (.aload_n 0, 1) := by decide +kernel
theorem d_T_init_116 : decode b_T_init 116 = .ok (.new 60, 3) := by decide +kernel
theorem d_T_init_119 : decode b_T_init 119 = .ok (.dup, 1) := by decide +kernel
theorem d_T_init_120 : decode b_T_init 120 = .ok (.invokespecial 62, 3) := by decide +kernel
theorem d_T_init_123 : decode b_T_init 123 = .ok (.putfield 63, 3) := by decide +kernel
theorem d_T_init_126 : decode b_T_init 126 = .ok (.return_, 1) := by decide +kernel
theorem d_T_tune_0 : decode b_T_tune 0 = .ok (.aload_n 0, 1) := by decide +kernel
theorem d_T_tune_1 : decode b_T_tune 1 = .ok (.getfield 26, 3) := by decide +kernel
theorem d_T_tune_4 : decode b_T_tune 4 = .ok (.invokevirtual 67, 3) := by decide +kernel
theorem d_T_tune_7 : decode b_T_tune 7 = .ok (.ifCond .ne 13, 3) := by decide +kernel
theorem d_T_tune_10 : decode b_T_tune 10 = .ok (.new 71, 3) := by decide +kernel
theorem d_T_tune_13 : decode b_T_tune 13 = .ok (.dup, 1) := by decide +kernel
theorem d_T_tune_14 : decode b_T_tune 14 = .ok (.ldc 73, 2) := by decide +kernel
theorem d_T_tune_16 : decode b_T_tune 16 = .ok (.invokespecial 75, 3) := by decide +kernel
theorem d_T_tune_19 : decode b_T_tune 19 = .ok (.athrow, 1) := by decide +kernel
theorem d_T_tune_20 : decode b_T_tune 20 = .ok (.iload_n 1, 1) := by decide +kernel
theorem d_T_tune_21 : decode b_T_tune 21 = .ok (.iconst 1, 1) := by decide +kernel
theorem d_T_tune_22 : decode b_T_tune 22 = .ok (.iconst 4, 1) := by decide +kernel
theorem d_T_tune_23 : decode b_T_tune 23 = .ok (.invokestatic 78, 3) := by decide +kernel
theorem d_T_tune_26 : decode b_T_tune 26 = .ok (.ifCond .eq 23, 3) := by decide +kernel
theorem d_T_tune_29 : decode b_T_tune 29 = .ok (.iload_n 2, 1) := by decide +kernel
theorem d_T_tune_30 : decode b_T_tune 30 = .ok (.iconst 1, 1) := by decide +kernel
theorem d_T_tune_31 : decode b_T_tune 31 = .ok (.bipush 9, 2) := by decide +kernel
theorem d_T_tune_33 : decode b_T_tune 33 = .ok (.invokestatic 78, 3) := by decide +kernel
theorem d_T_tune_36 : decode b_T_tune 36 = .ok (.ifCond .eq 13, 3) := by decide +kernel
theorem d_T_tune_39 : decode b_T_tune 39 = .ok (.iload_n 3, 1) := by decide +kernel
theorem d_T_tune_40 : decode b_T_tune 40 = .ok (.iconst 1, 1) := by decide +kernel
theorem d_T_tune_41 : decode b_T_tune 41 = .ok (.bipush 20, 2) := by decide +kernel
theorem d_T_tune_43 : decode b_T_tune 43 = .ok (.invokestatic 78, 3) := by decide +kernel
theorem d_T_tune_46 : decode b_T_tune 46 = .ok (.ifCond .ne 13, 3) := by decide +kernel
theorem d_T_tune_49 : decode b_T_tune 49 = .ok (.new 82, 3) := by decide +kernel
theorem d_T_tune_52 : decode b_T_tune 52 = .ok (.dup, 1) := by decide +kernel
theorem d_T_tune_53 : decode b_T_tune 53 = .ok (.ldc 84, 2) := by decide +kernel
theorem d_T_tune_55 : decode b_T_tune 55 = .ok (.invokespecial 86, 3) := by decide +kernel
theorem d_T_tune_58 : decode b_T_tune 58 = .ok (.athrow, 1) := by decide +kernel
theorem d_T_tune_59 : decode b_T_tune 59 = .ok (.aload_n 0, 1) := by decide +kernel
theorem d_T_tune_60 : decode b_T_tune 60 = .ok (.getfield 26, 3) := by decide +kernel
theorem d_T_tune_63 : decode b_T_tune 63 = .ok (.iload_n 1, 1) := by decide +kernel
theorem d_T_tune_64 : decode b_T_tune 64 = .ok (.iload_n 2, 1) := by decide +kernel
theorem d_T_tune_65 : decode b_T_tune 65 = .ok (.iload_n 3, 1) := by decide +kernel
theorem d_T_tune_66 : decode b_T_tune 66 = .ok (.invokevirtual 87, 3) := by decide +kernel
theorem d_T_tune_69 : decode b_T_tune 69 = .ok (.return_, 1) := by decide +kernel
theorem d_T_number_0 : decode b_T_number 0 = .ok (.aload_n 0, 1) := by decide +kernel
theorem d_T_number_1 : decode b_T_number 1 = .ok (.getfield 26, 3) := by decide +kernel
theorem d_T_number_4 : decode b_T_number 4 = .ok (.invokevirtual 67, 3) := by decide +kernel
theorem d_T_number_7 : decode b_T_number 7 = .ok (.ifCond .ne 13, 3) := by decide +kernel
theorem d_T_number_10 : decode b_T_number 10 = .ok (.new 71, 3) := by decide +kernel
theorem d_T_number_13 : decode b_T_number 13 = .ok (.dup, 1) := by decide +kernel
theorem d_T_number_14 : decode b_T_number 14 = .ok (.ldc 73, 2) := by decide +kernel
theorem d_T_number_16 : decode b_T_number 16 = .ok (.invokespecial 75, 3) := by decide +kernel
theorem d_T_number_19 : decode b_T_number 19 = .ok (.athrow, 1) := by decide +kernel
theorem d_T_number_20 : decode b_T_number 20 = .ok (.iload_n 1, 1) := by decide +kernel
theorem d_T_number_21 : decode b_T_number 21 = .ok (.iconst 0, 1) := by decide +kernel
theorem d_T_number_22 : decode b_T_number 22 = .ok (.bipush 15, 2) := by decide +kernel
theorem d_T_number_24 : decode b_T_number 24 = .ok (.invokestatic 78, 3) := by decide +kernel
theorem d_T_number_27 : decode b_T_number 27 = .ok (.ifCond .ne 13, 3) := by decide +kernel
theorem d_T_number_30 : decode b_T_number 30 = .ok (.new 82, 3) := by decide +kernel
theorem d_T_number_33 : decode b_T_number 33 = .ok (.dup, 1) := by decide +kernel
theorem d_T_number_34 : decode b_T_number 34 = .ok (.ldc 91, 2) := by decide +kernel
theorem d_T_number_36 : decode b_T_number 36 = .ok (.invokespecial 86, 3) := by decide +kernel
theorem d_T_number_39 : decode b_T_number 39 = .ok (.athrow, 1) := by decide +kernel
theorem d_T_number_40 : decode b_T_number 40 = .ok (.aload_n 0, 1) := by decide +kernel
theorem d_T_number_41 : decode b_T_number 41 = .ok (.getfield 26, 3) := by decide +kernel
theorem d_T_number_44 : decode b_T_number 44 = .ok (.iload_n 1, 1) := by decide +kernel
theorem d_T_number_45 : decode b_T_number 45 = .ok (.invokevirtual 93, 3) := by decide +kernel
theorem d_T_number_48 : decode b_T_number 48 = .ok (.return_, 1) := by decide +kernel
theorem d_T_begin_0 : decode b_T_begin 0 = .ok (.aload_n 0, 1) := by decide +kernel
theorem d_T_begin_1 : decode b_T_begin 1 = .ok (.getfield 26, 3) := by decide +kernel
theorem d_T_begin_4 : decode b_T_begin 4 = .ok (.invokevirtual 67, 3) := by decide +kernel
theorem d_T_begin_7 : decode b_T_begin 7 = .ok (.ifCond .ne 13, 3) := by decide +kernel
theorem d_T_begin_10 : decode b_T_begin 10 = .ok (.new 71, 3) := by decide +kernel
theorem d_T_begin_13 : decode b_T_begin 13 = .ok (.dup, 1) := by decide +kernel
theorem d_T_begin_14 : decode b_T_begin 14 = .ok (.ldc 73, 2) := by decide +kernel
theorem d_T_begin_16 : decode b_T_begin 16 = .ok (.invokespecial 75, 3) := by decide +kernel
theorem d_T_begin_19 : decode b_T_begin 19 = .ok (.athrow, 1) := by decide +kernel
theorem d_T_begin_20 : decode b_T_begin 20 = .ok (.iload_n 1, 1) := by decide +kernel
theorem d_T_begin_21 : decode b_T_begin 21 = .ok (.iconst 0, 1) := by decide +kernel
theorem d_T_begin_22 : decode b_T_begin 22 = .ok (.iconst 3, 1) := by decide +kernel
theorem d_T_begin_23 : decode b_T_begin 23 = .ok (.invokestatic 78, 3) := by decide +kernel
theorem d_T_begin_26 : decode b_T_begin 26 = .ok (.ifCond .ne 13, 3) := by decide +kernel
theorem d_T_begin_29 : decode b_T_begin 29 = .ok (.new 82, 3) := by decide +kernel
theorem d_T_begin_32 : decode b_T_begin 32 = .ok (.dup, 1) := by decide +kernel
theorem d_T_begin_33 : decode b_T_begin 33 = .ok (.ldc 96, 2) := by decide +kernel
theorem d_T_begin_35 : decode b_T_begin 35 = .ok (.invokespecial 86, 3) := by decide +kernel
theorem d_T_begin_38 : decode b_T_begin 38 = .ok (.athrow, 1) := by decide +kernel
theorem d_T_begin_39 : decode b_T_begin 39 = .ok (.aload_n 0, 1) := by decide +kernel
theorem d_T_begin_40 : decode b_T_begin 40 = .ok (.getfield 26, 3) := by decide +kernel
theorem d_T_begin_43 : decode b_T_begin 43 = .ok (.iload_n 1, 1) := by decide +kernel
theorem d_T_begin_44 : decode b_T_begin 44 = .ok (.invokevirtual 98, 3) := by decide +kernel
theorem d_T_begin_47 : decode b_T_begin 47 = .ok (.return_, 1) := by decide +kernel
theorem d_T_end_0 : decode b_T_end 0 = .ok (.aload_n 0, 1) := by decide +kernel
theorem d_T_end_1 : decode b_T_end 1 = .ok (.getfield 26, 3) := by decide +kernel
theorem d_T_end_4 : decode b_T_end 4 = .ok (.invokevirtual 67, 3) := by decide +kernel
theorem d_T_end_7 : decode b_T_end 7 = .ok (.ifCond .eq 13, 3) := by decide +kernel
theorem d_T_end_10 : decode b_T_end 10 = .ok (.new 71, 3) := by decide +kernel
theorem d_T_end_13 : decode b_T_end 13 = .ok (.dup, 1) := by decide +kernel
theorem d_T_end_14 : decode b_T_end 14 = .ok (.ldc 101, 2) := by decide +kernel
theorem d_T_end_16 : decode b_T_end 16 = .ok (.invokespecial 75, 3) := by decide +kernel
theorem d_T_end_19 : decode b_T_end 19 = .ok (.athrow, 1) := by decide +kernel
theorem d_T_end_20 : decode b_T_end 20 = .ok (.aload_n 0, 1) := by decide +kernel
theorem d_T_end_21 : decode b_T_end 21 = .ok (.getfield 26, 3) := by decide +kernel
theorem d_T_end_24 : decode b_T_end 24 = .ok (.invokevirtual 103, 3) := by decide +kernel
theorem d_T_end_27 : decode b_T_end 27 = .ok (.return_, 1) := by decide +kernel
theorem d_T_command_0 : decode b_T_command 0 = .ok (.aload_n 0, 1) := by decide +kernel
theorem d_T_command_1 : decode b_T_command 1 = .ok (.getfield 26, 3) := by decide +kernel
theorem d_T_command_4 : decode b_T_command 4 = .ok (.invokevirtual 106, 3) := by decide +kernel
theorem d_T_command_7 : decode b_T_command 7 = .ok (.ifCond .ne 13, 3) := by decide +kernel
theorem d_T_command_10 : decode b_T_command 10 = .ok (.new 71, 3) := by decide +kernel
theorem d_T_command_13 : decode b_T_command 13 = .ok (.dup, 1) := by decide +kernel
theorem d_T_command_14 : decode b_T_command 14 = .ok (.ldc 109, 2) := by decide +kernel
theorem d_T_command_16 : decode b_T_command 16 = .ok (.invokespecial 75, 3) := by decide +kernel
theorem d_T_command_19 : decode b_T_command 19 = .ok (.athrow, 1) := by decide +kernel
theorem d_T_command_20 : decode b_T_command 20 = .ok (.aload_n 0, 1) := by decide +kernel
theorem d_T_command_21 : decode b_T_command 21 = .ok (.getfield 26, 3) := by decide +kernel
theorem d_T_command_24 : decode b_T_command 24 = .ok (.iload_n 1, 1) := by decide +kernel
theorem d_T_command_25 : decode b_T_command 25 = .ok (.invokevirtual 111, 3) := by decide +kernel
theorem d_T_command_28 : decode b_T_command 28 = .ok (.ireturn, 1) := by decide +kernel
theorem d_T_tick_0 : decode b_T_tick 0 = .ok (.aload_n 0, 1) := by decide +kernel
theorem d_T_tick_1 : decode b_T_tick 1 = .ok (.getfield 26, 3) := by decide +kernel
theorem d_T_tick_4 : decode b_T_tick 4 = .ok (.aload_n 0, 1) := by decide +kernel
theorem d_T_tick_5 : decode b_T_tick 5 = .ok (.getfield 10, 3) := by decide +kernel
theorem d_T_tick_8 : decode b_T_tick 8 = .ok (.invokevirtual 115, 3) := by decide +kernel
theorem d_T_tick_11 : decode b_T_tick 11 = .ok (.ireturn, 1) := by decide +kernel
theorem d_T_raise_0 : decode b_T_raise 0 = .ok (.aload_n 0, 1) := by decide +kernel
theorem d_T_raise_1 : decode b_T_raise 1 = .ok (.getfield 10, 3) := by decide +kernel
theorem d_T_raise_4 : decode b_T_raise 4 = .ok (.iload_n 1, 1) := by decide +kernel
theorem d_T_raise_5 : decode b_T_raise 5 = .ok (.invokevirtual 119, 3) := by decide +kernel
theorem d_T_raise_8 : decode b_T_raise 8 = .ok (.ifCond .ne 13, 3) := by decide +kernel
theorem d_T_raise_11 : decode b_T_raise 11 = .ok (.new 122, 3) := by decide +kernel
theorem d_T_raise_14 : decode b_T_raise 14 = .ok (.dup, 1) := by decide +kernel
theorem d_T_raise_15 : decode b_T_raise 15 = .ok (.ldc 124, 2) := by decide +kernel
theorem d_T_raise_17 : decode b_T_raise 17 = .ok (.invokespecial 126, 3) := by decide +kernel
theorem d_T_raise_20 : decode b_T_raise 20 = .ok (.athrow, 1) := by decide +kernel
theorem d_T_raise_21 : decode b_T_raise 21 = .ok (.aload_n 0, 1) := by decide +kernel
theorem d_T_raise_22 : decode b_T_raise 22 = .ok (.getfield 33, 3) := by decide +kernel
theorem d_T_raise_25 : decode b_T_raise 25 = .ok (.aload_n 0, 1) := by decide +kernel
theorem d_T_raise_26 : decode b_T_raise 26 = .ok (.getfield 10, 3) := by decide +kernel
theorem d_T_raise_29 : decode b_T_raise 29 = .ok (.iload_n 1, 1) := by decide +kernel
theorem d_T_raise_30 : decode b_T_raise 30 = .ok (.invokevirtual 127, 3) := by decide +kernel
theorem d_T_raise_33 : decode b_T_raise 33 = .ok (.aload_n 0, 1) := by decide +kernel
theorem d_T_raise_34 : decode b_T_raise 34 = .ok (.getfield 10, 3) := by decide +kernel
theorem d_T_raise_37 : decode b_T_raise 37 = .ok (.iload_n 1, 1) := by decide +kernel
theorem d_T_raise_38 : decode b_T_raise 38 = .ok (.invokevirtual 131, 3) := by decide +kernel
theorem d_T_raise_41 : decode b_T_raise 41 = .ok (.aload_n 0, 1) := by decide +kernel
theorem d_T_raise_42 : decode b_T_raise 42 = .ok (.getfield 10, 3) := by decide +kernel
theorem d_T_raise_45 : decode b_T_raise 45 = .ok (.iload_n 1, 1) := by decide +kernel
theorem d_T_raise_46 : decode b_T_raise 46 = .ok (.invokevirtual 134, 3) := by decide +kernel
theorem d_T_raise_49 : decode b_T_raise 49 = .ok (.invokevirtual 137, 3) := by decide +kernel
theorem d_T_raise_52 : decode b_T_raise 52 = .ok (.aload_n 0, 1) := by decide +kernel
theorem d_T_raise_53 : decode b_T_raise 53 = .ok (.getfield 10, 3) := by decide +kernel
theorem d_T_raise_56 : decode b_T_raise 56 = .ok (.iload_n 1, 1) := by decide +kernel
theorem d_T_raise_57 : decode b_T_raise 57 = .ok (.invokevirtual 140, 3) := by decide +kernel
theorem d_T_raise_60 : decode b_T_raise 60 = .ok (.return_, 1) := by decide +kernel
theorem d_T_drop_0 : decode b_T_drop 0 = .ok (.aload_n 0, 1) := by decide +kernel
theorem d_T_drop_1 : decode b_T_drop 1 = .ok (.getfield 10, 3) := by decide +kernel
theorem d_T_drop_4 : decode b_T_drop 4 = .ok (.iload_n 1, 1) := by decide +kernel
theorem d_T_drop_5 : decode b_T_drop 5 = .ok (.invokevirtual 119, 3) := by decide +kernel
theorem d_T_drop_8 : decode b_T_drop 8 = .ok (.ifCond .ne 13, 3) := by decide +kernel
theorem d_T_drop_11 : decode b_T_drop 11 = .ok (.new 122, 3) := by decide +kernel
theorem d_T_drop_14 : decode b_T_drop 14 = .ok (.dup, 1) := by decide +kernel
theorem d_T_drop_15 : decode b_T_drop 15 = .ok (.ldc 124, 2) := by decide +kernel
theorem d_T_drop_17 : decode b_T_drop 17 = .ok (.invokespecial 126, 3) := by decide +kernel
theorem d_T_drop_20 : decode b_T_drop 20 = .ok (.athrow, 1) := by decide +kernel
theorem d_T_drop_21 : decode b_T_drop 21 = .ok (.aload_n 0, 1) := by decide +kernel
theorem d_T_drop_22 : decode b_T_drop 22 = .ok (.getfield 10, 3) := by decide +kernel
theorem d_T_drop_25 : decode b_T_drop 25 = .ok (.iload_n 1, 1) := by decide +kernel
theorem d_T_drop_26 : decode b_T_drop 26 = .ok (.invokevirtual 140, 3) := by decide +kernel
theorem d_T_drop_29 : decode b_T_drop 29 = .ok (.return_, 1) := by decide +kernel
theorem d_T_take_0 : decode b_T_take 0 = .ok (.aload_n 0, 1) := by decide +kernel
theorem d_T_take_1 : decode b_T_take 1 = .ok (.getfield 33, 3) := by decide +kernel
theorem d_T_take_4 : decode b_T_take 4 = .ok (.invokevirtual 143, 3) := by decide +kernel
theorem d_T_take_7 : decode b_T_take 7 = .ok (.ifCond .ne 13, 3) := by decide +kernel
theorem d_T_take_10 : decode b_T_take 10 = .ok (.new 147, 3) := by decide +kernel
theorem d_T_take_13 : decode b_T_take 13 = .ok (.dup, 1) := by decide +kernel
theorem d_T_take_14 : decode b_T_take 14 = .ok (.ldc 149, 2) := by decide +kernel
theorem d_T_take_16 : decode b_T_take 16 = .ok (.invokespecial 151, 3) := by decide +kernel
theorem d_T_take_19 : decode b_T_take 19 = .ok (.athrow, 1) := by decide +kernel
theorem d_T_take_20 : decode b_T_take 20 = .ok (.aload_n 0, 1) := by decide +kernel
theorem d_T_take_21 : decode b_T_take 21 = .ok (.getfield 33, 3) := by decide +kernel
theorem d_T_take_24 : decode b_T_take 24 = .ok (.invokevirtual 152, 3) := by decide +kernel
theorem d_T_take_27 : decode b_T_take 27 = .ok (.ireturn, 1) := by decide +kernel
theorem d_T_report_0 : decode b_T_report 0 = .ok (.aload_n 0, 1) := by decide +kernel
theorem d_T_report_1 : decode b_T_report 1 = .ok (.getfield 19, 3) := by decide +kernel
theorem d_T_report_4 : decode b_T_report 4 = .ok (.aload_n 0, 1) := by decide +kernel
theorem d_T_report_5 : decode b_T_report 5 = .ok (.getfield 33, 3) := by decide +kernel
theorem d_T_report_8 : decode b_T_report 8 = .ok (.invokevirtual 155, 3) := by decide +kernel
theorem d_T_report_11 : decode b_T_report 11 = .ok (.ireturn, 1) := by decide +kernel
theorem d_T_answer_0 : decode b_T_answer 0 = .ok (.aload_n 0, 1) := by decide +kernel
theorem d_T_answer_1 : decode b_T_answer 1 = .ok (.getfield 19, 3) := by decide +kernel
theorem d_T_answer_4 : decode b_T_answer 4 = .ok (.iload_n 1, 1) := by decide +kernel
theorem d_T_answer_5 : decode b_T_answer 5 = .ok (.invokevirtual 159, 3) := by decide +kernel
theorem d_T_answer_8 : decode b_T_answer 8 = .ok (.ifCond .ne 13, 3) := by decide +kernel
theorem d_T_answer_11 : decode b_T_answer 11 = .ok (.new 122, 3) := by decide +kernel
theorem d_T_answer_14 : decode b_T_answer 14 = .ok (.dup, 1) := by decide +kernel
theorem d_T_answer_15 : decode b_T_answer 15 = .ok (.ldc 160, 2) := by decide +kernel
theorem d_T_answer_17 : decode b_T_answer 17 = .ok (.invokespecial 126, 3) := by decide +kernel
theorem d_T_answer_20 : decode b_T_answer 20 = .ok (.athrow, 1) := by decide +kernel
theorem d_T_answer_21 : decode b_T_answer 21 = .ok (.iload_n 2, 1) := by decide +kernel
theorem d_T_answer_22 : decode b_T_answer 22 = .ok (.ifCond .ne 34, 3) := by decide +kernel
theorem d_T_answer_25 : decode b_T_answer 25 = .ok (.aload_n 0, 1) := by decide +kernel
theorem d_T_answer_26 : decode b_T_answer 26 = .ok (.getfield 26, 3) := by decide +kernel
theorem d_T_answer_29 : decode b_T_answer 29 = .ok (.aload_n 0, 1) := by decide +kernel
theorem d_T_answer_30 : decode b_T_answer 30 = .ok (.getfield 19, 3) := by decide +kernel
theorem d_T_answer_33 : decode b_T_answer 33 = .ok (.iload_n 1, 1) := by decide +kernel
theorem d_T_answer_34 : decode b_T_answer 34 = .ok (.invokevirtual 162, 3) := by decide +kernel
theorem d_T_answer_37 : decode b_T_answer 37 = .ok (.aload_n 0, 1) := by decide +kernel
theorem d_T_answer_38 : decode b_T_answer 38 = .ok (.getfield 19, 3) := by decide +kernel
theorem d_T_answer_41 : decode b_T_answer 41 = .ok (.iload_n 1, 1) := by decide +kernel
theorem d_T_answer_42 : decode b_T_answer 42 = .ok (.invokevirtual 165, 3) := by decide +kernel
theorem d_T_answer_45 : decode b_T_answer 45 = .ok (.aload_n 0, 1) := by decide +kernel
theorem d_T_answer_46 : decode b_T_answer 46 = .ok (.getfield 19, 3) := by decide +kernel
theorem d_T_answer_49 : decode b_T_answer 49 = .ok (.iload_n 1, 1) := by decide +kernel
theorem d_T_answer_50 : decode b_T_answer 50 = .ok (.invokevirtual 168, 3) := by decide +kernel
theorem d_T_answer_53 : decode b_T_answer 53 = .ok (.invokevirtual 171, 3) := by decide +kernel
theorem d_T_answer_56 : decode b_T_answer 56 = .ok (.aload_n 0, 1) := by decide +kernel
theorem d_T_answer_57 : decode b_T_answer 57 = .ok (.getfield 19, 3) := by decide +kernel
theorem d_T_answer_60 : decode b_T_answer 60 = .ok (.iload_n 1, 1) := by decide +kernel
theorem d_T_answer_61 : decode b_T_answer 61 = .ok (.invokevirtual 175, 3) := by decide +kernel
theorem d_T_answer_64 : decode b_T_answer 64 = .ok (.return_, 1) := by decide +kernel
theorem d_T_packet_0 : decode b_T_packet 0 = .ok (.iload_n 1, 1) := by decide +kernel
theorem d_T_packet_1 : decode b_T_packet 1 = .ok (.invokestatic 176, 3) := by decide +kernel
theorem d_T_packet_4 : decode b_T_packet 4 = .ok (.ifCond .eq 23, 3) := by decide +kernel
theorem d_T_packet_7 : decode b_T_packet 7 = .ok (.iload_n 2, 1) := by decide +kernel
theorem d_T_packet_8 : decode b_T_packet 8 = .ok (.iconst 1, 1) := by decide +kernel
theorem d_T_packet_9 : decode b_T_packet 9 = .ok (.bipush 99, 2) := by decide +kernel
theorem d_T_packet_11 : decode b_T_packet 11 = .ok (.invokestatic 78, 3) := by decide +kernel
theorem d_T_packet_14 : decode b_T_packet 14 = .ok (.ifCond .eq 13, 3) := by decide +kernel
theorem d_T_packet_17 : decode b_T_packet 17 = .ok (.iload_n 3, 1) := by decide +kernel
theorem d_T_packet_18 : decode b_T_packet 18 = .ok (.iconst 0, 1) := by decide +kernel
theorem d_T_packet_19 : decode b_T_packet 19 = .ok (.bipush 20, 2) := by decide +kernel
theorem d_T_packet_21 : decode b_T_packet 21 = .ok (.invokestatic 78, 3) := by decide +kernel
theorem d_T_packet_24 : decode b_T_packet 24 = .ok (.ifCond .ne 13, 3) := by decide +kernel
theorem d_T_packet_27 : decode b_T_packet 27 = .ok (.new 82, 3) := by decide +kernel
theorem d_T_packet_30 : decode b_T_packet 30 = .ok (.dup, 1) := by decide +kernel
theorem d_T_packet_31 : decode b_T_packet 31 = .ok (.ldc 179, 2) := by decide +kernel
theorem d_T_packet_33 : decode b_T_packet 33 = .ok (.invokespecial 86, 3) := by decide +kernel
theorem d_T_packet_36 : decode b_T_packet 36 = .ok (.athrow, 1) := by decide +kernel
theorem d_T_packet_37 : decode b_T_packet 37 = .ok (.aload_n 0, 1) := by decide +kernel
theorem d_T_packet_38 : decode b_T_packet 38 = .ok (.getfield 39, 3) := by decide +kernel
theorem d_T_packet_41 : decode b_T_packet 41 = .ok (.iload_n 1, 1) := by decide +kernel
theorem d_T_packet_42 : decode b_T_packet 42 = .ok (.aaload, 1) := by decide +kernel
theorem d_T_packet_43 : decode b_T_packet 43 = .ok (.iload_n 2, 1) := by decide +kernel
theorem d_T_packet_44 : decode b_T_packet 44 = .ok (.iload_n 3, 1) := by decide +kernel
theorem d_T_packet_45 : decode b_T_packet 45 = .ok (.invokevirtual 181, 3) := by decide +kernel
theorem d_T_packet_48 : decode b_T_packet 48 = .ok (.ireturn, 1) := by decide +kernel
theorem d_T_frame_0 : decode b_T_frame 0 = .ok (.iload_n 1, 1) := by decide +kernel
theorem d_T_frame_1 : decode b_T_frame 1 = .ok (.invokestatic 176, 3) := by decide +kernel
theorem d_T_frame_4 : decode b_T_frame 4 = .ok (.ifCond .ne 13, 3) := by decide +kernel
theorem d_T_frame_7 : decode b_T_frame 7 = .ok (.new 82, 3) := by decide +kernel
theorem d_T_frame_10 : decode b_T_frame 10 = .ok (.dup, 1) := by decide +kernel
theorem d_T_frame_11 : decode b_T_frame 11 = .ok (.ldc 185, 2) := by decide +kernel
theorem d_T_frame_13 : decode b_T_frame 13 = .ok (.invokespecial 86, 3) := by decide +kernel
theorem d_T_frame_16 : decode b_T_frame 16 = .ok (.athrow, 1) := by decide +kernel
theorem d_T_frame_17 : decode b_T_frame 17 = .ok (.aload_n 0, 1) := by decide +kernel
theorem d_T_frame_18 : decode b_T_frame 18 = .ok (.getfield 39, 3) := by decide +kernel
theorem d_T_frame_21 : decode b_T_frame 21 = .ok (.iload_n 1, 1) := by decide +kernel
theorem d_T_frame_22 : decode b_T_frame 22 = .ok (.aaload, 1) := by decide +kernel
theorem d_T_frame_23 : decode b_T_frame 23 = .ok (.aload_n 0, 1) := by decide +kernel
theorem d_T_frame_24 : decode b_T_frame 24 = .ok (.getfield 56, 3) := by decide +kernel
theorem d_T_frame_27 : decode b_T_frame 27 = .ok (.invokevirtual 187, 3) := by decide +kernel
theorem d_T_frame_30 : decode b_T_frame 30 = .ok (.iload_n 2, 1) := by decide +kernel
theorem d_T_frame_31 : decode b_T_frame 31 = .ok (.ifCond .ne 20, 3) := by decide +kernel
theorem d_T_frame_34 : decode b_T_frame 34 = .ok (.aload_n 0, 1) := by decide +kernel
theorem d_T_frame_35 : decode b_T_frame 35 = .ok (.getfield 45, 3) := by decide +kernel
theorem d_T_frame_38 : decode b_T_frame 38 = .ok (.iload_n 1, 1) := by decide +kernel
theorem d_T_frame_39 : decode b_T_frame 39 = .ok (.aaload, 1) := by decide +kernel
theorem d_T_frame_40 : decode b_T_frame 40 = .ok (.aload_n 0, 1) := by decide +kernel
theorem d_T_frame_41 : decode b_T_frame 41 = .ok (.getfield 56, 3) := by decide +kernel
theorem d_T_frame_44 : decode b_T_frame 44 = .ok (.aload_n 0, 1) := by decide +kernel
theorem d_T_frame_45 : decode b_T_frame 45 = .ok (.getfield 63, 3) := by decide +kernel
theorem d_T_frame_48 : decode b_T_frame 48 = .ok (.invokevirtual 191, 3) := by decide +kernel
theorem d_T_frame_51 : decode b_T_frame 51 = .ok (.aload_n 0, 1) := by decide +kernel
theorem d_T_frame_52 : decode b_T_frame 52 = .ok (.getfield 56, 3) := by decide +kernel
theorem d_T_frame_55 : decode b_T_frame 55 = .ok (.getfield 194, 3) := by decide +kernel
theorem d_T_frame_58 : decode b_T_frame 58 = .ok (.ireturn, 1) := by decide +kernel
theorem d_T_ground_0 : decode b_T_ground 0 = .ok (.iload_n 1, 1) := by decide +kernel
theorem d_T_ground_1 : decode b_T_ground 1 = .ok (.lookupswitch 43 #[(9, 27), (10, 35)], 27) := by decide +kernel
theorem d_T_ground_28 : decode b_T_ground 28 = .ok (.aload_n 0, 1) := by decide +kernel
theorem d_T_ground_29 : decode b_T_ground 29 = .ok (.getfield 10, 3) := by decide +kernel
theorem d_T_ground_32 : decode b_T_ground 32 = .ok (.invokevirtual 198, 3) := by decide +kernel
theorem d_T_ground_35 : decode b_T_ground 35 = .ok (.ireturn, 1) := by decide +kernel
theorem d_T_ground_36 : decode b_T_ground 36 = .ok (.aload_n 0, 1) := by decide +kernel
theorem d_T_ground_37 : decode b_T_ground 37 = .ok (.getfield 19, 3) := by decide +kernel
theorem d_T_ground_40 : decode b_T_ground 40 = .ok (.invokevirtual 201, 3) := by decide +kernel
theorem d_T_ground_43 : decode b_T_ground 43 = .ok (.ireturn, 1) := by decide +kernel
theorem d_T_ground_44 : decode b_T_ground 44 = .ok (.iload_n 1, 1) := by decide +kernel
theorem d_T_ground_45 : decode b_T_ground 45 = .ok (.iconst 0, 1) := by decide +kernel
theorem d_T_ground_46 : decode b_T_ground 46 = .ok (.bipush 8, 2) := by decide +kernel
theorem d_T_ground_48 : decode b_T_ground 48 = .ok (.invokestatic 78, 3) := by decide +kernel
theorem d_T_ground_51 : decode b_T_ground 51 = .ok (.ifCond .ne 13, 3) := by decide +kernel
theorem d_T_ground_54 : decode b_T_ground 54 = .ok (.new 122, 3) := by decide +kernel
theorem d_T_ground_57 : decode b_T_ground 57 = .ok (.dup, 1) := by decide +kernel
theorem d_T_ground_58 : decode b_T_ground 58 = .ok (.ldc 202, 2) := by decide +kernel
theorem d_T_ground_60 : decode b_T_ground 60 = .ok (.invokespecial 126, 3) := by decide +kernel
theorem d_T_ground_63 : decode b_T_ground 63 = .ok (.athrow, 1) := by decide +kernel
theorem d_T_ground_64 : decode b_T_ground 64 = .ok (.aload_n 0, 1) := by decide +kernel
theorem d_T_ground_65 : decode b_T_ground 65 = .ok (.getfield 26, 3) := by decide +kernel
theorem d_T_ground_68 : decode b_T_ground 68 = .ok (.iload_n 1, 1) := by decide +kernel
theorem d_T_ground_69 : decode b_T_ground 69 = .ok (.invokevirtual 204, 3) := by decide +kernel
theorem d_T_ground_72 : decode b_T_ground 72 = .ok (.ireturn, 1) := by decide +kernel
theorem d_T_craft_0 : decode b_T_craft 0 = .ok (.iload_n 1, 1) := by decide +kernel
theorem d_T_craft_1 : decode b_T_craft 1 = .ok (.lookupswitch 47 #[(4, 27), (5, 37)], 27) := by decide +kernel
theorem d_T_craft_28 : decode b_T_craft 28 = .ok (.aload_n 0, 1) := by decide +kernel
theorem d_T_craft_29 : decode b_T_craft 29 = .ok (.getfield 39, 3) := by decide +kernel
theorem d_T_craft_32 : decode b_T_craft 32 = .ok (.iconst 0, 1) := by decide +kernel
theorem d_T_craft_33 : decode b_T_craft 33 = .ok (.aaload, 1) := by decide +kernel
theorem d_T_craft_34 : decode b_T_craft 34 = .ok (.invokevirtual 207, 3) := by decide +kernel
theorem d_T_craft_37 : decode b_T_craft 37 = .ok (.ireturn, 1) := by decide +kernel
theorem d_T_craft_38 : decode b_T_craft 38 = .ok (.aload_n 0, 1) := by decide +kernel
theorem d_T_craft_39 : decode b_T_craft 39 = .ok (.getfield 39, 3) := by decide +kernel
theorem d_T_craft_42 : decode b_T_craft 42 = .ok (.iconst 1, 1) := by decide +kernel
theorem d_T_craft_43 : decode b_T_craft 43 = .ok (.aaload, 1) := by decide +kernel
theorem d_T_craft_44 : decode b_T_craft 44 = .ok (.invokevirtual 207, 3) := by decide +kernel
theorem d_T_craft_47 : decode b_T_craft 47 = .ok (.ireturn, 1) := by decide +kernel
theorem d_T_craft_48 : decode b_T_craft 48 = .ok (.iload_n 1, 1) := by decide +kernel
theorem d_T_craft_49 : decode b_T_craft 49 = .ok (.iconst 0, 1) := by decide +kernel
theorem d_T_craft_50 : decode b_T_craft 50 = .ok (.iconst 3, 1) := by decide +kernel
theorem d_T_craft_51 : decode b_T_craft 51 = .ok (.invokestatic 78, 3) := by decide +kernel
theorem d_T_craft_54 : decode b_T_craft 54 = .ok (.ifCond .ne 13, 3) := by decide +kernel
theorem d_T_craft_57 : decode b_T_craft 57 = .ok (.new 122, 3) := by decide +kernel
theorem d_T_craft_60 : decode b_T_craft 60 = .ok (.dup, 1) := by decide +kernel
theorem d_T_craft_61 : decode b_T_craft 61 = .ok (.ldc 202, 2) := by decide +kernel
theorem d_T_craft_63 : decode b_T_craft 63 = .ok (.invokespecial 126, 3) := by decide +kernel
theorem d_T_craft_66 : decode b_T_craft 66 = .ok (.athrow, 1) := by decide +kernel
theorem d_T_craft_67 : decode b_T_craft 67 = .ok (.aload_n 0, 1) := by decide +kernel
theorem d_T_craft_68 : decode b_T_craft 68 = .ok (.getfield 33, 3) := by decide +kernel
theorem d_T_craft_71 : decode b_T_craft 71 = .ok (.iload_n 1, 1) := by decide +kernel
theorem d_T_craft_72 : decode b_T_craft 72 = .ok (.invokevirtual 208, 3) := by decide +kernel
theorem d_T_craft_75 : decode b_T_craft 75 = .ok (.ireturn, 1) := by decide +kernel
theorem d_T_flight_0 : decode b_T_flight 0 = .ok (.aload_n 0, 1) := by decide +kernel
theorem d_T_flight_1 : decode b_T_flight 1 = .ok (.getfield 10, 3) := by decide +kernel
theorem d_T_flight_4 : decode b_T_flight 4 = .ok (.iload_n 1, 1) := by decide +kernel
theorem d_T_flight_5 : decode b_T_flight 5 = .ok (.invokevirtual 119, 3) := by decide +kernel
theorem d_T_flight_8 : decode b_T_flight 8 = .ok (.ifCond .ne 13, 3) := by decide +kernel
theorem d_T_flight_11 : decode b_T_flight 11 = .ok (.new 122, 3) := by decide +kernel
theorem d_T_flight_14 : decode b_T_flight 14 = .ok (.dup, 1) := by decide +kernel
theorem d_T_flight_15 : decode b_T_flight 15 = .ok (.ldc 124, 2) := by decide +kernel
theorem d_T_flight_17 : decode b_T_flight 17 = .ok (.invokespecial 126, 3) := by decide +kernel
theorem d_T_flight_20 : decode b_T_flight 20 = .ok (.athrow, 1) := by decide +kernel
theorem d_T_flight_21 : decode b_T_flight 21 = .ok (.aload_n 0, 1) := by decide +kernel
theorem d_T_flight_22 : decode b_T_flight 22 = .ok (.getfield 10, 3) := by decide +kernel
theorem d_T_flight_25 : decode b_T_flight 25 = .ok (.iload_n 1, 1) := by decide +kernel
theorem d_T_flight_26 : decode b_T_flight 26 = .ok (.iload_n 2, 1) := by decide +kernel
theorem d_T_flight_27 : decode b_T_flight 27 = .ok (.invokevirtual 209, 3) := by decide +kernel
theorem d_T_flight_30 : decode b_T_flight 30 = .ok (.ireturn, 1) := by decide +kernel
theorem d_T_packets_0 : decode b_T_packets 0 = .ok (.aload_n 0, 1) := by decide +kernel
theorem d_T_packets_1 : decode b_T_packets 1 = .ok (.getfield 63, 3) := by decide +kernel
theorem d_T_packets_4 : decode b_T_packets 4 = .ok (.invokevirtual 212, 3) := by decide +kernel
theorem d_T_packets_7 : decode b_T_packets 7 = .ok (.ireturn, 1) := by decide +kernel
theorem d_T_got_0 : decode b_T_got 0 = .ok (.aload_n 0, 1) := by decide +kernel
theorem d_T_got_1 : decode b_T_got 1 = .ok (.getfield 63, 3) := by decide +kernel
theorem d_T_got_4 : decode b_T_got 4 = .ok (.iload_n 1, 1) := by decide +kernel
theorem d_T_got_5 : decode b_T_got 5 = .ok (.invokevirtual 213, 3) := by decide +kernel
theorem d_T_got_8 : decode b_T_got 8 = .ok (.ifCond .ne 13, 3) := by decide +kernel
theorem d_T_got_11 : decode b_T_got 11 = .ok (.new 147, 3) := by decide +kernel
theorem d_T_got_14 : decode b_T_got 14 = .ok (.dup, 1) := by decide +kernel
theorem d_T_got_15 : decode b_T_got 15 = .ok (.ldc 214, 2) := by decide +kernel
theorem d_T_got_17 : decode b_T_got 17 = .ok (.invokespecial 151, 3) := by decide +kernel
theorem d_T_got_20 : decode b_T_got 20 = .ok (.athrow, 1) := by decide +kernel
theorem d_T_got_21 : decode b_T_got 21 = .ok (.aload_n 0, 1) := by decide +kernel
theorem d_T_got_22 : decode b_T_got 22 = .ok (.getfield 63, 3) := by decide +kernel
theorem d_T_got_25 : decode b_T_got 25 = .ok (.iload_n 1, 1) := by decide +kernel
theorem d_T_got_26 : decode b_T_got 26 = .ok (.iload_n 2, 1) := by decide +kernel
theorem d_T_got_27 : decode b_T_got 27 = .ok (.invokevirtual 216, 3) := by decide +kernel
theorem d_T_got_30 : decode b_T_got 30 = .ok (.ireturn, 1) := by decide +kernel
theorem d_T_isWithin_0 : decode b_T_isWithin 0 = .ok (.iload_n 0, 1) := by decide +kernel
theorem d_T_isWithin_1 : decode b_T_isWithin 1 = .ok (.iload_n 1, 1) := by decide +kernel
theorem d_T_isWithin_2 : decode b_T_isWithin 2 = .ok (.if_icmp .lt 12, 3) := by decide +kernel
theorem d_T_isWithin_5 : decode b_T_isWithin 5 = .ok (.iload_n 0, 1) := by decide +kernel
theorem d_T_isWithin_6 : decode b_T_isWithin 6 = .ok (.iload_n 2, 1) := by decide +kernel
theorem d_T_isWithin_7 : decode b_T_isWithin 7 = .ok (.if_icmp .gt 7, 3) := by decide +kernel
theorem d_T_isWithin_10 : decode b_T_isWithin 10 = .ok (.iconst 1, 1) := by decide +kernel
theorem d_T_isWithin_11 : decode b_T_isWithin 11 = .ok (.goto 4, 3) := by decide +kernel
theorem d_T_isWithin_14 : decode b_T_isWithin 14 = .ok (.iconst 0, 1) := by decide +kernel
theorem d_T_isWithin_15 : decode b_T_isWithin 15 = .ok (.ireturn, 1) := by decide +kernel
theorem d_T_isChannel_0 : decode b_T_isChannel 0 = .ok (.iload_n 0, 1) := by decide +kernel
theorem d_T_isChannel_1 : decode b_T_isChannel 1 = .ok (.iconst 0, 1) := by decide +kernel
theorem d_T_isChannel_2 : decode b_T_isChannel 2 = .ok (.iconst 1, 1) := by decide +kernel
theorem d_T_isChannel_3 : decode b_T_isChannel 3 = .ok (.invokestatic 78, 3) := by decide +kernel
theorem d_T_isChannel_6 : decode b_T_isChannel 6 = .ok (.ireturn, 1) := by decide +kernel
theorem d_T_following_0 : decode b_T_following 0 = .ok (.iload_n 0, 1) := by decide +kernel
theorem d_T_following_1 : decode b_T_following 1 = .ok (.iconst 1, 1) := by decide +kernel
theorem d_T_following_2 : decode b_T_following 2 = .ok (.iadd, 1) := by decide +kernel
theorem d_T_following_3 : decode b_T_following 3 = .ok (.bipush 16, 2) := by decide +kernel
theorem d_T_following_5 : decode b_T_following 5 = .ok (.irem, 1) := by decide +kernel
theorem d_T_following_6 : decode b_T_following 6 = .ok (.ireturn, 1) := by decide +kernel
theorem d_T_distance_0 : decode b_T_distance 0 = .ok (.iload_n 1, 1) := by decide +kernel
theorem d_T_distance_1 : decode b_T_distance 1 = .ok (.iload_n 0, 1) := by decide +kernel
theorem d_T_distance_2 : decode b_T_distance 2 = .ok (.isub, 1) := by decide +kernel
theorem d_T_distance_3 : decode b_T_distance 3 = .ok (.bipush 16, 2) := by decide +kernel
theorem d_T_distance_5 : decode b_T_distance 5 = .ok (.invokestatic 217, 3) := by decide +kernel
theorem d_T_distance_8 : decode b_T_distance 8 = .ok (.ireturn, 1) := by decide +kernel
end
section
theorem d_M_init_0 : decode b_M_init 0 = .ok (.aload_n 0, 1) := by decide +kernel
theorem d_M_init_1 : decode b_M_init 1 = .ok (.invokespecial 1, 3) := by decide +kernel
theorem d_M_init_4 : decode b_M_init 4 = .ok (.aload_n 0, 1) := by decide +kernel
theorem d_M_init_5 : decode b_M_init 5 = .ok (.iconst 3, 1) := by decide +kernel
theorem d_M_init_6 : decode b_M_init 6 = .ok (.putfield 7, 3) := by decide +kernel
theorem d_M_init_9 : decode b_M_init 9 = .ok (.aload_n 0, 1) := by decide +kernel
theorem d_M_init_10 : decode b_M_init 10 = .ok (.iconst 4, 1) := by decide +kernel
theorem d_M_init_11 : decode b_M_init 11 = .ok (.putfield 13, 3) := by decide +kernel
theorem d_M_init_14 : decode b_M_init 14 = .ok (.aload_n 0, 1) := by decide +kernel
theorem d_M_init_15 : decode b_M_init 15 = .ok (.iconst 5, 1) := by decide +kernel
theorem d_M_init_16 : decode b_M_init 16 = .ok (.putfield 16, 3) := by decide +kernel
theorem d_M_init_19 : decode b_M_init 19 = .ok (.aload_n 0, 1) := by decide +kernel
theorem d_M_init_20 : decode b_M_init 20 = .ok (.iconst 4, 1) := by decide +kernel
theorem d_M_init_21 : decode b_M_init 21 = .ok (.newarray .int, 2) := by decide +kernel
theorem d_M_init_23 : decode b_M_init 23 = .ok (.putfield 19, 3) := by decide +kernel
theorem d_M_init_26 : decode b_M_init 26 = .ok (.aload_n 0, 1) := by decide +kernel
theorem d_M_init_27 : decode b_M_init 27 = .ok (.iconst 4, 1) := by decide +kernel
theorem d_M_init_28 : decode b_M_init 28 = .ok (.newarray .boolean, 2) := by decide +kernel
theorem d_M_init_30 : decode b_M_init 30 = .ok (.putfield 23, 3) := by decide +kernel
theorem d_M_init_33 : decode b_M_init 33 = .ok (.aload_n 0, 1) := by decide +kernel
theorem d_M_init_34 : decode b_M_init 34 = .ok (.bipush 20, 2) := by decide +kernel
theorem d_M_init_36 : decode b_M_init 36 = .ok (.newarray .int, 2) := by decide +kernel
theorem d_M_init_38 : decode b_M_init 38 = .ok (.putfield 27, 3) := by decide +kernel
theorem d_M_init_41 : decode b_M_init 41 = .ok (.aload_n 0, 1) := by decide +kernel
theorem d_M_init_42 : decode b_M_init 42 = .ok (.bipush 20, 2) := by decide +kernel
theorem d_M_init_44 : decode b_M_init 44 = .ok (.newarray .int, 2) := by decide +kernel
theorem d_M_init_46 : decode b_M_init 46 = .ok (.putfield 30, 3) := by decide +kernel
theorem d_M_init_49 : decode b_M_init 49 = .ok (.aload_n 0, 1) := by decide +kernel
theorem d_M_init_50 : decode b_M_init 50 = .ok (.bipush 20, 2) := by decide +kernel
theorem d_M_init_52 : decode b_M_init 52 = .ok (.newarray .int, 2) := by decide +kernel
theorem d_M_init_54 : decode b_M_init 54 = .ok (.putfield 33, 3) := by decide +kernel
theorem d_M_init_57 : decode b_M_init 57 = .ok (.aload_n 0, 1) := by decide +kernel
theorem d_M_init_58 : decode b_M_init 58 = .ok (.iconst 3, 1) := by decide +kernel
theorem d_M_init_59 : decode b_M_init 59 = .ok (.newarray .int, 2) := by decide +kernel
theorem d_M_init_61 : decode b_M_init 61 = .ok (.putfield 36, 3) := by decide +kernel
theorem d_M_init_64 : decode b_M_init 64 = .ok (.aload_n 0, 1) := by decide +kernel
theorem d_M_init_65 : decode b_M_init 65 = .ok (.bipush 20, 2) := by decide +kernel
theorem d_M_init_67 : decode b_M_init 67 = .ok (.newarray .int, 2) := by decide +kernel
theorem d_M_init_69 : decode b_M_init 69 = .ok (.putfield 39, 3) := by decide +kernel
theorem d_M_init_72 : decode b_M_init 72 = .ok (.aload_n 0, 1) := by decide +kernel
theorem d_M_init_73 : decode b_M_init 73 = .ok (.iconst 2, 1) := by decide +kernel
theorem d_M_init_74 : decode b_M_init 74 = .ok (.newarray .int, 2) := by decide +kernel
theorem d_M_init_76 : decode b_M_init 76 = .ok (.putfield 42, 3) := by decide +kernel
theorem d_M_init_79 : decode b_M_init 79 = .ok (.aload_n 0, 1) := by decide +kernel
theorem d_M_init_80 : decode b_M_init 80 = .ok (.iconst 2, 1) := by decide +kernel
theorem d_M_init_81 : decode b_M_init 81 = .ok (.newarray .int, 2) := by decide +kernel
theorem d_M_init_83 : decode b_M_init 83 = .ok (.putfield 45, 3) := by decide +kernel
theorem d_M_init_86 : decode b_M_init 86 = .ok (.aload_n 0, 1) := by decide +kernel
theorem d_M_init_87 : decode b_M_init 87 = .ok (.sipush 128, 3) := by decide +kernel
theorem d_M_init_90 : decode b_M_init 90 = .ok (.newarray .int, 2) := by decide +kernel
theorem d_M_init_92 : decode b_M_init 92 = .ok (.putfield 48, 3) := by decide +kernel
theorem d_M_init_95 : decode b_M_init 95 = .ok (.aload_n 0, 1) := by decide +kernel
theorem d_M_init_96 : decode b_M_init 96 = .ok (.iconst 2, 1) := by decide +kernel
theorem d_M_init_97 : decode b_M_init 97 = .ok (.newarray .int, 2) := by decide +kernel
theorem d_M_init_99 : decode b_M_init 99 = .ok (.putfield 51, 3) := by decide +kernel
theorem d_M_init_102 : decode b_M_init 102 = .ok (.aload_n 0, 1) := by decide +kernel
theorem d_M_init_103 : decode b_M_init 103 = .ok (.iconst 2, 1) := by decide +kernel
theorem d_M_init_104 : decode b_M_init 104 = .ok (.newarray .int, 2) := by decide +kernel
theorem d_M_init_106 : decode b_M_init 106 = .ok (.putfield 54, 3) := by decide +kernel
theorem d_M_init_109 : decode b_M_init 109 = .ok (.aload_n 0, 1) := by decide +kernel
theorem d_M_init_110 : decode b_M_init 110 = .ok (.iconst 2, 1) := by decide +kernel
theorem d_M_init_111 : decode b_M_init 111 = .ok (.newarray .boolean, 2) := by decide +kernel
theorem d_M_init_113 : decode b_M_init 113 = .ok (.putfield 57, 3) := by decide +kernel
theorem d_M_init_116 : decode b_M_init 116 = .ok (.aload_n 0, 1) := by decide +kernel
theorem d_M_init_117 : decode b_M_init 117 = .ok (.iconst 2, 1) := by decide +kernel
theorem d_M_init_118 : decode b_M_init 118 = .ok (.newarray .int, 2) := by decide +kernel
theorem d_M_init_120 : decode b_M_init 120 = .ok (.putfield 60, 3) := by decide +kernel
theorem d_M_init_123 : decode b_M_init 123 = .ok (.aload_n 0, 1) := by decide +kernel
theorem d_M_init_124 : decode b_M_init 124 = .ok (.iconst 2, 1) := by decide +kernel
theorem d_M_init_125 : decode b_M_init 125 = .ok (.newarray .int, 2) := by decide +kernel
theorem d_M_init_127 : decode b_M_init 127 = .ok (.putfield 63, 3) := by decide +kernel
theorem d_M_init_130 : decode b_M_init 130 = .ok (.aload_n 0, 1) := by decide +kernel
theorem d_M_init_131 : decode b_M_init 131 = .ok (.iconst 2, 1) := by decide +kernel
theorem d_M_init_132 : decode b_M_init 132 = .ok (.newarray .int, 2) := by decide +kernel
theorem d_M_init_134 : decode b_M_init 134 = .ok (.putfield 66, 3) := by decide +kernel
theorem d_M_init_137 : decode b_M_init 137 = .ok (.aload_n 0, 1) := by decide +kernel
theorem d_M_init_138 : decode b_M_init 138 = .ok (.iconst 2, 1) := by decide +kernel
theorem d_M_init_139 : decode b_M_init 139 = .ok (.newarray .int, 2) := by decide +kernel
theorem d_M_init_141 : decode b_M_init 141 = .ok (.putfield 69, 3) := by decide +kernel
theorem d_M_init_144 : decode b_M_init 144 = .ok (.aload_n 0, 1) := by decide +kernel
theorem d_M_init_145 : decode b_M_init 145 = .ok (.bipush 6, 2) := by decide +kernel
theorem d_M_init_147 : decode b_M_init 147 = .ok (.newarray .int, 2) := by decide +kernel
theorem d_M_init_149 : decode b_M_init 149 = .ok (.putfield 72, 3) := by decide +kernel
theorem d_M_init_152 : decode b_M_init 152 = .ok (.aload_n 0, 1) := by decide +kernel
theorem d_M_init_153 : decode b_M_init 153 = .ok (.sipush 160, 3) := by decide +kernel
theorem d_M_init_156 : decode b_M_init 156 = .ok (.newarray .int, 2) := by decide +kernel
theorem d_M_init_158 : decode b_M_init 158 = .ok (.putfield 75, 3) := by decide +kernel
theorem d_M_init_161 : decode b_M_init 161 = .ok (.return_, 1) := by decide +kernel
theorem d_M_thrown_0 : decode b_M_thrown 0 = .ok (.aload_n 0, 1) := by decide +kernel
theorem d_M_thrown_1 : decode b_M_thrown 1 = .ok (.getfield 78, 3) := by decide +kernel
theorem d_M_thrown_4 : decode b_M_thrown 4 = .ok (.ireturn, 1) := by decide +kernel
theorem d_M_outside_0 : decode b_M_outside 0 = .ok (.iload_n 0, 1) := by decide +kernel
theorem d_M_outside_1 : decode b_M_outside 1 = .ok (.iload_n 1, 1) := by decide +kernel
theorem d_M_outside_2 : decode b_M_outside 2 = .ok (.if_icmp .lt 8, 3) := by decide +kernel
theorem d_M_outside_5 : decode b_M_outside 5 = .ok (.iload_n 0, 1) := by decide +kernel
theorem d_M_outside_6 : decode b_M_outside 6 = .ok (.iload_n 2, 1) := by decide +kernel
theorem d_M_outside_7 : decode b_M_outside 7 = .ok (.if_icmp .le 7, 3) := by decide +kernel
theorem d_M_outside_10 : decode b_M_outside 10 = .ok (.iconst 1, 1) := by decide +kernel
theorem d_M_outside_11 : decode b_M_outside 11 = .ok (.goto 4, 3) := by decide +kernel
theorem d_M_outside_14 : decode b_M_outside 14 = .ok (.iconst 0, 1) := by decide +kernel
theorem d_M_outside_15 : decode b_M_outside 15 = .ok (.ireturn, 1) := by decide +kernel
theorem d_M_fails_0 : decode b_M_fails 0 = .ok (.aload_n 0, 1) := by decide +kernel
theorem d_M_fails_1 : decode b_M_fails 1 = .ok (.iload_n 1, 1) := by decide +kernel
theorem d_M_fails_2 : decode b_M_fails 2 = .ok (.ifCond .eq 7, 3) := by decide +kernel
theorem d_M_fails_5 : decode b_M_fails 5 = .ok (.iconst 1, 1) := by decide +kernel
theorem d_M_fails_6 : decode b_M_fails 6 = .ok (.goto 12, 3) := by decide +kernel
theorem d_M_fails_9 : decode b_M_fails 9 = .ok (.iload_n 2, 1) := by decide +kernel
theorem d_M_fails_10 : decode b_M_fails 10 = .ok (.ifCond .eq 7, 3) := by decide +kernel
theorem d_M_fails_13 : decode b_M_fails 13 = .ok (.iconst 2, 1) := by decide +kernel
theorem d_M_fails_14 : decode b_M_fails 14 = .ok (.goto 4, 3) := by decide +kernel
theorem d_M_fails_17 : decode b_M_fails 17 = .ok (.iconst 0, 1) := by decide +kernel
theorem d_M_fails_18 : decode b_M_fails 18 = .ok (.putfield 78, 3) := by decide +kernel
theorem d_M_fails_21 : decode b_M_fails 21 = .ok (.aload_n 0, 1) := by decide +kernel
theorem d_M_fails_22 : decode b_M_fails 22 = .ok (.getfield 78, 3) := by decide +kernel
theorem d_M_fails_25 : decode b_M_fails 25 = .ok (.ifCond .le 7, 3) := by decide +kernel
theorem d_M_fails_28 : decode b_M_fails 28 = .ok (.iconst 1, 1) := by decide +kernel
theorem d_M_fails_29 : decode b_M_fails 29 = .ok (.goto 4, 3) := by decide +kernel
theorem d_M_fails_32 : decode b_M_fails 32 = .ok (.iconst 0, 1) := by decide +kernel
theorem d_M_fails_33 : decode b_M_fails 33 = .ok (.ireturn, 1) := by decide +kernel
theorem d_M_tune_0 : decode b_M_tune 0 = .ok (.aload_n 0, 1) := by decide +kernel
theorem d_M_tune_1 : decode b_M_tune 1 = .ok (.aload_n 0, 1) := by decide +kernel
theorem d_M_tune_2 : decode b_M_tune 2 = .ok (.getfield 81, 3) := by decide +kernel
theorem d_M_tune_5 : decode b_M_tune 5 = .ok (.ifCond .eq 7, 3) := by decide +kernel
theorem d_M_tune_8 : decode b_M_tune 8 = .ok (.iconst 1, 1) := by decide +kernel
theorem d_M_tune_9 : decode b_M_tune 9 = .ok (.goto 4, 3) := by decide +kernel
theorem d_M_tune_12 : decode b_M_tune 12 = .ok (.iconst 0, 1) := by decide +kernel
theorem d_M_tune_13 : decode b_M_tune 13 = .ok (.iload_n 1, 1) := by decide +kernel
theorem d_M_tune_14 : decode b_M_tune 14 = .ok (.iconst 1, 1) := by decide +kernel
theorem d_M_tune_15 : decode b_M_tune 15 = .ok (.iconst 4, 1) := by decide +kernel
theorem d_M_tune_16 : decode b_M_tune 16 = .ok (.invokestatic 84, 3) := by decide +kernel
theorem d_M_tune_19 : decode b_M_tune 19 = .ok (.ifCond .ne 23, 3) := by decide +kernel
theorem d_M_tune_22 : decode b_M_tune 22 = .ok (.iload_n 2, 1) := by decide +kernel
theorem d_M_tune_23 : decode b_M_tune 23 = .ok (.iconst 1, 1) := by decide +kernel
theorem d_M_tune_24 : decode b_M_tune 24 = .ok (.bipush 9, 2) := by decide +kernel
theorem d_M_tune_26 : decode b_M_tune 26 = .ok (.invokestatic 84, 3) := by decide +kernel
theorem d_M_tune_29 : decode b_M_tune 29 = .ok (.ifCond .ne 13, 3) := by decide +kernel
theorem d_M_tune_32 : decode b_M_tune 32 = .ok (.iload_n 3, 1) := by decide +kernel
theorem d_M_tune_33 : decode b_M_tune 33 = .ok (.iconst 1, 1) := by decide +kernel
theorem d_M_tune_34 : decode b_M_tune 34 = .ok (.bipush 20, 2) := by decide +kernel
theorem d_M_tune_36 : decode b_M_tune 36 = .ok (.invokestatic 84, 3) := by decide +kernel
theorem d_M_tune_39 : decode b_M_tune 39 = .ok (.ifCond .eq 7, 3) := by decide +kernel
theorem d_M_tune_42 : decode b_M_tune 42 = .ok (.iconst 1, 1) := by decide +kernel
theorem d_M_tune_43 : decode b_M_tune 43 = .ok (.goto 4, 3) := by decide +kernel
theorem d_M_tune_46 : decode b_M_tune 46 = .ok (.iconst 0, 1) := by decide +kernel
theorem d_M_tune_47 : decode b_M_tune 47 = .ok (.invokevirtual 88, 3) := by decide +kernel
theorem d_M_tune_50 : decode b_M_tune 50 = .ok (.ifCond .eq 4, 3) := by decide +kernel
theorem d_M_tune_53 : decode b_M_tune 53 = .ok (.return_, 1) := by decide +kernel
theorem d_M_tune_54 : decode b_M_tune 54 = .ok (.aload_n 0, 1) := by decide +kernel
theorem d_M_tune_55 : decode b_M_tune 55 = .ok (.iload_n 1, 1) := by decide +kernel
theorem d_M_tune_56 : decode b_M_tune 56 = .ok (.putfield 7, 3) := by decide +kernel
theorem d_M_tune_59 : decode b_M_tune 59 = .ok (.aload_n 0, 1) := by decide +kernel
theorem d_M_tune_60 : decode b_M_tune 60 = .ok (.iload_n 2, 1) := by decide +kernel
theorem d_M_tune_61 : decode b_M_tune 61 = .ok (.putfield 13, 3) := by decide +kernel
theorem d_M_tune_64 : decode b_M_tune 64 = .ok (.aload_n 0, 1) := by decide +kernel
theorem d_M_tune_65 : decode b_M_tune 65 = .ok (.iload_n 3, 1) := by decide +kernel
theorem d_M_tune_66 : decode b_M_tune 66 = .ok (.putfield 16, 3) := by decide +kernel
theorem d_M_tune_69 : decode b_M_tune 69 = .ok (.return_, 1) := by decide +kernel
theorem d_M_number_0 : decode b_M_number 0 = .ok (.aload_n 0, 1) := by decide +kernel
theorem d_M_number_1 : decode b_M_number 1 = .ok (.aload_n 0, 1) := by decide +kernel
theorem d_M_number_2 : decode b_M_number 2 = .ok (.getfield 81, 3) := by decide +kernel
theorem d_M_number_5 : decode b_M_number 5 = .ok (.ifCond .eq 7, 3) := by decide +kernel
theorem d_M_number_8 : decode b_M_number 8 = .ok (.iconst 1, 1) := by decide +kernel
theorem d_M_number_9 : decode b_M_number 9 = .ok (.goto 4, 3) := by decide +kernel
theorem d_M_number_12 : decode b_M_number 12 = .ok (.iconst 0, 1) := by decide +kernel
theorem d_M_number_13 : decode b_M_number 13 = .ok (.iload_n 1, 1) := by decide +kernel
theorem d_M_number_14 : decode b_M_number 14 = .ok (.iconst 0, 1) := by decide +kernel
theorem d_M_number_15 : decode b_M_number 15 = .ok (.bipush 15, 2) := by decide +kernel
theorem d_M_number_17 : decode b_M_number 17 = .ok (.invokestatic 84, 3) := by decide +kernel
theorem d_M_number_20 : decode b_M_number 20 = .ok (.invokevirtual 88, 3) := by decide +kernel
theorem d_M_number_23 : decode b_M_number 23 = .ok (.ifCond .eq 4, 3) := by decide +kernel
theorem d_M_number_26 : decode b_M_number 26 = .ok (.return_, 1) := by decide +kernel
theorem d_M_number_27 : decode b_M_number 27 = .ok (.aload_n 0, 1) := by decide +kernel
theorem d_M_number_28 : decode b_M_number 28 = .ok (.iload_n 1, 1) := by decide +kernel
theorem d_M_number_29 : decode b_M_number 29 = .ok (.putfield 92, 3) := by decide +kernel
theorem d_M_number_32 : decode b_M_number 32 = .ok (.aload_n 0, 1) := by decide +kernel
theorem d_M_number_33 : decode b_M_number 33 = .ok (.iload_n 1, 1) := by decide +kernel
theorem d_M_number_34 : decode b_M_number 34 = .ok (.putfield 95, 3) := by decide +kernel
theorem d_M_number_37 : decode b_M_number 37 = .ok (.return_, 1) := by decide +kernel
theorem d_M_begin_0 : decode b_M_begin 0 = .ok (.aload_n 0, 1) := by decide +kernel
theorem d_M_begin_1 : decode b_M_begin 1 = .ok (.aload_n 0, 1) := by decide +kernel
theorem d_M_begin_2 : decode b_M_begin 2 = .ok (.getfield 81, 3) := by decide +kernel
theorem d_M_begin_5 : decode b_M_begin 5 = .ok (.ifCond .eq 7, 3) := by decide +kernel
theorem d_M_begin_8 : decode b_M_begin 8 = .ok (.iconst 1, 1) := by decide +kernel
theorem d_M_begin_9 : decode b_M_begin 9 = .ok (.goto 4, 3) := by decide +kernel
theorem d_M_begin_12 : decode b_M_begin 12 = .ok (.iconst 0, 1) := by decide +kernel
theorem d_M_begin_13 : decode b_M_begin 13 = .ok (.iload_n 1, 1) := by decide +kernel
theorem d_M_begin_14 : decode b_M_begin 14 = .ok (.iconst 0, 1) := by decide +kernel
theorem d_M_begin_15 : decode b_M_begin 15 = .ok (.iconst 3, 1) := by decide +kernel
theorem d_M_begin_16 : decode b_M_begin 16 = .ok (.invokestatic 84, 3) := by decide +kernel
theorem d_M_begin_19 : decode b_M_begin 19 = .ok (.invokevirtual 88, 3) := by decide +kernel
theorem d_M_begin_22 : decode b_M_begin 22 = .ok (.ifCond .eq 4, 3) := by decide +kernel
theorem d_M_begin_25 : decode b_M_begin 25 = .ok (.return_, 1) := by decide +kernel
theorem d_M_begin_26 : decode b_M_begin 26 = .ok (.aload_n 0, 1) := by decide +kernel
theorem d_M_begin_27 : decode b_M_begin 27 = .ok (.iload_n 1, 1) := by decide +kernel
theorem d_M_begin_28 : decode b_M_begin 28 = .ok (.ifCond .ne 7, 3) := by decide +kernel
theorem d_M_begin_31 : decode b_M_begin 31 = .ok (.iconst 1, 1) := by decide +kernel
theorem d_M_begin_32 : decode b_M_begin 32 = .ok (.goto 13, 3) := by decide +kernel
theorem d_M_begin_35 : decode b_M_begin 35 = .ok (.iload_n 1, 1) := by decide +kernel
theorem d_M_begin_36 : decode b_M_begin 36 = .ok (.iconst 1, 1) := by decide +kernel
theorem d_M_begin_37 : decode b_M_begin 37 = .ok (.if_icmp .ne 7, 3) := by decide +kernel
theorem d_M_begin_40 : decode b_M_begin 40 = .ok (.iconst 4, 1) := by decide +kernel
theorem d_M_begin_41 : decode b_M_begin 41 = .ok (.goto 4, 3) := by decide +kernel
theorem d_M_begin_44 : decode b_M_begin 44 = .ok (.iconst 5, 1) := by decide +kernel
theorem d_M_begin_45 : decode b_M_begin 45 = .ok (.putfield 81, 3) := by decide +kernel
theorem d_M_begin_48 : decode b_M_begin 48 = .ok (.aload_n 0, 1) := by decide +kernel
theorem d_M_begin_49 : decode b_M_begin 49 = .ok (.iload_n 1, 1) := by decide +kernel
theorem d_M_begin_50 : decode b_M_begin 50 = .ok (.iconst 1, 1) := by decide +kernel
theorem d_M_begin_51 : decode b_M_begin 51 = .ok (.if_icmp .ne 10, 3) := by decide +kernel
theorem d_M_begin_54 : decode b_M_begin 54 = .ok (.aload_n 0, 1) := by decide +kernel
theorem d_M_begin_55 : decode b_M_begin 55 = .ok (.getfield 16, 3) := by decide +kernel
theorem d_M_begin_58 : decode b_M_begin 58 = .ok (.goto 4, 3) := by decide +kernel
theorem d_M_begin_61 : decode b_M_begin 61 = .ok (.iconst 0, 1) := by decide +kernel
theorem d_M_begin_62 : decode b_M_begin 62 = .ok (.putfield 98, 3) := by decide +kernel
theorem d_M_begin_65 : decode b_M_begin 65 = .ok (.aload_n 0, 1) := by decide +kernel
theorem d_M_begin_66 : decode b_M_begin 66 = .ok (.iload_n 1, 1) := by decide +kernel
theorem d_M_begin_67 : decode b_M_begin 67 = .ok (.iconst 1, 1) := by decide +kernel
theorem d_M_begin_68 : decode b_M_begin 68 = .ok (.if_icmp .le 7, 3) := by decide +kernel
theorem d_M_begin_71 : decode b_M_begin 71 = .ok (.iconst 1, 1) := by decide +kernel
theorem d_M_begin_72 : decode b_M_begin 72 = .ok (.goto 4, 3) := by decide +kernel
theorem d_M_begin_75 : decode b_M_begin 75 = .ok (.iconst 0, 1) := by decide +kernel
theorem d_M_begin_76 : decode b_M_begin 76 = .ok (.putfield 101, 3) := by decide +kernel
theorem d_M_begin_79 : decode b_M_begin 79 = .ok (.aload_n 0, 1) := by decide +kernel
theorem d_M_begin_80 : decode b_M_begin 80 = .ok (.iload_n 1, 1) := by decide +kernel
theorem d_M_begin_81 : decode b_M_begin 81 = .ok (.iconst 1, 1) := by decide +kernel
theorem d_M_begin_82 : decode b_M_begin 82 = .ok (.isub, 1) := by decide +kernel
theorem d_M_begin_83 : decode b_M_begin 83 = .ok (.putfield 105, 3) := by decide +kernel
theorem d_M_begin_86 : decode b_M_begin 86 = .ok (.aload_n 0, 1) := by decide +kernel
theorem d_M_begin_87 : decode b_M_begin 87 = .ok (.iconst 1, 1) := by decide +kernel
theorem d_M_begin_88 : decode b_M_begin 88 = .ok (.putfield 108, 3) := by decide +kernel
theorem d_M_begin_91 : decode b_M_begin 91 = .ok (.aload_n 0, 1) := by decide +kernel
theorem d_M_begin_92 : decode b_M_begin 92 = .ok (.iconst 0, 1) := by decide +kernel
theorem d_M_begin_93 : decode b_M_begin 93 = .ok (.putfield 111, 3) := by decide +kernel
theorem d_M_begin_96 : decode b_M_begin 96 = .ok (.return_, 1) := by decide +kernel
theorem d_M_ends_0 : decode b_M_ends 0 = .ok (.aload_n 0, 1) := by decide +kernel
theorem d_M_ends_1 : decode b_M_ends 1 = .ok (.iconst 0, 1) := by decide +kernel
theorem d_M_ends_2 : decode b_M_ends 2 = .ok (.putfield 81, 3) := by decide +kernel
theorem d_M_ends_5 : decode b_M_ends 5 = .ok (.aload_n 0, 1) := by decide +kernel
theorem d_M_ends_6 : decode b_M_ends 6 = .ok (.iconst 0, 1) := by decide +kernel
theorem d_M_ends_7 : decode b_M_ends 7 = .ok (.putfield 114, 3) := by decide +kernel
theorem d_M_ends_10 : decode b_M_ends 10 = .ok (.aload_n 0, 1) := by decide +kernel
theorem d_M_ends_11 : decode b_M_ends 11 = .ok (.iconst 0, 1) := by decide +kernel
theorem d_M_ends_12 : decode b_M_ends 12 = .ok (.putfield 117, 3) := by decide +kernel
theorem d_M_ends_15 : decode b_M_ends 15 = .ok (.aload_n 0, 1) := by decide +kernel
theorem d_M_ends_16 : decode b_M_ends 16 = .ok (.aload_n 0, 1) := by decide +kernel
theorem d_M_ends_17 : decode b_M_ends 17 = .ok (.getfield 92, 3) := by decide +kernel
theorem d_M_ends_20 : decode b_M_ends 20 = .ok (.putfield 95, 3) := by decide +kernel
theorem d_M_ends_23 : decode b_M_ends 23 = .ok (.aload_n 0, 1) := by decide +kernel
theorem d_M_ends_24 : decode b_M_ends 24 = .ok (.iconst 0, 1) := by decide +kernel
theorem d_M_ends_25 : decode b_M_ends 25 = .ok (.putfield 98, 3) := by decide +kernel
theorem d_M_ends_28 : decode b_M_ends 28 = .ok (.return_, 1) := by decide +kernel
theorem d_M_alarm_0 : decode b_M_alarm 0 = .ok (.aload_n 0, 1) := by decide +kernel
theorem d_M_alarm_1 : decode b_M_alarm 1 = .ok (.iload_n 1, 1) := by decide +kernel
theorem d_M_alarm_2 : decode b_M_alarm 2 = .ok (.putfield 111, 3) := by decide +kernel
theorem d_M_alarm_5 : decode b_M_alarm 5 = .ok (.aload_n 0, 1) := by decide +kernel
theorem d_M_alarm_6 : decode b_M_alarm 6 = .ok (.invokevirtual 120, 3) := by decide +kernel
theorem d_M_alarm_9 : decode b_M_alarm 9 = .ok (.return_, 1) := by decide +kernel
theorem d_M_end_0 : decode b_M_end 0 = .ok (.aload_n 0, 1) := by decide +kernel
theorem d_M_end_1 : decode b_M_end 1 = .ok (.aload_n 0, 1) := by decide +kernel
theorem d_M_end_2 : decode b_M_end 2 = .ok (.getfield 81, 3) := by decide +kernel
theorem d_M_end_5 : decode b_M_end 5 = .ok (.ifCond .ne 7, 3) := by decide +kernel
theorem d_M_end_8 : decode b_M_end 8 = .ok (.iconst 1, 1) := by decide +kernel
theorem d_M_end_9 : decode b_M_end 9 = .ok (.goto 4, 3) := by decide +kernel
theorem d_M_end_12 : decode b_M_end 12 = .ok (.iconst 0, 1) := by decide +kernel
theorem d_M_end_13 : decode b_M_end 13 = .ok (.iconst 0, 1) := by decide +kernel
theorem d_M_end_14 : decode b_M_end 14 = .ok (.invokevirtual 88, 3) := by decide +kernel
theorem d_M_end_17 : decode b_M_end 17 = .ok (.ifCond .ne 7, 3) := by decide +kernel
theorem d_M_end_20 : decode b_M_end 20 = .ok (.aload_n 0, 1) := by decide +kernel
theorem d_M_end_21 : decode b_M_end 21 = .ok (.invokevirtual 120, 3) := by decide +kernel
theorem d_M_end_24 : decode b_M_end 24 = .ok (.return_, 1) := by decide +kernel
theorem d_M_command_0 : decode b_M_command 0 = .ok (.aload_n 0, 1) := by decide +kernel
theorem d_M_command_1 : decode b_M_command 1 = .ok (.aload_n 0, 1) := by decide +kernel
theorem d_M_command_2 : decode b_M_command 2 = .ok (.getfield 81, 3) := by decide +kernel
theorem d_M_command_5 : decode b_M_command 5 = .ok (.iconst 1, 1) := by decide +kernel
theorem d_M_command_6 : decode b_M_command 6 = .ok (.iconst 3, 1) := by decide +kernel
theorem d_M_command_7 : decode b_M_command 7 = .ok (.invokestatic 84, 3) := by decide +kernel
theorem d_M_command_10 : decode b_M_command 10 = .ok (.iconst 0, 1) := by decide +kernel
theorem d_M_command_11 : decode b_M_command 11 = .ok (.invokevirtual 88, 3) := by decide +kernel
theorem d_M_command_14 : decode b_M_command 14 = .ok (.ifCond .ne 10, 3) := by decide +kernel
theorem d_M_command_17 : decode b_M_command 17 = .ok (.aload_n 0, 1) := by decide +kernel
theorem d_M_command_18 : decode b_M_command 18 = .ok (.getfield 117, 3) := by decide +kernel
theorem d_M_command_21 : decode b_M_command 21 = .ok (.ifCond .eq 5, 3) := by decide +kernel
theorem d_M_command_24 : decode b_M_command 24 = .ok (.iconst 0, 1) := by decide +kernel
theorem d_M_command_25 : decode b_M_command 25 = .ok (.ireturn, 1) := by decide +kernel
theorem d_M_command_26 : decode b_M_command 26 = .ok (.aload_n 0, 1) := by decide +kernel
theorem d_M_command_27 : decode b_M_command 27 = .ok (.iconst 1, 1) := by decide +kernel
theorem d_M_command_28 : decode b_M_command 28 = .ok (.putfield 117, 3) := by decide +kernel
theorem d_M_command_31 : decode b_M_command 31 = .ok (.aload_n 0, 1) := by decide +kernel
theorem d_M_command_32 : decode b_M_command 32 = .ok (.iload_n 1, 1) := by decide +kernel
theorem d_M_command_33 : decode b_M_command 33 = .ok (.putfield 123, 3) := by decide +kernel
theorem d_M_command_36 : decode b_M_command 36 = .ok (.iconst 1, 1) := by decide +kernel
theorem d_M_command_37 : decode b_M_command 37 = .ok (.ireturn, 1) := by decide +kernel
theorem d_M_resend_0 : decode b_M_resend 0 = .ok (.aload_n 0, 1) := by decide +kernel
theorem d_M_resend_1 : decode b_M_resend 1 = .ok (.getfield 108, 3) := by decide +kernel
theorem d_M_resend_4 : decode b_M_resend 4 = .ok (.aload_n 0, 1) := by decide +kernel
theorem d_M_resend_5 : decode b_M_resend 5 = .ok (.getfield 13, 3) := by decide +kernel
theorem d_M_resend_8 : decode b_M_resend 8 = .ok (.if_icmp .lt 9, 3) := by decide +kernel
theorem d_M_resend_11 : decode b_M_resend 11 = .ok (.aload_n 0, 1) := by decide +kernel
theorem d_M_resend_12 : decode b_M_resend 12 = .ok (.iconst 1, 1) := by decide +kernel
theorem d_M_resend_13 : decode b_M_resend 13 = .ok (.invokevirtual 126, 3) := by decide +kernel
theorem d_M_resend_16 : decode b_M_resend 16 = .ok (.return_, 1) := by decide +kernel
theorem d_M_resend_17 : decode b_M_resend 17 = .ok (.aload_n 0, 1) := by decide +kernel
theorem d_M_resend_18 : decode b_M_resend 18 = .ok (.dup, 1) := by decide +kernel
theorem d_M_resend_19 : decode b_M_resend 19 = .ok (.getfield 108, 3) := by decide +kernel
theorem d_M_resend_22 : decode b_M_resend 22 = .ok (.iconst 1, 1) := by decide +kernel
theorem d_M_resend_23 : decode b_M_resend 23 = .ok (.iadd, 1) := by decide +kernel
theorem d_M_resend_24 : decode b_M_resend 24 = .ok (.putfield 108, 3) := by decide +kernel
theorem d_M_resend_27 : decode b_M_resend 27 = .ok (.aload_n 0, 1) := by decide +kernel
theorem d_M_resend_28 : decode b_M_resend 28 = .ok (.iload_n 1, 1) := by decide +kernel
theorem d_M_resend_29 : decode b_M_resend 29 = .ok (.putfield 81, 3) := by decide +kernel
theorem d_M_resend_32 : decode b_M_resend 32 = .ok (.iconst 0, 1) := by decide +kernel
theorem d_M_resend_33 : decode b_M_resend 33 = .ok (.istore_n 2, 1) := by decide +kernel
theorem d_M_resend_34 : decode b_M_resend 34 = .ok (.iload_n 2, 1) := by decide +kernel
theorem d_M_resend_35 : decode b_M_resend 35 = .ok (.aload_n 0, 1) := by decide +kernel
theorem d_M_resend_36 : decode b_M_resend 36 = .ok (.getfield 114, 3) := by decide +kernel
theorem d_M_resend_39 : decode b_M_resend 39 = .ok (.if_icmp .ge 16, 3) := by decide +kernel
theorem d_M_resend_42 : decode b_M_resend 42 = .ok (.aload_n 0, 1) := by decide +kernel
theorem d_M_resend_43 : decode b_M_resend 43 = .ok (.getfield 23, 3) := by decide +kernel
theorem d_M_resend_46 : decode b_M_resend 46 = .ok (.iload_n 2, 1) := by decide +kernel
theorem d_M_resend_47 : decode b_M_resend 47 = .ok (.iconst 1, 1) := by decide +kernel
theorem d_M_resend_48 : decode b_M_resend 48 = .ok (.bastore, 1) := by decide +kernel
theorem d_M_resend_49 : decode b_M_resend 49 = .ok (.iinc 2 1, 3) := by decide +kernel
theorem d_M_resend_52 : decode b_M_resend 52 = .ok (.goto (-18), 3) := by decide +kernel
theorem d_M_resend_55 : decode b_M_resend 55 = .ok (.return_, 1) := by decide +kernel
theorem d_M_sends_0 : decode b_M_sends 0 = .ok (.aload_n 0, 1) := by decide +kernel
theorem d_M_sends_1 : decode b_M_sends 1 = .ok (.aload_n 0, 1) := by decide +kernel
theorem d_M_sends_2 : decode b_M_sends 2 = .ok (.getfield 16, 3) := by decide +kernel
theorem d_M_sends_5 : decode b_M_sends 5 = .ok (.putfield 98, 3) := by decide +kernel
theorem d_M_sends_8 : decode b_M_sends 8 = .ok (.aload_n 0, 1) := by decide +kernel
theorem d_M_sends_9 : decode b_M_sends 9 = .ok (.getfield 130, 3) := by decide +kernel
theorem d_M_sends_12 : decode b_M_sends 12 = .ok (.bipush 20, 2) := by decide +kernel
theorem d_M_sends_14 : decode b_M_sends 14 = .ok (.if_icmp .ge 43, 3) := by decide +kernel
theorem d_M_sends_17 : decode b_M_sends 17 = .ok (.aload_n 0, 1) := by decide +kernel
theorem d_M_sends_18 : decode b_M_sends 18 = .ok (.getfield 27, 3) := by decide +kernel
theorem d_M_sends_21 : decode b_M_sends 21 = .ok (.aload_n 0, 1) := by decide +kernel
theorem d_M_sends_22 : decode b_M_sends 22 = .ok (.getfield 130, 3) := by decide +kernel
theorem d_M_sends_25 : decode b_M_sends 25 = .ok (.iload_n 1, 1) := by decide +kernel
theorem d_M_sends_26 : decode b_M_sends 26 = .ok (.iastore, 1) := by decide +kernel
theorem d_M_sends_27 : decode b_M_sends 27 = .ok (.aload_n 0, 1) := by decide +kernel
theorem d_M_sends_28 : decode b_M_sends 28 = .ok (.getfield 30, 3) := by decide +kernel
theorem d_M_sends_31 : decode b_M_sends 31 = .ok (.aload_n 0, 1) := by decide +kernel
theorem d_M_sends_32 : decode b_M_sends 32 = .ok (.getfield 130, 3) := by decide +kernel
theorem d_M_sends_35 : decode b_M_sends 35 = .ok (.iload_n 2, 1) := by decide +kernel
theorem d_M_sends_36 : decode b_M_sends 36 = .ok (.iastore, 1) := by decide +kernel
theorem d_M_sends_37 : decode b_M_sends 37 = .ok (.aload_n 0, 1) := by decide +kernel
theorem d_M_sends_38 : decode b_M_sends 38 = .ok (.getfield 33, 3) := by decide +kernel
theorem d_M_sends_41 : decode b_M_sends 41 = .ok (.aload_n 0, 1) := by decide +kernel
theorem d_M_sends_42 : decode b_M_sends 42 = .ok (.getfield 130, 3) := by decide +kernel
theorem d_M_sends_45 : decode b_M_sends 45 = .ok (.iload_n 3, 1) := by decide +kernel
theorem d_M_sends_46 : decode b_M_sends 46 = .ok (.iastore, 1) := by decide +kernel
theorem d_M_sends_47 : decode b_M_sends 47 = .ok (.aload_n 0, 1) := by decide +kernel
theorem d_M_sends_48 : decode b_M_sends 48 = .ok (.dup, 1) := by decide +kernel
theorem d_M_sends_49 : decode b_M_sends 49 = .ok (.getfield 130, 3) := by decide +kernel
theorem d_M_sends_52 : decode b_M_sends 52 = .ok (.iconst 1, 1) := by decide +kernel
theorem d_M_sends_53 : decode b_M_sends 53 = .ok (.iadd, 1) := by decide +kernel
theorem d_M_sends_54 : decode b_M_sends 54 = .ok (.putfield 130, 3) := by decide +kernel
theorem d_M_sends_57 : decode b_M_sends 57 = .ok (.iload_n 1, 1) := by decide +kernel
theorem d_M_sends_58 : decode b_M_sends 58 = .ok (.ireturn, 1) := by decide +kernel
theorem d_M_rings_0 : decode b_M_rings 0 = .ok (.aload_n 0, 1) := by decide +kernel
theorem d_M_rings_1 : decode b_M_rings 1 = .ok (.getfield 108, 3) := by decide +kernel
theorem d_M_rings_4 : decode b_M_rings 4 = .ok (.aload_n 0, 1) := by decide +kernel
theorem d_M_rings_5 : decode b_M_rings 5 = .ok (.getfield 13, 3) := by decide +kernel
theorem d_M_rings_8 : decode b_M_rings 8 = .ok (.if_icmp .ge 7, 3) := by decide +kernel
theorem d_M_rings_11 : decode b_M_rings 11 = .ok (.iconst 1, 1) := by decide +kernel
theorem d_M_rings_12 : decode b_M_rings 12 = .ok (.goto 4, 3) := by decide +kernel
theorem d_M_rings_15 : decode b_M_rings 15 = .ok (.iconst 0, 1) := by decide +kernel
theorem d_M_rings_16 : decode b_M_rings 16 = .ok (.istore_n 1, 1) := by decide +kernel
theorem d_M_rings_17 : decode b_M_rings 17 = .ok (.aload_n 0, 1) := by decide +kernel
theorem d_M_rings_18 : decode b_M_rings 18 = .ok (.getfield 81, 3) := by decide +kernel
theorem d_M_rings_21 : decode b_M_rings 21 = .ok (.iconst 4, 1) := by decide +kernel
theorem d_M_rings_22 : decode b_M_rings 22 = .ok (.if_icmp .eq 14, 3) := by decide +kernel
theorem d_M_rings_25 : decode b_M_rings 25 = .ok (.aload_n 0, 1) := by decide +kernel
theorem d_M_rings_26 : decode b_M_rings 26 = .ok (.getfield 81, 3) := by decide +kernel
theorem d_M_rings_29 : decode b_M_rings 29 = .ok (.ifCond .le 15, 3) := by decide +kernel
theorem d_M_rings_32 : decode b_M_rings 32 = .ok (.iload_n 1, 1) := by decide +kernel
theorem d_M_rings_33 : decode b_M_rings 33 = .ok (.ifCond .ne 11, 3) := by decide +kernel
theorem d_M_rings_36 : decode b_M_rings 36 = .ok (.aload_n 0, 1) := by decide +kernel
theorem d_M_rings_37 : decode b_M_rings 37 = .ok (.iconst 5, 1) := by decide +kernel
theorem d_M_rings_38 : decode b_M_rings 38 = .ok (.invokevirtual 126, 3) := by decide +kernel
theorem d_M_rings_41 : decode b_M_rings 41 = .ok (.goto 53, 3) := by decide +kernel
theorem d_M_rings_44 : decode b_M_rings 44 = .ok (.aload_n 0, 1) := by decide +kernel
theorem d_M_rings_45 : decode b_M_rings 45 = .ok (.getfield 81, 3) := by decide +kernel
theorem d_M_rings_48 : decode b_M_rings 48 = .ok (.iconst 1, 1) := by decide +kernel
theorem d_M_rings_49 : decode b_M_rings 49 = .ok (.if_icmp .eq 11, 3) := by decide +kernel
theorem d_M_rings_52 : decode b_M_rings 52 = .ok (.aload_n 0, 1) := by decide +kernel
theorem d_M_rings_53 : decode b_M_rings 53 = .ok (.getfield 81, 3) := by decide +kernel
theorem d_M_rings_56 : decode b_M_rings 56 = .ok (.iconst 2, 1) := by decide +kernel
theorem d_M_rings_57 : decode b_M_rings 57 = .ok (.if_icmp .ne 14, 3) := by decide +kernel
theorem d_M_rings_60 : decode b_M_rings 60 = .ok (.aload_n 0, 1) := by decide +kernel
theorem d_M_rings_61 : decode b_M_rings 61 = .ok (.aload_n 0, 1) := by decide +kernel
theorem d_M_rings_62 : decode b_M_rings 62 = .ok (.getfield 81, 3) := by decide +kernel
theorem d_M_rings_65 : decode b_M_rings 65 = .ok (.invokevirtual 133, 3) := by decide +kernel
theorem d_M_rings_68 : decode b_M_rings 68 = .ok (.goto 26, 3) := by decide +kernel
theorem d_M_rings_71 : decode b_M_rings 71 = .ok (.aload_n 0, 1) := by decide +kernel
theorem d_M_rings_72 : decode b_M_rings 72 = .ok (.getfield 81, 3) := by decide +kernel
theorem d_M_rings_75 : decode b_M_rings 75 = .ok (.iconst 5, 1) := by decide +kernel
theorem d_M_rings_76 : decode b_M_rings 76 = .ok (.if_icmp .ne 18, 3) := by decide +kernel
theorem d_M_rings_79 : decode b_M_rings 79 = .ok (.aload_n 0, 1) := by decide +kernel
theorem d_M_rings_80 : decode b_M_rings 80 = .ok (.dup, 1) := by decide +kernel
theorem d_M_rings_81 : decode b_M_rings 81 = .ok (.getfield 108, 3) := by decide +kernel
theorem d_M_rings_84 : decode b_M_rings 84 = .ok (.iconst 1, 1) := by decide +kernel
theorem d_M_rings_85 : decode b_M_rings 85 = .ok (.iadd, 1) := by decide +kernel
theorem d_M_rings_86 : decode b_M_rings 86 = .ok (.putfield 108, 3) := by decide +kernel
theorem d_M_rings_89 : decode b_M_rings 89 = .ok (.aload_n 0, 1) := by decide +kernel
theorem d_M_rings_90 : decode b_M_rings 90 = .ok (.iconst 1, 1) := by decide +kernel
theorem d_M_rings_91 : decode b_M_rings 91 = .ok (.putfield 101, 3) := by decide +kernel
theorem d_M_rings_94 : decode b_M_rings 94 = .ok (.return_, 1) := by decide +kernel
theorem d_M_tick_0 : decode b_M_tick 0 = .ok (.aload_n 0, 1) := by decide +kernel
theorem d_M_tick_1 : decode b_M_tick 1 = .ok (.iconst 0, 1) := by decide +kernel
theorem d_M_tick_2 : decode b_M_tick 2 = .ok (.putfield 78, 3) := by decide +kernel
theorem d_M_tick_5 : decode b_M_tick 5 = .ok (.aload_n 0, 1) := by decide +kernel
theorem d_M_tick_6 : decode b_M_tick 6 = .ok (.getfield 98, 3) := by decide +kernel
theorem d_M_tick_9 : decode b_M_tick 9 = .ok (.ifCond .le 24, 3) := by decide +kernel
theorem d_M_tick_12 : decode b_M_tick 12 = .ok (.aload_n 0, 1) := by decide +kernel
theorem d_M_tick_13 : decode b_M_tick 13 = .ok (.dup, 1) := by decide +kernel
theorem d_M_tick_14 : decode b_M_tick 14 = .ok (.getfield 98, 3) := by decide +kernel
theorem d_M_tick_17 : decode b_M_tick 17 = .ok (.iconst 1, 1) := by decide +kernel
theorem d_M_tick_18 : decode b_M_tick 18 = .ok (.isub, 1) := by decide +kernel
theorem d_M_tick_19 : decode b_M_tick 19 = .ok (.putfield 98, 3) := by decide +kernel
theorem d_M_tick_22 : decode b_M_tick 22 = .ok (.aload_n 0, 1) := by decide +kernel
theorem d_M_tick_23 : decode b_M_tick 23 = .ok (.getfield 98, 3) := by decide +kernel
theorem d_M_tick_26 : decode b_M_tick 26 = .ok (.ifCond .ne 7, 3) := by decide +kernel
theorem d_M_tick_29 : decode b_M_tick 29 = .ok (.aload_n 0, 1) := by decide +kernel
theorem d_M_tick_30 : decode b_M_tick 30 = .ok (.invokevirtual 136, 3) := by decide +kernel
theorem d_M_tick_33 : decode b_M_tick 33 = .ok (.aload_n 0, 1) := by decide +kernel
theorem d_M_tick_34 : decode b_M_tick 34 = .ok (.getfield 81, 3) := by decide +kernel
theorem d_M_tick_37 : decode b_M_tick 37 = .ok (.iconst 5, 1) := by decide +kernel
theorem d_M_tick_38 : decode b_M_tick 38 = .ok (.if_icmp .ne 41, 3) := by decide +kernel
theorem d_M_tick_41 : decode b_M_tick 41 = .ok (.aload_n 0, 1) := by decide +kernel
theorem d_M_tick_42 : decode b_M_tick 42 = .ok (.getfield 101, 3) := by decide +kernel
theorem d_M_tick_45 : decode b_M_tick 45 = .ok (.ifCond .eq 34, 3) := by decide +kernel
theorem d_M_tick_48 : decode b_M_tick 48 = .ok (.aload_n 0, 1) := by decide +kernel
theorem d_M_tick_49 : decode b_M_tick 49 = .ok (.iconst 0, 1) := by decide +kernel
theorem d_M_tick_50 : decode b_M_tick 50 = .ok (.putfield 101, 3) := by decide +kernel
theorem d_M_tick_53 : decode b_M_tick 53 = .ok (.aload_n 0, 1) := by decide +kernel
theorem d_M_tick_54 : decode b_M_tick 54 = .ok (.aload_n 0, 1) := by decide +kernel
theorem d_M_tick_55 : decode b_M_tick 55 = .ok (.getfield 105, 3) := by decide +kernel
theorem d_M_tick_58 : decode b_M_tick 58 = .ok (.aload_n 0, 1) := by decide +kernel
theorem d_M_tick_59 : decode b_M_tick 59 = .ok (.getfield 105, 3) := by decide +kernel
theorem d_M_tick_62 : decode b_M_tick 62 = .ok (.iconst 2, 1) := by decide +kernel
theorem d_M_tick_63 : decode b_M_tick 63 = .ok (.if_icmp .ne 10, 3) := by decide +kernel
theorem d_M_tick_66 : decode b_M_tick 66 = .ok (.aload_n 0, 1) := by decide +kernel
theorem d_M_tick_67 : decode b_M_tick 67 = .ok (.getfield 92, 3) := by decide +kernel
theorem d_M_tick_70 : decode b_M_tick 70 = .ok (.goto 4, 3) := by decide +kernel
theorem d_M_tick_73 : decode b_M_tick 73 = .ok (.iconst 0, 1) := by decide +kernel
theorem d_M_tick_74 : decode b_M_tick 74 = .ok (.iconst 0, 1) := by decide +kernel
theorem d_M_tick_75 : decode b_M_tick 75 = .ok (.invokevirtual 139, 3) := by decide +kernel
theorem d_M_tick_78 : decode b_M_tick 78 = .ok (.ireturn, 1) := by decide +kernel
theorem d_M_tick_79 : decode b_M_tick 79 = .ok (.aload_n 0, 1) := by decide +kernel
theorem d_M_tick_80 : decode b_M_tick 80 = .ok (.getfield 81, 3) := by decide +kernel
theorem d_M_tick_83 : decode b_M_tick 83 = .ok (.iconst 1, 1) := by decide +kernel
theorem d_M_tick_84 : decode b_M_tick 84 = .ok (.if_icmp .eq 13, 3) := by decide +kernel
theorem d_M_tick_87 : decode b_M_tick 87 = .ok (.aload_n 0, 1) := by decide +kernel
theorem d_M_tick_88 : decode b_M_tick 88 = .ok (.getfield 81, 3) := by decide +kernel
theorem d_M_tick_91 : decode b_M_tick 91 = .ok (.iconst 2, 1) := by decide +kernel
theorem d_M_tick_92 : decode b_M_tick 92 = .ok (.if_icmp .eq 5, 3) := by decide +kernel
theorem d_M_tick_95 : decode b_M_tick 95 = .ok (.iconst (-1), 1) := by decide +kernel
theorem d_M_tick_96 : decode b_M_tick 96 = .ok (.ireturn, 1) := by decide +kernel
theorem d_M_tick_97 : decode b_M_tick 97 = .ok (.iconst 0, 1) := by decide +kernel
theorem d_M_tick_98 : decode b_M_tick 98 = .ok (.istore_n 1, 1) := by decide +kernel
theorem d_M_tick_99 : decode b_M_tick 99 = .ok (.iload_n 1, 1) := by decide +kernel
theorem d_M_tick_100 : decode b_M_tick 100 = .ok (.aload_n 0, 1) := by decide +kernel
theorem d_M_tick_101 : decode b_M_tick 101 = .ok (.getfield 114, 3) := by decide +kernel
theorem d_M_tick_104 : decode b_M_tick 104 = .ok (.if_icmp .ge 46, 3) := by decide +kernel
theorem d_M_tick_107 : decode b_M_tick 107 = .ok (.aload_n 0, 1) := by decide +kernel
theorem d_M_tick_108 : decode b_M_tick 108 = .ok (.getfield 23, 3) := by decide +kernel
theorem d_M_tick_111 : decode b_M_tick 111 = .ok (.iload_n 1, 1) := by decide +kernel
theorem d_M_tick_112 : decode b_M_tick 112 = .ok (.baload, 1) := by decide +kernel
theorem d_M_tick_113 : decode b_M_tick 113 = .ok (.ifCond .eq 31, 3) := by decide +kernel
theorem d_M_tick_116 : decode b_M_tick 116 = .ok (.aload_n 0, 1) := by decide +kernel
theorem d_M_tick_117 : decode b_M_tick 117 = .ok (.getfield 23, 3) := by decide +kernel
theorem d_M_tick_120 : decode b_M_tick 120 = .ok (.iload_n 1, 1) := by decide +kernel
theorem d_M_tick_121 : decode b_M_tick 121 = .ok (.iconst 0, 1) := by decide +kernel
theorem d_M_tick_122 : decode b_M_tick 122 = .ok (.bastore, 1) := by decide +kernel
theorem d_M_tick_123 : decode b_M_tick 123 = .ok (.aload_n 0, 1) := by decide +kernel
theorem d_M_tick_124 : decode b_M_tick 124 = .ok (.iconst 0, 1) := by decide +kernel
theorem d_M_tick_125 : decode b_M_tick 125 = .ok (.aload_n 0, 1) := by decide +kernel
theorem d_M_tick_126 : decode b_M_tick 126 = .ok (.getfield 95, 3) := by decide +kernel
theorem d_M_tick_129 : decode b_M_tick 129 = .ok (.iload_n 1, 1) := by decide +kernel
theorem d_M_tick_130 : decode b_M_tick 130 = .ok (.iadd, 1) := by decide +kernel
theorem d_M_tick_131 : decode b_M_tick 131 = .ok (.bipush 16, 2) := by decide +kernel
theorem d_M_tick_133 : decode b_M_tick 133 = .ok (.irem, 1) := by decide +kernel
theorem d_M_tick_134 : decode b_M_tick 134 = .ok (.aload_n 0, 1) := by decide +kernel
theorem d_M_tick_135 : decode b_M_tick 135 = .ok (.getfield 19, 3) := by decide +kernel
theorem d_M_tick_138 : decode b_M_tick 138 = .ok (.iload_n 1, 1) := by decide +kernel
theorem d_M_tick_139 : decode b_M_tick 139 = .ok (.iaload, 1) := by decide +kernel
theorem d_M_tick_140 : decode b_M_tick 140 = .ok (.invokevirtual 139, 3) := by decide +kernel
theorem d_M_tick_143 : decode b_M_tick 143 = .ok (.ireturn, 1) := by decide +kernel
theorem d_M_tick_144 : decode b_M_tick 144 = .ok (.iinc 1 1, 3) := by decide +kernel
theorem d_M_tick_147 : decode b_M_tick 147 = .ok (.goto (-48), 3) := by decide +kernel
theorem d_M_tick_150 : decode b_M_tick 150 = .ok (.aload_n 0, 1) := by decide +kernel
theorem d_M_tick_151 : decode b_M_tick 151 = .ok (.getfield 117, 3) := by decide +kernel
theorem d_M_tick_154 : decode b_M_tick 154 = .ok (.ifCond .eq 14, 3) := by decide +kernel
theorem d_M_tick_157 : decode b_M_tick 157 = .ok (.aload_n 0, 1) := by decide +kernel
theorem d_M_tick_158 : decode b_M_tick 158 = .ok (.getfield 114, 3) := by decide +kernel
theorem d_M_tick_161 : decode b_M_tick 161 = .ok (.aload_n 0, 1) := by decide +kernel
theorem d_M_tick_162 : decode b_M_tick 162 = .ok (.getfield 7, 3) := by decide +kernel
theorem d_M_tick_165 : decode b_M_tick 165 = .ok (.if_icmp .lt 5, 3) := by decide +kernel
theorem d_M_tick_168 : decode b_M_tick 168 = .ok (.iconst (-1), 1) := by decide +kernel
theorem d_M_tick_169 : decode b_M_tick 169 = .ok (.ireturn, 1) := by decide +kernel
theorem d_M_tick_170 : decode b_M_tick 170 = .ok (.aload_n 0, 1) := by decide +kernel
theorem d_M_tick_171 : decode b_M_tick 171 = .ok (.getfield 19, 3) := by decide +kernel
theorem d_M_tick_174 : decode b_M_tick 174 = .ok (.aload_n 0, 1) := by decide +kernel
theorem d_M_tick_175 : decode b_M_tick 175 = .ok (.getfield 114, 3) := by decide +kernel
theorem d_M_tick_178 : decode b_M_tick 178 = .ok (.aload_n 0, 1) := by decide +kernel
theorem d_M_tick_179 : decode b_M_tick 179 = .ok (.getfield 123, 3) := by decide +kernel
theorem d_M_tick_182 : decode b_M_tick 182 = .ok (.iastore, 1) := by decide +kernel
theorem d_M_tick_183 : decode b_M_tick 183 = .ok (.aload_n 0, 1) := by decide +kernel
theorem d_M_tick_184 : decode b_M_tick 184 = .ok (.getfield 23, 3) := by decide +kernel
theorem d_M_tick_187 : decode b_M_tick 187 = .ok (.aload_n 0, 1) := by decide +kernel
theorem d_M_tick_188 : decode b_M_tick 188 = .ok (.getfield 114, 3) := by decide +kernel
theorem d_M_tick_191 : decode b_M_tick 191 = .ok (.iconst 0, 1) := by decide +kernel
theorem d_M_tick_192 : decode b_M_tick 192 = .ok (.bastore, 1) := by decide +kernel
theorem d_M_tick_193 : decode b_M_tick 193 = .ok (.aload_n 0, 1) := by decide +kernel
theorem d_M_tick_194 : decode b_M_tick 194 = .ok (.dup, 1) := by decide +kernel
theorem d_M_tick_195 : decode b_M_tick 195 = .ok (.getfield 114, 3) := by decide +kernel
theorem d_M_tick_198 : decode b_M_tick 198 = .ok (.iconst 1, 1) := by decide +kernel
theorem d_M_tick_199 : decode b_M_tick 199 = .ok (.iadd, 1) := by decide +kernel
theorem d_M_tick_200 : decode b_M_tick 200 = .ok (.putfield 114, 3) := by decide +kernel
theorem d_M_tick_203 : decode b_M_tick 203 = .ok (.aload_n 0, 1) := by decide +kernel
theorem d_M_tick_204 : decode b_M_tick 204 = .ok (.iconst 0, 1) := by decide +kernel
theorem d_M_tick_205 : decode b_M_tick 205 = .ok (.putfield 117, 3) := by decide +kernel
theorem d_M_tick_208 : decode b_M_tick 208 = .ok (.aload_n 0, 1) := by decide +kernel
theorem d_M_tick_209 : decode b_M_tick 209 = .ok (.aload_n 0, 1) := by decide +kernel
theorem d_M_tick_210 : decode b_M_tick 210 = .ok (.getfield 114, 3) := by decide +kernel
theorem d_M_tick_213 : decode b_M_tick 213 = .ok (.iconst 1, 1) := by decide +kernel
theorem d_M_tick_214 : decode b_M_tick 214 = .ok (.if_icmp .ne 7, 3) := by decide +kernel
theorem d_M_tick_217 : decode b_M_tick 217 = .ok (.iconst 1, 1) := by decide +kernel
theorem d_M_tick_218 : decode b_M_tick 218 = .ok (.goto 7, 3) := by decide +kernel
theorem d_M_tick_221 : decode b_M_tick 221 = .ok (.aload_n 0, 1) := by decide +kernel
theorem d_M_tick_222 : decode b_M_tick 222 = .ok (.getfield 108, 3) := by decide +kernel
theorem d_M_tick_225 : decode b_M_tick 225 = .ok (.putfield 108, 3) := by decide +kernel
theorem d_M_tick_228 : decode b_M_tick 228 = .ok (.aload_n 0, 1) := by decide +kernel
theorem d_M_tick_229 : decode b_M_tick 229 = .ok (.aload_n 0, 1) := by decide +kernel
theorem d_M_tick_230 : decode b_M_tick 230 = .ok (.getfield 92, 3) := by decide +kernel
theorem d_M_tick_233 : decode b_M_tick 233 = .ok (.iconst 1, 1) := by decide +kernel
theorem d_M_tick_234 : decode b_M_tick 234 = .ok (.iadd, 1) := by decide +kernel
theorem d_M_tick_235 : decode b_M_tick 235 = .ok (.bipush 16, 2) := by decide +kernel
theorem d_M_tick_237 : decode b_M_tick 237 = .ok (.irem, 1) := by decide +kernel
theorem d_M_tick_238 : decode b_M_tick 238 = .ok (.putfield 92, 3) := by decide +kernel
theorem d_M_tick_241 : decode b_M_tick 241 = .ok (.aload_n 0, 1) := by decide +kernel
theorem d_M_tick_242 : decode b_M_tick 242 = .ok (.iconst 0, 1) := by decide +kernel
theorem d_M_tick_243 : decode b_M_tick 243 = .ok (.aload_n 0, 1) := by decide +kernel
theorem d_M_tick_244 : decode b_M_tick 244 = .ok (.getfield 92, 3) := by decide +kernel
theorem d_M_tick_247 : decode b_M_tick 247 = .ok (.bipush 15, 2) := by decide +kernel
theorem d_M_tick_249 : decode b_M_tick 249 = .ok (.iadd, 1) := by decide +kernel
theorem d_M_tick_250 : decode b_M_tick 250 = .ok (.bipush 16, 2) := by decide +kernel
theorem d_M_tick_252 : decode b_M_tick 252 = .ok (.irem, 1) := by decide +kernel
theorem d_M_tick_253 : decode b_M_tick 253 = .ok (.aload_n 0, 1) := by decide +kernel
theorem d_M_tick_254 : decode b_M_tick 254 = .ok (.getfield 123, 3) := by decide +kernel
theorem d_M_tick_257 : decode b_M_tick 257 = .ok (.invokevirtual 139, 3) := by decide +kernel
theorem d_M_tick_260 : decode b_M_tick 260 = .ok (.ireturn, 1) := by decide +kernel
theorem d_M_out_0 : decode b_M_out 0 = .ok (.iload_n 1, 1) := by decide +kernel
theorem d_M_out_1 : decode b_M_out 1 = .ok (.istore_n 2, 1) := by decide +kernel
theorem d_M_out_2 : decode b_M_out 2 = .ok (.iload_n 2, 1) := by decide +kernel
theorem d_M_out_3 : decode b_M_out 3 = .ok (.iconst 1, 1) := by decide +kernel
theorem d_M_out_4 : decode b_M_out 4 = .ok (.iadd, 1) := by decide +kernel
theorem d_M_out_5 : decode b_M_out 5 = .ok (.aload_n 0, 1) := by decide +kernel
theorem d_M_out_6 : decode b_M_out 6 = .ok (.getfield 130, 3) := by decide +kernel
theorem d_M_out_9 : decode b_M_out 9 = .ok (.if_icmp .ge 51, 3) := by decide +kernel
theorem d_M_out_12 : decode b_M_out 12 = .ok (.aload_n 0, 1) := by decide +kernel
theorem d_M_out_13 : decode b_M_out 13 = .ok (.getfield 27, 3) := by decide +kernel
theorem d_M_out_16 : decode b_M_out 16 = .ok (.iload_n 2, 1) := by decide +kernel
theorem d_M_out_17 : decode b_M_out 17 = .ok (.aload_n 0, 1) := by decide +kernel
theorem d_M_out_18 : decode b_M_out 18 = .ok (.getfield 27, 3) := by decide +kernel
theorem d_M_out_21 : decode b_M_out 21 = .ok (.iload_n 2, 1) := by decide +kernel
theorem d_M_out_22 : decode b_M_out 22 = .ok (.iconst 1, 1) := by decide +kernel
theorem d_M_out_23 : decode b_M_out 23 = .ok (.iadd, 1) := by decide +kernel
theorem d_M_out_24 : decode b_M_out 24 = .ok (.iaload, 1) := by decide +kernel
theorem d_M_out_25 : decode b_M_out 25 = .ok (.iastore, 1) := by decide +kernel
theorem d_M_out_26 : decode b_M_out 26 = .ok (.aload_n 0, 1) := by decide +kernel
theorem d_M_out_27 : decode b_M_out 27 = .ok (.getfield 30, 3) := by decide +kernel
theorem d_M_out_30 : decode b_M_out 30 = .ok (.iload_n 2, 1) := by decide +kernel
theorem d_M_out_31 : decode b_M_out 31 = .ok (.aload_n 0, 1) := by decide +kernel
theorem d_M_out_32 : decode b_M_out 32 = .ok (.getfield 30, 3) := by decide +kernel
theorem d_M_out_35 : decode b_M_out 35 = .ok (.iload_n 2, 1) := by decide +kernel
theorem d_M_out_36 : decode b_M_out 36 = .ok (.iconst 1, 1) := by decide +kernel
theorem d_M_out_37 : decode b_M_out 37 = .ok (.iadd, 1) := by decide +kernel
theorem d_M_out_38 : decode b_M_out 38 = .ok (.iaload, 1) := by decide +kernel
theorem d_M_out_39 : decode b_M_out 39 = .ok (.iastore, 1) := by decide +kernel
theorem d_M_out_40 : decode b_M_out 40 = .ok (.aload_n 0, 1) := by decide +kernel
theorem d_M_out_41 : decode b_M_out 41 = .ok (.getfield 33, 3) := by decide +kernel
theorem d_M_out_44 : decode b_M_out 44 = .ok (.iload_n 2, 1) := by decide +kernel
theorem d_M_out_45 : decode b_M_out 45 = .ok (.aload_n 0, 1) := by decide +kernel
theorem d_M_out_46 : decode b_M_out 46 = .ok (.getfield 33, 3) := by decide +kernel
theorem d_M_out_49 : decode b_M_out 49 = .ok (.iload_n 2, 1) := by decide +kernel
theorem d_M_out_50 : decode b_M_out 50 = .ok (.iconst 1, 1) := by decide +kernel
theorem d_M_out_51 : decode b_M_out 51 = .ok (.iadd, 1) := by decide +kernel
theorem d_M_out_52 : decode b_M_out 52 = .ok (.iaload, 1) := by decide +kernel
theorem d_M_out_53 : decode b_M_out 53 = .ok (.iastore, 1) := by decide +kernel
theorem d_M_out_54 : decode b_M_out 54 = .ok (.iinc 2 1, 3) := by decide +kernel
theorem d_M_out_57 : decode b_M_out 57 = .ok (.goto (-55), 3) := by decide +kernel
theorem d_M_out_60 : decode b_M_out 60 = .ok (.aload_n 0, 1) := by decide +kernel
theorem d_M_out_61 : decode b_M_out 61 = .ok (.dup, 1) := by decide +kernel
theorem d_M_out_62 : decode b_M_out 62 = .ok (.getfield 130, 3) := by decide +kernel
theorem d_M_out_65 : decode b_M_out 65 = .ok (.iconst 1, 1) := by decide +kernel
theorem d_M_out_66 : decode b_M_out 66 = .ok (.isub, 1) := by decide +kernel
theorem d_M_out_67 : decode b_M_out 67 = .ok (.putfield 130, 3) := by decide +kernel
theorem d_M_out_70 : decode b_M_out 70 = .ok (.return_, 1) := by decide +kernel
theorem d_M_raise_0 : decode b_M_raise 0 = .ok (.aload_n 0, 1) := by decide +kernel
theorem d_M_raise_1 : decode b_M_raise 1 = .ok (.iload_n 1, 1) := by decide +kernel
theorem d_M_raise_2 : decode b_M_raise 2 = .ok (.iconst 0, 1) := by decide +kernel
theorem d_M_raise_3 : decode b_M_raise 3 = .ok (.aload_n 0, 1) := by decide +kernel
theorem d_M_raise_4 : decode b_M_raise 4 = .ok (.getfield 130, 3) := by decide +kernel
theorem d_M_raise_7 : decode b_M_raise 7 = .ok (.iconst 1, 1) := by decide +kernel
theorem d_M_raise_8 : decode b_M_raise 8 = .ok (.isub, 1) := by decide +kernel
theorem d_M_raise_9 : decode b_M_raise 9 = .ok (.invokestatic 84, 3) := by decide +kernel
theorem d_M_raise_12 : decode b_M_raise 12 = .ok (.iconst 0, 1) := by decide +kernel
theorem d_M_raise_13 : decode b_M_raise 13 = .ok (.invokevirtual 88, 3) := by decide +kernel
theorem d_M_raise_16 : decode b_M_raise 16 = .ok (.ifCond .eq 4, 3) := by decide +kernel
theorem d_M_raise_19 : decode b_M_raise 19 = .ok (.return_, 1) := by decide +kernel
theorem d_M_raise_20 : decode b_M_raise 20 = .ok (.aload_n 0, 1) := by decide +kernel
theorem d_M_raise_21 : decode b_M_raise 21 = .ok (.getfield 27, 3) := by decide +kernel
theorem d_M_raise_24 : decode b_M_raise 24 = .ok (.iload_n 1, 1) := by decide +kernel
theorem d_M_raise_25 : decode b_M_raise 25 = .ok (.iaload, 1) := by decide +kernel
theorem d_M_raise_26 : decode b_M_raise 26 = .ok (.istore_n 2, 1) := by decide +kernel
theorem d_M_raise_27 : decode b_M_raise 27 = .ok (.aload_n 0, 1) := by decide +kernel
theorem d_M_raise_28 : decode b_M_raise 28 = .ok (.getfield 30, 3) := by decide +kernel
theorem d_M_raise_31 : decode b_M_raise 31 = .ok (.iload_n 1, 1) := by decide +kernel
theorem d_M_raise_32 : decode b_M_raise 32 = .ok (.iaload, 1) := by decide +kernel
theorem d_M_raise_33 : decode b_M_raise 33 = .ok (.istore_n 3, 1) := by decide +kernel
theorem d_M_raise_34 : decode b_M_raise 34 = .ok (.aload_n 0, 1) := by decide +kernel
theorem d_M_raise_35 : decode b_M_raise 35 = .ok (.getfield 33, 3) := by decide +kernel
theorem d_M_raise_38 : decode b_M_raise 38 = .ok (.iload_n 1, 1) := by decide +kernel
theorem d_M_raise_39 : decode b_M_raise 39 = .ok (.iaload, 1) := by decide +kernel
theorem d_M_raise_40 : decode b_M_raise 40 = .ok (.istore 4, 2) := by decide +kernel
theorem d_M_raise_42 : decode b_M_raise 42 = .ok (.aload_n 0, 1) := by decide +kernel
theorem d_M_raise_43 : decode b_M_raise 43 = .ok (.iload_n 1, 1) := by decide +kernel
theorem d_M_raise_44 : decode b_M_raise 44 = .ok (.invokevirtual 143, 3) := by decide +kernel
theorem d_M_raise_47 : decode b_M_raise 47 = .ok (.iload_n 2, 1) := by decide +kernel
theorem d_M_raise_48 : decode b_M_raise 48 = .ok (.ifCond .ne 21, 3) := by decide +kernel
theorem d_M_raise_51 : decode b_M_raise 51 = .ok (.aload_n 0, 1) := by decide +kernel
theorem d_M_raise_52 : decode b_M_raise 52 = .ok (.iload_n 3, 1) := by decide +kernel
theorem d_M_raise_53 : decode b_M_raise 53 = .ok (.aload_n 0, 1) := by decide +kernel
theorem d_M_raise_54 : decode b_M_raise 54 = .ok (.getfield 146, 3) := by decide +kernel
theorem d_M_raise_57 : decode b_M_raise 57 = .ok (.isub, 1) := by decide +kernel
theorem d_M_raise_58 : decode b_M_raise 58 = .ok (.bipush 16, 2) := by decide +kernel
theorem d_M_raise_60 : decode b_M_raise 60 = .ok (.iadd, 1) := by decide +kernel
theorem d_M_raise_61 : decode b_M_raise 61 = .ok (.bipush 16, 2) := by decide +kernel
theorem d_M_raise_63 : decode b_M_raise 63 = .ok (.irem, 1) := by decide +kernel
theorem d_M_raise_64 : decode b_M_raise 64 = .ok (.iload 4, 2) := by decide +kernel
theorem d_M_raise_66 : decode b_M_raise 66 = .ok (.invokevirtual 149, 3) := by decide +kernel
theorem d_M_raise_69 : decode b_M_raise 69 = .ok (.iload_n 2, 1) := by decide +kernel
theorem d_M_raise_70 : decode b_M_raise 70 = .ok (.iconst 1, 1) := by decide +kernel
theorem d_M_raise_71 : decode b_M_raise 71 = .ok (.if_icmp .eq 16, 3) := by decide +kernel
theorem d_M_raise_74 : decode b_M_raise 74 = .ok (.iload_n 2, 1) := by decide +kernel
theorem d_M_raise_75 : decode b_M_raise 75 = .ok (.iconst 2, 1) := by decide +kernel
theorem d_M_raise_76 : decode b_M_raise 76 = .ok (.if_icmp .ne 15, 3) := by decide +kernel
theorem d_M_raise_79 : decode b_M_raise 79 = .ok (.aload_n 0, 1) := by decide +kernel
theorem d_M_raise_80 : decode b_M_raise 80 = .ok (.getfield 153, 3) := by decide +kernel
theorem d_M_raise_83 : decode b_M_raise 83 = .ok (.iconst 2, 1) := by decide +kernel
theorem d_M_raise_84 : decode b_M_raise 84 = .ok (.if_icmp .eq 7, 3) := by decide +kernel
theorem d_M_raise_87 : decode b_M_raise 87 = .ok (.iconst 1, 1) := by decide +kernel
theorem d_M_raise_88 : decode b_M_raise 88 = .ok (.goto 4, 3) := by decide +kernel
theorem d_M_raise_91 : decode b_M_raise 91 = .ok (.iconst 0, 1) := by decide +kernel
theorem d_M_raise_92 : decode b_M_raise 92 = .ok (.istore 5, 2) := by decide +kernel
theorem d_M_raise_94 : decode b_M_raise 94 = .ok (.iload 5, 2) := by decide +kernel
theorem d_M_raise_96 : decode b_M_raise 96 = .ok (.ifCond .eq 30, 3) := by decide +kernel
theorem d_M_raise_99 : decode b_M_raise 99 = .ok (.aload_n 0, 1) := by decide +kernel
theorem d_M_raise_100 : decode b_M_raise 100 = .ok (.iload_n 2, 1) := by decide +kernel
theorem d_M_raise_101 : decode b_M_raise 101 = .ok (.iconst 2, 1) := by decide +kernel
theorem d_M_raise_102 : decode b_M_raise 102 = .ok (.if_icmp .ne 7, 3) := by decide +kernel
theorem d_M_raise_105 : decode b_M_raise 105 = .ok (.iload_n 3, 1) := by decide +kernel
theorem d_M_raise_106 : decode b_M_raise 106 = .ok (.goto 7, 3) := by decide +kernel
theorem d_M_raise_109 : decode b_M_raise 109 = .ok (.aload_n 0, 1) := by decide +kernel
theorem d_M_raise_110 : decode b_M_raise 110 = .ok (.getfield 146, 3) := by decide +kernel
theorem d_M_raise_113 : decode b_M_raise 113 = .ok (.putfield 146, 3) := by decide +kernel
theorem d_M_raise_116 : decode b_M_raise 116 = .ok (.aload_n 0, 1) := by decide +kernel
theorem d_M_raise_117 : decode b_M_raise 117 = .ok (.iconst 0, 1) := by decide +kernel
theorem d_M_raise_118 : decode b_M_raise 118 = .ok (.putfield 153, 3) := by decide +kernel
theorem d_M_raise_121 : decode b_M_raise 121 = .ok (.aload_n 0, 1) := by decide +kernel
theorem d_M_raise_122 : decode b_M_raise 122 = .ok (.iconst 0, 1) := by decide +kernel
theorem d_M_raise_123 : decode b_M_raise 123 = .ok (.putfield 156, 3) := by decide +kernel
theorem d_M_raise_126 : decode b_M_raise 126 = .ok (.return_, 1) := by decide +kernel
theorem d_M_comes_0 : decode b_M_comes 0 = .ok (.iload_n 1, 1) := by decide +kernel
theorem d_M_comes_1 : decode b_M_comes 1 = .ok (.iconst 5, 1) := by decide +kernel
theorem d_M_comes_2 : decode b_M_comes 2 = .ok (.if_icmp .lt 14, 3) := by decide +kernel
theorem d_M_comes_5 : decode b_M_comes 5 = .ok (.iload_n 1, 1) := by decide +kernel
theorem d_M_comes_6 : decode b_M_comes 6 = .ok (.bipush 10, 2) := by decide +kernel
theorem d_M_comes_8 : decode b_M_comes 8 = .ok (.if_icmp .gt 8, 3) := by decide +kernel
theorem d_M_comes_11 : decode b_M_comes 11 = .ok (.aload_n 0, 1) := by decide +kernel
theorem d_M_comes_12 : decode b_M_comes 12 = .ok (.iconst 2, 1) := by decide +kernel
theorem d_M_comes_13 : decode b_M_comes 13 = .ok (.putfield 153, 3) := by decide +kernel
theorem d_M_comes_16 : decode b_M_comes 16 = .ok (.aload_n 0, 1) := by decide +kernel
theorem d_M_comes_17 : decode b_M_comes 17 = .ok (.getfield 153, 3) := by decide +kernel
theorem d_M_comes_20 : decode b_M_comes 20 = .ok (.ifCond .ne 8, 3) := by decide +kernel
theorem d_M_comes_23 : decode b_M_comes 23 = .ok (.iload_n 1, 1) := by decide +kernel
theorem d_M_comes_24 : decode b_M_comes 24 = .ok (.iconst 4, 1) := by decide +kernel
theorem d_M_comes_25 : decode b_M_comes 25 = .ok (.if_icmp .le 4, 3) := by decide +kernel
theorem d_M_comes_28 : decode b_M_comes 28 = .ok (.return_, 1) := by decide +kernel
theorem d_M_comes_29 : decode b_M_comes 29 = .ok (.aload_n 0, 1) := by decide +kernel
theorem d_M_comes_30 : decode b_M_comes 30 = .ok (.iload_n 1, 1) := by decide +kernel
theorem d_M_comes_31 : decode b_M_comes 31 = .ok (.ifCond .gt 11, 3) := by decide +kernel
theorem d_M_comes_34 : decode b_M_comes 34 = .ok (.aload_n 0, 1) := by decide +kernel
theorem d_M_comes_35 : decode b_M_comes 35 = .ok (.getfield 159, 3) := by decide +kernel
theorem d_M_comes_38 : decode b_M_comes 38 = .ok (.iconst 3, 1) := by decide +kernel
theorem d_M_comes_39 : decode b_M_comes 39 = .ok (.if_icmp .ne 7, 3) := by decide +kernel
theorem d_M_comes_42 : decode b_M_comes 42 = .ok (.iconst 1, 1) := by decide +kernel
theorem d_M_comes_43 : decode b_M_comes 43 = .ok (.goto 4, 3) := by decide +kernel
theorem d_M_comes_46 : decode b_M_comes 46 = .ok (.iconst 0, 1) := by decide +kernel
theorem d_M_comes_47 : decode b_M_comes 47 = .ok (.putfield 156, 3) := by decide +kernel
theorem d_M_comes_50 : decode b_M_comes 50 = .ok (.iload_n 1, 1) := by decide +kernel
theorem d_M_comes_51 : decode b_M_comes 51 = .ok (.ifCond .le 4, 3) := by decide +kernel
theorem d_M_comes_54 : decode b_M_comes 54 = .ok (.return_, 1) := by decide +kernel
theorem d_M_comes_55 : decode b_M_comes 55 = .ok (.aload_n 0, 1) := by decide +kernel
theorem d_M_comes_56 : decode b_M_comes 56 = .ok (.getfield 159, 3) := by decide +kernel
theorem d_M_comes_59 : decode b_M_comes 59 = .ok (.iconst 3, 1) := by decide +kernel
theorem d_M_comes_60 : decode b_M_comes 60 = .ok (.if_icmp .ne 9, 3) := by decide +kernel
theorem d_M_comes_63 : decode b_M_comes 63 = .ok (.aload_n 0, 1) := by decide +kernel
theorem d_M_comes_64 : decode b_M_comes 64 = .ok (.iconst 1, 1) := by decide +kernel
theorem d_M_comes_65 : decode b_M_comes 65 = .ok (.putfield 153, 3) := by decide +kernel
theorem d_M_comes_68 : decode b_M_comes 68 = .ok (.return_, 1) := by decide +kernel
theorem d_M_comes_69 : decode b_M_comes 69 = .ok (.aload_n 0, 1) := by decide +kernel
theorem d_M_comes_70 : decode b_M_comes 70 = .ok (.getfield 36, 3) := by decide +kernel
theorem d_M_comes_73 : decode b_M_comes 73 = .ok (.aload_n 0, 1) := by decide +kernel
theorem d_M_comes_74 : decode b_M_comes 74 = .ok (.getfield 159, 3) := by decide +kernel
theorem d_M_comes_77 : decode b_M_comes 77 = .ok (.iload_n 2, 1) := by decide +kernel
theorem d_M_comes_78 : decode b_M_comes 78 = .ok (.iastore, 1) := by decide +kernel
theorem d_M_comes_79 : decode b_M_comes 79 = .ok (.aload_n 0, 1) := by decide +kernel
theorem d_M_comes_80 : decode b_M_comes 80 = .ok (.dup, 1) := by decide +kernel
theorem d_M_comes_81 : decode b_M_comes 81 = .ok (.getfield 159, 3) := by decide +kernel
theorem d_M_comes_84 : decode b_M_comes 84 = .ok (.iconst 1, 1) := by decide +kernel
theorem d_M_comes_85 : decode b_M_comes 85 = .ok (.iadd, 1) := by decide +kernel
theorem d_M_comes_86 : decode b_M_comes 86 = .ok (.putfield 159, 3) := by decide +kernel
theorem d_M_comes_89 : decode b_M_comes 89 = .ok (.aload_n 0, 1) := by decide +kernel
theorem d_M_comes_90 : decode b_M_comes 90 = .ok (.aload_n 0, 1) := by decide +kernel
theorem d_M_comes_91 : decode b_M_comes 91 = .ok (.getfield 146, 3) := by decide +kernel
theorem d_M_comes_94 : decode b_M_comes 94 = .ok (.iconst 1, 1) := by decide +kernel
theorem d_M_comes_95 : decode b_M_comes 95 = .ok (.iadd, 1) := by decide +kernel
theorem d_M_comes_96 : decode b_M_comes 96 = .ok (.bipush 16, 2) := by decide +kernel
theorem d_M_comes_98 : decode b_M_comes 98 = .ok (.irem, 1) := by decide +kernel
theorem d_M_comes_99 : decode b_M_comes 99 = .ok (.putfield 146, 3) := by decide +kernel
theorem d_M_comes_102 : decode b_M_comes 102 = .ok (.return_, 1) := by decide +kernel
theorem d_M_drop_0 : decode b_M_drop 0 = .ok (.aload_n 0, 1) := by decide +kernel
theorem d_M_drop_1 : decode b_M_drop 1 = .ok (.iload_n 1, 1) := by decide +kernel
theorem d_M_drop_2 : decode b_M_drop 2 = .ok (.iconst 0, 1) := by decide +kernel
theorem d_M_drop_3 : decode b_M_drop 3 = .ok (.aload_n 0, 1) := by decide +kernel
theorem d_M_drop_4 : decode b_M_drop 4 = .ok (.getfield 130, 3) := by decide +kernel
theorem d_M_drop_7 : decode b_M_drop 7 = .ok (.iconst 1, 1) := by decide +kernel
theorem d_M_drop_8 : decode b_M_drop 8 = .ok (.isub, 1) := by decide +kernel
theorem d_M_drop_9 : decode b_M_drop 9 = .ok (.invokestatic 84, 3) := by decide +kernel
theorem d_M_drop_12 : decode b_M_drop 12 = .ok (.iconst 0, 1) := by decide +kernel
theorem d_M_drop_13 : decode b_M_drop 13 = .ok (.invokevirtual 88, 3) := by decide +kernel
theorem d_M_drop_16 : decode b_M_drop 16 = .ok (.ifCond .ne 8, 3) := by decide +kernel
theorem d_M_drop_19 : decode b_M_drop 19 = .ok (.aload_n 0, 1) := by decide +kernel
theorem d_M_drop_20 : decode b_M_drop 20 = .ok (.iload_n 1, 1) := by decide +kernel
theorem d_M_drop_21 : decode b_M_drop 21 = .ok (.invokevirtual 143, 3) := by decide +kernel
theorem d_M_drop_24 : decode b_M_drop 24 = .ok (.return_, 1) := by decide +kernel
theorem d_M_take_0 : decode b_M_take 0 = .ok (.aload_n 0, 1) := by decide +kernel
theorem d_M_take_1 : decode b_M_take 1 = .ok (.aload_n 0, 1) := by decide +kernel
theorem d_M_take_2 : decode b_M_take 2 = .ok (.getfield 159, 3) := by decide +kernel
theorem d_M_take_5 : decode b_M_take 5 = .ok (.ifCond .ne 7, 3) := by decide +kernel
theorem d_M_take_8 : decode b_M_take 8 = .ok (.iconst 1, 1) := by decide +kernel
theorem d_M_take_9 : decode b_M_take 9 = .ok (.goto 4, 3) := by decide +kernel
theorem d_M_take_12 : decode b_M_take 12 = .ok (.iconst 0, 1) := by decide +kernel
theorem d_M_take_13 : decode b_M_take 13 = .ok (.iconst 0, 1) := by decide +kernel
theorem d_M_take_14 : decode b_M_take 14 = .ok (.invokevirtual 88, 3) := by decide +kernel
theorem d_M_take_17 : decode b_M_take 17 = .ok (.ifCond .eq 5, 3) := by decide +kernel
theorem d_M_take_20 : decode b_M_take 20 = .ok (.iconst 0, 1) := by decide +kernel
theorem d_M_take_21 : decode b_M_take 21 = .ok (.ireturn, 1) := by decide +kernel
theorem d_M_take_22 : decode b_M_take 22 = .ok (.aload_n 0, 1) := by decide +kernel
theorem d_M_take_23 : decode b_M_take 23 = .ok (.getfield 36, 3) := by decide +kernel
theorem d_M_take_26 : decode b_M_take 26 = .ok (.iconst 0, 1) := by decide +kernel
theorem d_M_take_27 : decode b_M_take 27 = .ok (.iaload, 1) := by decide +kernel
theorem d_M_take_28 : decode b_M_take 28 = .ok (.istore_n 1, 1) := by decide +kernel
theorem d_M_take_29 : decode b_M_take 29 = .ok (.aload_n 0, 1) := by decide +kernel
theorem d_M_take_30 : decode b_M_take 30 = .ok (.getfield 36, 3) := by decide +kernel
theorem d_M_take_33 : decode b_M_take 33 = .ok (.iconst 0, 1) := by decide +kernel
theorem d_M_take_34 : decode b_M_take 34 = .ok (.aload_n 0, 1) := by decide +kernel
theorem d_M_take_35 : decode b_M_take 35 = .ok (.getfield 36, 3) := by decide +kernel
theorem d_M_take_38 : decode b_M_take 38 = .ok (.iconst 1, 1) := by decide +kernel
theorem d_M_take_39 : decode b_M_take 39 = .ok (.iaload, 1) := by decide +kernel
theorem d_M_take_40 : decode b_M_take 40 = .ok (.iastore, 1) := by decide +kernel
theorem d_M_take_41 : decode b_M_take 41 = .ok (.aload_n 0, 1) := by decide +kernel
theorem d_M_take_42 : decode b_M_take 42 = .ok (.getfield 36, 3) := by decide +kernel
theorem d_M_take_45 : decode b_M_take 45 = .ok (.iconst 1, 1) := by decide +kernel
theorem d_M_take_46 : decode b_M_take 46 = .ok (.aload_n 0, 1) := by decide +kernel
theorem d_M_take_47 : decode b_M_take 47 = .ok (.getfield 36, 3) := by decide +kernel
theorem d_M_take_50 : decode b_M_take 50 = .ok (.iconst 2, 1) := by decide +kernel
theorem d_M_take_51 : decode b_M_take 51 = .ok (.iaload, 1) := by decide +kernel
theorem d_M_take_52 : decode b_M_take 52 = .ok (.iastore, 1) := by decide +kernel
theorem d_M_take_53 : decode b_M_take 53 = .ok (.aload_n 0, 1) := by decide +kernel
theorem d_M_take_54 : decode b_M_take 54 = .ok (.dup, 1) := by decide +kernel
theorem d_M_take_55 : decode b_M_take 55 = .ok (.getfield 159, 3) := by decide +kernel
theorem d_M_take_58 : decode b_M_take 58 = .ok (.iconst 1, 1) := by decide +kernel
theorem d_M_take_59 : decode b_M_take 59 = .ok (.isub, 1) := by decide +kernel
theorem d_M_take_60 : decode b_M_take 60 = .ok (.putfield 159, 3) := by decide +kernel
theorem d_M_take_63 : decode b_M_take 63 = .ok (.aload_n 0, 1) := by decide +kernel
theorem d_M_take_64 : decode b_M_take 64 = .ok (.aload_n 0, 1) := by decide +kernel
theorem d_M_take_65 : decode b_M_take 65 = .ok (.getfield 153, 3) := by decide +kernel
theorem d_M_take_68 : decode b_M_take 68 = .ok (.iconst 1, 1) := by decide +kernel
theorem d_M_take_69 : decode b_M_take 69 = .ok (.if_icmp .ne 7, 3) := by decide +kernel
theorem d_M_take_72 : decode b_M_take 72 = .ok (.iconst 0, 1) := by decide +kernel
theorem d_M_take_73 : decode b_M_take 73 = .ok (.goto 7, 3) := by decide +kernel
theorem d_M_take_76 : decode b_M_take 76 = .ok (.aload_n 0, 1) := by decide +kernel
theorem d_M_take_77 : decode b_M_take 77 = .ok (.getfield 153, 3) := by decide +kernel
theorem d_M_take_80 : decode b_M_take 80 = .ok (.putfield 153, 3) := by decide +kernel
theorem d_M_take_83 : decode b_M_take 83 = .ok (.iload_n 1, 1) := by decide +kernel
theorem d_M_take_84 : decode b_M_take 84 = .ok (.ireturn, 1) := by decide +kernel
theorem d_M_report_0 : decode b_M_report 0 = .ok (.aload_n 0, 1) := by decide +kernel
theorem d_M_report_1 : decode b_M_report 1 = .ok (.iconst 0, 1) := by decide +kernel
theorem d_M_report_2 : decode b_M_report 2 = .ok (.putfield 78, 3) := by decide +kernel
theorem d_M_report_5 : decode b_M_report 5 = .ok (.aload_n 0, 1) := by decide +kernel
theorem d_M_report_6 : decode b_M_report 6 = .ok (.getfield 162, 3) := by decide +kernel
theorem d_M_report_9 : decode b_M_report 9 = .ok (.bipush 20, 2) := by decide +kernel
theorem d_M_report_11 : decode b_M_report 11 = .ok (.if_icmp .ne 5, 3) := by decide +kernel
theorem d_M_report_14 : decode b_M_report 14 = .ok (.iconst 0, 1) := by decide +kernel
theorem d_M_report_15 : decode b_M_report 15 = .ok (.ireturn, 1) := by decide +kernel
theorem d_M_report_16 : decode b_M_report 16 = .ok (.aload_n 0, 1) := by decide +kernel
theorem d_M_report_17 : decode b_M_report 17 = .ok (.getfield 39, 3) := by decide +kernel
theorem d_M_report_20 : decode b_M_report 20 = .ok (.aload_n 0, 1) := by decide +kernel
theorem d_M_report_21 : decode b_M_report 21 = .ok (.getfield 162, 3) := by decide +kernel
theorem d_M_report_24 : decode b_M_report 24 = .ok (.aload_n 0, 1) := by decide +kernel
theorem d_M_report_25 : decode b_M_report 25 = .ok (.getfield 146, 3) := by decide +kernel
theorem d_M_report_28 : decode b_M_report 28 = .ok (.aload_n 0, 1) := by decide +kernel
theorem d_M_report_29 : decode b_M_report 29 = .ok (.getfield 156, 3) := by decide +kernel
theorem d_M_report_32 : decode b_M_report 32 = .ok (.ifCond .eq 8, 3) := by decide +kernel
theorem d_M_report_35 : decode b_M_report 35 = .ok (.bipush 16, 2) := by decide +kernel
theorem d_M_report_37 : decode b_M_report 37 = .ok (.goto 4, 3) := by decide +kernel
theorem d_M_report_40 : decode b_M_report 40 = .ok (.iconst 0, 1) := by decide +kernel
theorem d_M_report_41 : decode b_M_report 41 = .ok (.iadd, 1) := by decide +kernel
theorem d_M_report_42 : decode b_M_report 42 = .ok (.aload_n 0, 1) := by decide +kernel
theorem d_M_report_43 : decode b_M_report 43 = .ok (.getfield 153, 3) := by decide +kernel
theorem d_M_report_46 : decode b_M_report 46 = .ok (.iconst 2, 1) := by decide +kernel
theorem d_M_report_47 : decode b_M_report 47 = .ok (.if_icmp .ne 8, 3) := by decide +kernel
theorem d_M_report_50 : decode b_M_report 50 = .ok (.bipush 32, 2) := by decide +kernel
theorem d_M_report_52 : decode b_M_report 52 = .ok (.goto 4, 3) := by decide +kernel
theorem d_M_report_55 : decode b_M_report 55 = .ok (.iconst 0, 1) := by decide +kernel
theorem d_M_report_56 : decode b_M_report 56 = .ok (.iadd, 1) := by decide +kernel
theorem d_M_report_57 : decode b_M_report 57 = .ok (.aload_n 0, 1) := by decide +kernel
theorem d_M_report_58 : decode b_M_report 58 = .ok (.getfield 153, 3) := by decide +kernel
theorem d_M_report_61 : decode b_M_report 61 = .ok (.iconst 1, 1) := by decide +kernel
theorem d_M_report_62 : decode b_M_report 62 = .ok (.if_icmp .ne 8, 3) := by decide +kernel
theorem d_M_report_65 : decode b_M_report 65 = .ok (.bipush 64, 2) := by decide +kernel
theorem d_M_report_67 : decode b_M_report 67 = .ok (.goto 4, 3) := by decide +kernel
theorem d_M_report_70 : decode b_M_report 70 = .ok (.iconst 0, 1) := by decide +kernel
theorem d_M_report_71 : decode b_M_report 71 = .ok (.iadd, 1) := by decide +kernel
theorem d_M_report_72 : decode b_M_report 72 = .ok (.iastore, 1) := by decide +kernel
theorem d_M_report_73 : decode b_M_report 73 = .ok (.aload_n 0, 1) := by decide +kernel
theorem d_M_report_74 : decode b_M_report 74 = .ok (.dup, 1) := by decide +kernel
theorem d_M_report_75 : decode b_M_report 75 = .ok (.getfield 162, 3) := by decide +kernel
theorem d_M_report_78 : decode b_M_report 78 = .ok (.iconst 1, 1) := by decide +kernel
theorem d_M_report_79 : decode b_M_report 79 = .ok (.iadd, 1) := by decide +kernel
theorem d_M_report_80 : decode b_M_report 80 = .ok (.putfield 162, 3) := by decide +kernel
theorem d_M_report_83 : decode b_M_report 83 = .ok (.iconst 1, 1) := by decide +kernel
theorem d_M_report_84 : decode b_M_report 84 = .ok (.ireturn, 1) := by decide +kernel
theorem d_M_answer_0 : decode b_M_answer 0 = .ok (.aload_n 0, 1) := by decide +kernel
theorem d_M_answer_1 : decode b_M_answer 1 = .ok (.iload_n 1, 1) := by decide +kernel
theorem d_M_answer_2 : decode b_M_answer 2 = .ok (.iconst 0, 1) := by decide +kernel
theorem d_M_answer_3 : decode b_M_answer 3 = .ok (.aload_n 0, 1) := by decide +kernel
theorem d_M_answer_4 : decode b_M_answer 4 = .ok (.getfield 162, 3) := by decide +kernel
theorem d_M_answer_7 : decode b_M_answer 7 = .ok (.iconst 1, 1) := by decide +kernel
theorem d_M_answer_8 : decode b_M_answer 8 = .ok (.isub, 1) := by decide +kernel
theorem d_M_answer_9 : decode b_M_answer 9 = .ok (.invokestatic 84, 3) := by decide +kernel
theorem d_M_answer_12 : decode b_M_answer 12 = .ok (.iconst 0, 1) := by decide +kernel
theorem d_M_answer_13 : decode b_M_answer 13 = .ok (.invokevirtual 88, 3) := by decide +kernel
theorem d_M_answer_16 : decode b_M_answer 16 = .ok (.ifCond .eq 4, 3) := by decide +kernel
theorem d_M_answer_19 : decode b_M_answer 19 = .ok (.return_, 1) := by decide +kernel
theorem d_M_answer_20 : decode b_M_answer 20 = .ok (.aload_n 0, 1) := by decide +kernel
theorem d_M_answer_21 : decode b_M_answer 21 = .ok (.getfield 39, 3) := by decide +kernel
theorem d_M_answer_24 : decode b_M_answer 24 = .ok (.iload_n 1, 1) := by decide +kernel
theorem d_M_answer_25 : decode b_M_answer 25 = .ok (.iaload, 1) := by decide +kernel
theorem d_M_answer_26 : decode b_M_answer 26 = .ok (.istore_n 3, 1) := by decide +kernel
theorem d_M_answer_27 : decode b_M_answer 27 = .ok (.iload_n 1, 1) := by decide +kernel
theorem d_M_answer_28 : decode b_M_answer 28 = .ok (.istore 4, 2) := by decide +kernel
theorem d_M_answer_30 : decode b_M_answer 30 = .ok (.iload 4, 2) := by decide +kernel
theorem d_M_answer_32 : decode b_M_answer 32 = .ok (.iconst 1, 1) := by decide +kernel
theorem d_M_answer_33 : decode b_M_answer 33 = .ok (.iadd, 1) := by decide +kernel
theorem d_M_answer_34 : decode b_M_answer 34 = .ok (.aload_n 0, 1) := by decide +kernel
theorem d_M_answer_35 : decode b_M_answer 35 = .ok (.getfield 162, 3) := by decide +kernel
theorem d_M_answer_38 : decode b_M_answer 38 = .ok (.if_icmp .ge 25, 3) := by decide +kernel
theorem d_M_answer_41 : decode b_M_answer 41 = .ok (.aload_n 0, 1) := by decide +kernel
theorem d_M_answer_42 : decode b_M_answer 42 = .ok (.getfield 39, 3) := by decide +kernel
theorem d_M_answer_45 : decode b_M_answer 45 = .ok (.iload 4, 2) := by decide +kernel
theorem d_M_answer_47 : decode b_M_answer 47 = .ok (.aload_n 0, 1) := by decide +kernel
theorem d_M_answer_48 : decode b_M_answer 48 = .ok (.getfield 39, 3) := by decide +kernel
theorem d_M_answer_51 : decode b_M_answer 51 = .ok (.iload 4, 2) := by decide +kernel
theorem d_M_answer_53 : decode b_M_answer 53 = .ok (.iconst 1, 1) := by decide +kernel
theorem d_M_answer_54 : decode b_M_answer 54 = .ok (.iadd, 1) := by decide +kernel
theorem d_M_answer_55 : decode b_M_answer 55 = .ok (.iaload, 1) := by decide +kernel
theorem d_M_answer_56 : decode b_M_answer 56 = .ok (.iastore, 1) := by decide +kernel
theorem d_M_answer_57 : decode b_M_answer 57 = .ok (.iinc 4 1, 3) := by decide +kernel
theorem d_M_answer_60 : decode b_M_answer 60 = .ok (.goto (-30), 3) := by decide +kernel
theorem d_M_answer_63 : decode b_M_answer 63 = .ok (.aload_n 0, 1) := by decide +kernel
theorem d_M_answer_64 : decode b_M_answer 64 = .ok (.dup, 1) := by decide +kernel
theorem d_M_answer_65 : decode b_M_answer 65 = .ok (.getfield 162, 3) := by decide +kernel
theorem d_M_answer_68 : decode b_M_answer 68 = .ok (.iconst 1, 1) := by decide +kernel
theorem d_M_answer_69 : decode b_M_answer 69 = .ok (.isub, 1) := by decide +kernel
theorem d_M_answer_70 : decode b_M_answer 70 = .ok (.putfield 162, 3) := by decide +kernel
theorem d_M_answer_73 : decode b_M_answer 73 = .ok (.iload_n 2, 1) := by decide +kernel
theorem d_M_answer_74 : decode b_M_answer 74 = .ok (.ifCond .ne 10, 3) := by decide +kernel
theorem d_M_answer_77 : decode b_M_answer 77 = .ok (.aload_n 0, 1) := by decide +kernel
theorem d_M_answer_78 : decode b_M_answer 78 = .ok (.getfield 81, 3) := by decide +kernel
theorem d_M_answer_81 : decode b_M_answer 81 = .ok (.ifCond .ne 4, 3) := by decide +kernel
theorem d_M_answer_84 : decode b_M_answer 84 = .ok (.return_, 1) := by decide +kernel
theorem d_M_answer_85 : decode b_M_answer 85 = .ok (.aload_n 0, 1) := by decide +kernel
theorem d_M_answer_86 : decode b_M_answer 86 = .ok (.getfield 81, 3) := by decide +kernel
theorem d_M_answer_89 : decode b_M_answer 89 = .ok (.iconst 5, 1) := by decide +kernel
theorem d_M_answer_90 : decode b_M_answer 90 = .ok (.if_icmp .ne 27, 3) := by decide +kernel
theorem d_M_answer_93 : decode b_M_answer 93 = .ok (.iload_n 3, 1) := by decide +kernel
theorem d_M_answer_94 : decode b_M_answer 94 = .ok (.aload_n 0, 1) := by decide +kernel
theorem d_M_answer_95 : decode b_M_answer 95 = .ok (.getfield 92, 3) := by decide +kernel
theorem d_M_answer_98 : decode b_M_answer 98 = .ok (.if_icmp .ne 18, 3) := by decide +kernel
theorem d_M_answer_101 : decode b_M_answer 101 = .ok (.aload_n 0, 1) := by decide +kernel
theorem d_M_answer_102 : decode b_M_answer 102 = .ok (.iconst 1, 1) := by decide +kernel
theorem d_M_answer_103 : decode b_M_answer 103 = .ok (.putfield 81, 3) := by decide +kernel
theorem d_M_answer_106 : decode b_M_answer 106 = .ok (.aload_n 0, 1) := by decide +kernel
theorem d_M_answer_107 : decode b_M_answer 107 = .ok (.iconst 1, 1) := by decide +kernel
theorem d_M_answer_108 : decode b_M_answer 108 = .ok (.putfield 108, 3) := by decide +kernel
theorem d_M_answer_111 : decode b_M_answer 111 = .ok (.aload_n 0, 1) := by decide +kernel
theorem d_M_answer_112 : decode b_M_answer 112 = .ok (.iconst 0, 1) := by decide +kernel
theorem d_M_answer_113 : decode b_M_answer 113 = .ok (.putfield 98, 3) := by decide +kernel
theorem d_M_answer_116 : decode b_M_answer 116 = .ok (.return_, 1) := by decide +kernel
theorem d_M_answer_117 : decode b_M_answer 117 = .ok (.iload_n 3, 1) := by decide +kernel
theorem d_M_answer_118 : decode b_M_answer 118 = .ok (.bipush 16, 2) := by decide +kernel
theorem d_M_answer_120 : decode b_M_answer 120 = .ok (.irem, 1) := by decide +kernel
theorem d_M_answer_121 : decode b_M_answer 121 = .ok (.aload_n 0, 1) := by decide +kernel
theorem d_M_answer_122 : decode b_M_answer 122 = .ok (.getfield 95, 3) := by decide +kernel
theorem d_M_answer_125 : decode b_M_answer 125 = .ok (.isub, 1) := by decide +kernel
theorem d_M_answer_126 : decode b_M_answer 126 = .ok (.bipush 16, 2) := by decide +kernel
theorem d_M_answer_128 : decode b_M_answer 128 = .ok (.iadd, 1) := by decide +kernel
theorem d_M_answer_129 : decode b_M_answer 129 = .ok (.bipush 16, 2) := by decide +kernel
theorem d_M_answer_131 : decode b_M_answer 131 = .ok (.irem, 1) := by decide +kernel
theorem d_M_answer_132 : decode b_M_answer 132 = .ok (.istore 4, 2) := by decide +kernel
theorem d_M_answer_134 : decode b_M_answer 134 = .ok (.iload_n 3, 1) := by decide +kernel
theorem d_M_answer_135 : decode b_M_answer 135 = .ok (.bipush 32, 2) := by decide +kernel
theorem d_M_answer_137 : decode b_M_answer 137 = .ok (.idiv, 1) := by decide +kernel
theorem d_M_answer_138 : decode b_M_answer 138 = .ok (.iconst 2, 1) := by decide +kernel
theorem d_M_answer_139 : decode b_M_answer 139 = .ok (.irem, 1) := by decide +kernel
theorem d_M_answer_140 : decode b_M_answer 140 = .ok (.iconst 1, 1) := by decide +kernel
theorem d_M_answer_141 : decode b_M_answer 141 = .ok (.if_icmp .ne 11, 3) := by decide +kernel
theorem d_M_answer_144 : decode b_M_answer 144 = .ok (.aload_n 0, 1) := by decide +kernel
theorem d_M_answer_145 : decode b_M_answer 145 = .ok (.iconst 2, 1) := by decide +kernel
theorem d_M_answer_146 : decode b_M_answer 146 = .ok (.invokevirtual 126, 3) := by decide +kernel
theorem d_M_answer_149 : decode b_M_answer 149 = .ok (.goto 52, 3) := by decide +kernel
theorem d_M_answer_152 : decode b_M_answer 152 = .ok (.iload 4, 2) := by decide +kernel
theorem d_M_answer_154 : decode b_M_answer 154 = .ok (.aload_n 0, 1) := by decide +kernel
theorem d_M_answer_155 : decode b_M_answer 155 = .ok (.getfield 114, 3) := by decide +kernel
theorem d_M_answer_158 : decode b_M_answer 158 = .ok (.if_icmp .le 11, 3) := by decide +kernel
theorem d_M_answer_161 : decode b_M_answer 161 = .ok (.aload_n 0, 1) := by decide +kernel
theorem d_M_answer_162 : decode b_M_answer 162 = .ok (.iconst 4, 1) := by decide +kernel
theorem d_M_answer_163 : decode b_M_answer 163 = .ok (.invokevirtual 126, 3) := by decide +kernel
theorem d_M_answer_166 : decode b_M_answer 166 = .ok (.goto 35, 3) := by decide +kernel
theorem d_M_answer_169 : decode b_M_answer 169 = .ok (.aload_n 0, 1) := by decide +kernel
theorem d_M_answer_170 : decode b_M_answer 170 = .ok (.iload 4, 2) := by decide +kernel
theorem d_M_answer_172 : decode b_M_answer 172 = .ok (.iload_n 3, 1) := by decide +kernel
theorem d_M_answer_173 : decode b_M_answer 173 = .ok (.bipush 16, 2) := by decide +kernel
theorem d_M_answer_175 : decode b_M_answer 175 = .ok (.idiv, 1) := by decide +kernel
theorem d_M_answer_176 : decode b_M_answer 176 = .ok (.iconst 2, 1) := by decide +kernel
theorem d_M_answer_177 : decode b_M_answer 177 = .ok (.irem, 1) := by decide +kernel
theorem d_M_answer_178 : decode b_M_answer 178 = .ok (.iconst 1, 1) := by decide +kernel
theorem d_M_answer_179 : decode b_M_answer 179 = .ok (.if_icmp .ne 7, 3) := by decide +kernel
theorem d_M_answer_182 : decode b_M_answer 182 = .ok (.iconst 1, 1) := by decide +kernel
theorem d_M_answer_183 : decode b_M_answer 183 = .ok (.goto 4, 3) := by decide +kernel
theorem d_M_answer_186 : decode b_M_answer 186 = .ok (.iconst 0, 1) := by decide +kernel
theorem d_M_answer_187 : decode b_M_answer 187 = .ok (.iload_n 3, 1) := by decide +kernel
theorem d_M_answer_188 : decode b_M_answer 188 = .ok (.bipush 64, 2) := by decide +kernel
theorem d_M_answer_190 : decode b_M_answer 190 = .ok (.if_icmp .lt 7, 3) := by decide +kernel
theorem d_M_answer_193 : decode b_M_answer 193 = .ok (.iconst 1, 1) := by decide +kernel
theorem d_M_answer_194 : decode b_M_answer 194 = .ok (.goto 4, 3) := by decide +kernel
theorem d_M_answer_197 : decode b_M_answer 197 = .ok (.iconst 0, 1) := by decide +kernel
theorem d_M_answer_198 : decode b_M_answer 198 = .ok (.invokevirtual 165, 3) := by decide +kernel
theorem d_M_answer_201 : decode b_M_answer 201 = .ok (.return_, 1) := by decide +kernel
theorem d_M_read_0 : decode b_M_read 0 = .ok (.iconst 0, 1) := by decide +kernel
theorem d_M_read_1 : decode b_M_read 1 = .ok (.istore 4, 2) := by decide +kernel
theorem d_M_read_3 : decode b_M_read 3 = .ok (.iload 4, 2) := by decide +kernel
theorem d_M_read_5 : decode b_M_read 5 = .ok (.iload_n 1, 1) := by decide +kernel
theorem d_M_read_6 : decode b_M_read 6 = .ok (.iadd, 1) := by decide +kernel
theorem d_M_read_7 : decode b_M_read 7 = .ok (.aload_n 0, 1) := by decide +kernel
theorem d_M_read_8 : decode b_M_read 8 = .ok (.getfield 114, 3) := by decide +kernel
theorem d_M_read_11 : decode b_M_read 11 = .ok (.if_icmp .ge 41, 3) := by decide +kernel
theorem d_M_read_14 : decode b_M_read 14 = .ok (.aload_n 0, 1) := by decide +kernel
theorem d_M_read_15 : decode b_M_read 15 = .ok (.getfield 19, 3) := by decide +kernel
theorem d_M_read_18 : decode b_M_read 18 = .ok (.iload 4, 2) := by decide +kernel
theorem d_M_read_20 : decode b_M_read 20 = .ok (.aload_n 0, 1) := by decide +kernel
theorem d_M_read_21 : decode b_M_read 21 = .ok (.getfield 19, 3) := by decide +kernel
theorem d_M_read_24 : decode b_M_read 24 = .ok (.iload 4, 2) := by decide +kernel
theorem d_M_read_26 : decode b_M_read 26 = .ok (.iload_n 1, 1) := by decide +kernel
theorem d_M_read_27 : decode b_M_read 27 = .ok (.iadd, 1) := by decide +kernel
theorem d_M_read_28 : decode b_M_read 28 = .ok (.iaload, 1) := by decide +kernel
theorem d_M_read_29 : decode b_M_read 29 = .ok (.iastore, 1) := by decide +kernel
theorem d_M_read_30 : decode b_M_read 30 = .ok (.aload_n 0, 1) := by decide +kernel
theorem d_M_read_31 : decode b_M_read 31 = .ok (.getfield 23, 3) := by decide +kernel
theorem d_M_read_34 : decode b_M_read 34 = .ok (.iload 4, 2) := by decide +kernel
theorem d_M_read_36 : decode b_M_read 36 = .ok (.aload_n 0, 1) := by decide +kernel
theorem d_M_read_37 : decode b_M_read 37 = .ok (.getfield 23, 3) := by decide +kernel
theorem d_M_read_40 : decode b_M_read 40 = .ok (.iload 4, 2) := by decide +kernel
theorem d_M_read_42 : decode b_M_read 42 = .ok (.iload_n 1, 1) := by decide +kernel
theorem d_M_read_43 : decode b_M_read 43 = .ok (.iadd, 1) := by decide +kernel
theorem d_M_read_44 : decode b_M_read 44 = .ok (.baload, 1) := by decide +kernel
theorem d_M_read_45 : decode b_M_read 45 = .ok (.bastore, 1) := by decide +kernel
theorem d_M_read_46 : decode b_M_read 46 = .ok (.iinc 4 1, 3) := by decide +kernel
theorem d_M_read_49 : decode b_M_read 49 = .ok (.goto (-46), 3) := by decide +kernel
theorem d_M_read_52 : decode b_M_read 52 = .ok (.aload_n 0, 1) := by decide +kernel
theorem d_M_read_53 : decode b_M_read 53 = .ok (.dup, 1) := by decide +kernel
theorem d_M_read_54 : decode b_M_read 54 = .ok (.getfield 114, 3) := by decide +kernel
theorem d_M_read_57 : decode b_M_read 57 = .ok (.iload_n 1, 1) := by decide +kernel
theorem d_M_read_58 : decode b_M_read 58 = .ok (.isub, 1) := by decide +kernel
theorem d_M_read_59 : decode b_M_read 59 = .ok (.putfield 114, 3) := by decide +kernel
theorem d_M_read_62 : decode b_M_read 62 = .ok (.aload_n 0, 1) := by decide +kernel
theorem d_M_read_63 : decode b_M_read 63 = .ok (.aload_n 0, 1) := by decide +kernel
theorem d_M_read_64 : decode b_M_read 64 = .ok (.getfield 95, 3) := by decide +kernel
theorem d_M_read_67 : decode b_M_read 67 = .ok (.iload_n 1, 1) := by decide +kernel
theorem d_M_read_68 : decode b_M_read 68 = .ok (.iadd, 1) := by decide +kernel
theorem d_M_read_69 : decode b_M_read 69 = .ok (.bipush 16, 2) := by decide +kernel
theorem d_M_read_71 : decode b_M_read 71 = .ok (.irem, 1) := by decide +kernel
theorem d_M_read_72 : decode b_M_read 72 = .ok (.putfield 95, 3) := by decide +kernel
theorem d_M_read_75 : decode b_M_read 75 = .ok (.aload_n 0, 1) := by decide +kernel
theorem d_M_read_76 : decode b_M_read 76 = .ok (.iload_n 1, 1) := by decide +kernel
theorem d_M_read_77 : decode b_M_read 77 = .ok (.ifCond .le 7, 3) := by decide +kernel
theorem d_M_read_80 : decode b_M_read 80 = .ok (.iconst 1, 1) := by decide +kernel
theorem d_M_read_81 : decode b_M_read 81 = .ok (.goto 7, 3) := by decide +kernel
theorem d_M_read_84 : decode b_M_read 84 = .ok (.aload_n 0, 1) := by decide +kernel
theorem d_M_read_85 : decode b_M_read 85 = .ok (.getfield 108, 3) := by decide +kernel
theorem d_M_read_88 : decode b_M_read 88 = .ok (.putfield 108, 3) := by decide +kernel
theorem d_M_read_91 : decode b_M_read 91 = .ok (.aload_n 0, 1) := by decide +kernel
theorem d_M_read_92 : decode b_M_read 92 = .ok (.getfield 114, 3) := by decide +kernel
theorem d_M_read_95 : decode b_M_read 95 = .ok (.ifCond .ne 15, 3) := by decide +kernel
theorem d_M_read_98 : decode b_M_read 98 = .ok (.iload_n 2, 1) := by decide +kernel
theorem d_M_read_99 : decode b_M_read 99 = .ok (.ifCond .eq 11, 3) := by decide +kernel
theorem d_M_read_102 : decode b_M_read 102 = .ok (.aload_n 0, 1) := by decide +kernel
theorem d_M_read_103 : decode b_M_read 103 = .ok (.iconst 3, 1) := by decide +kernel
theorem d_M_read_104 : decode b_M_read 104 = .ok (.invokevirtual 126, 3) := by decide +kernel
theorem d_M_read_107 : decode b_M_read 107 = .ok (.goto 97, 3) := by decide +kernel
theorem d_M_read_110 : decode b_M_read 110 = .ok (.iload_n 3, 1) := by decide +kernel
theorem d_M_read_111 : decode b_M_read 111 = .ok (.ifCond .eq 16, 3) := by decide +kernel
theorem d_M_read_114 : decode b_M_read 114 = .ok (.iload_n 2, 1) := by decide +kernel
theorem d_M_read_115 : decode b_M_read 115 = .ok (.ifCond .ne 12, 3) := by decide +kernel
theorem d_M_read_118 : decode b_M_read 118 = .ok (.aload_n 0, 1) := by decide +kernel
theorem d_M_read_119 : decode b_M_read 119 = .ok (.bipush 6, 2) := by decide +kernel
theorem d_M_read_121 : decode b_M_read 121 = .ok (.invokevirtual 126, 3) := by decide +kernel
theorem d_M_read_124 : decode b_M_read 124 = .ok (.goto 80, 3) := by decide +kernel
theorem d_M_read_127 : decode b_M_read 127 = .ok (.iload_n 2, 1) := by decide +kernel
theorem d_M_read_128 : decode b_M_read 128 = .ok (.ifCond .ne 30, 3) := by decide +kernel
theorem d_M_read_131 : decode b_M_read 131 = .ok (.aload_n 0, 1) := by decide +kernel
theorem d_M_read_132 : decode b_M_read 132 = .ok (.iconst 1, 1) := by decide +kernel
theorem d_M_read_133 : decode b_M_read 133 = .ok (.putfield 81, 3) := by decide +kernel
theorem d_M_read_136 : decode b_M_read 136 = .ok (.aload_n 0, 1) := by decide +kernel
theorem d_M_read_137 : decode b_M_read 137 = .ok (.aload_n 0, 1) := by decide +kernel
theorem d_M_read_138 : decode b_M_read 138 = .ok (.getfield 114, 3) := by decide +kernel
theorem d_M_read_141 : decode b_M_read 141 = .ok (.ifCond .ne 7, 3) := by decide +kernel
theorem d_M_read_144 : decode b_M_read 144 = .ok (.iconst 0, 1) := by decide +kernel
theorem d_M_read_145 : decode b_M_read 145 = .ok (.goto 7, 3) := by decide +kernel
theorem d_M_read_148 : decode b_M_read 148 = .ok (.aload_n 0, 1) := by decide +kernel
theorem d_M_read_149 : decode b_M_read 149 = .ok (.getfield 98, 3) := by decide +kernel
theorem d_M_read_152 : decode b_M_read 152 = .ok (.putfield 98, 3) := by decide +kernel
theorem d_M_read_155 : decode b_M_read 155 = .ok (.goto 49, 3) := by decide +kernel
theorem d_M_read_158 : decode b_M_read 158 = .ok (.iload_n 3, 1) := by decide +kernel
theorem d_M_read_159 : decode b_M_read 159 = .ok (.ifCond .eq 28, 3) := by decide +kernel
theorem d_M_read_162 : decode b_M_read 162 = .ok (.aload_n 0, 1) := by decide +kernel
theorem d_M_read_163 : decode b_M_read 163 = .ok (.iconst 3, 1) := by decide +kernel
theorem d_M_read_164 : decode b_M_read 164 = .ok (.putfield 81, 3) := by decide +kernel
theorem d_M_read_167 : decode b_M_read 167 = .ok (.aload_n 0, 1) := by decide +kernel
theorem d_M_read_168 : decode b_M_read 168 = .ok (.getfield 13, 3) := by decide +kernel
theorem d_M_read_171 : decode b_M_read 171 = .ok (.iconst 1, 1) := by decide +kernel
theorem d_M_read_172 : decode b_M_read 172 = .ok (.if_icmp .ne 32, 3) := by decide +kernel
theorem d_M_read_175 : decode b_M_read 175 = .ok (.iload_n 1, 1) := by decide +kernel
theorem d_M_read_176 : decode b_M_read 176 = .ok (.ifCond .le 28, 3) := by decide +kernel
theorem d_M_read_179 : decode b_M_read 179 = .ok (.aload_n 0, 1) := by decide +kernel
theorem d_M_read_180 : decode b_M_read 180 = .ok (.iconst 1, 1) := by decide +kernel
theorem d_M_read_181 : decode b_M_read 181 = .ok (.invokevirtual 126, 3) := by decide +kernel
theorem d_M_read_184 : decode b_M_read 184 = .ok (.goto 20, 3) := by decide +kernel
theorem d_M_read_187 : decode b_M_read 187 = .ok (.aload_n 0, 1) := by decide +kernel
theorem d_M_read_188 : decode b_M_read 188 = .ok (.getfield 81, 3) := by decide +kernel
theorem d_M_read_191 : decode b_M_read 191 = .ok (.iconst 2, 1) := by decide +kernel
theorem d_M_read_192 : decode b_M_read 192 = .ok (.if_icmp .ne 7, 3) := by decide +kernel
theorem d_M_read_195 : decode b_M_read 195 = .ok (.iload_n 1, 1) := by decide +kernel
theorem d_M_read_196 : decode b_M_read 196 = .ok (.ifCond .le 8, 3) := by decide +kernel
theorem d_M_read_199 : decode b_M_read 199 = .ok (.aload_n 0, 1) := by decide +kernel
theorem d_M_read_200 : decode b_M_read 200 = .ok (.iconst 2, 1) := by decide +kernel
theorem d_M_read_201 : decode b_M_read 201 = .ok (.invokevirtual 133, 3) := by decide +kernel
theorem d_M_read_204 : decode b_M_read 204 = .ok (.return_, 1) := by decide +kernel
theorem d_M_puts_0 : decode b_M_puts 0 = .ok (.aload_n 0, 1) := by decide +kernel
theorem d_M_puts_1 : decode b_M_puts 1 = .ok (.getfield 48, 3) := by decide +kernel
theorem d_M_puts_4 : decode b_M_puts 4 = .ok (.bipush 64, 2) := by decide +kernel
theorem d_M_puts_6 : decode b_M_puts 6 = .ok (.iload_n 1, 1) := by decide +kernel
theorem d_M_puts_7 : decode b_M_puts 7 = .ok (.imul, 1) := by decide +kernel
theorem d_M_puts_8 : decode b_M_puts 8 = .ok (.aload_n 0, 1) := by decide +kernel
theorem d_M_puts_9 : decode b_M_puts 9 = .ok (.getfield 42, 3) := by decide +kernel
theorem d_M_puts_12 : decode b_M_puts 12 = .ok (.iload_n 1, 1) := by decide +kernel
theorem d_M_puts_13 : decode b_M_puts 13 = .ok (.iaload, 1) := by decide +kernel
theorem d_M_puts_14 : decode b_M_puts 14 = .ok (.aload_n 0, 1) := by decide +kernel
theorem d_M_puts_15 : decode b_M_puts 15 = .ok (.getfield 45, 3) := by decide +kernel
theorem d_M_puts_18 : decode b_M_puts 18 = .ok (.iload_n 1, 1) := by decide +kernel
theorem d_M_puts_19 : decode b_M_puts 19 = .ok (.iaload, 1) := by decide +kernel
theorem d_M_puts_20 : decode b_M_puts 20 = .ok (.iadd, 1) := by decide +kernel
theorem d_M_puts_21 : decode b_M_puts 21 = .ok (.bipush 64, 2) := by decide +kernel
theorem d_M_puts_23 : decode b_M_puts 23 = .ok (.irem, 1) := by decide +kernel
theorem d_M_puts_24 : decode b_M_puts 24 = .ok (.iadd, 1) := by decide +kernel
theorem d_M_puts_25 : decode b_M_puts 25 = .ok (.iload_n 2, 1) := by decide +kernel
theorem d_M_puts_26 : decode b_M_puts 26 = .ok (.iastore, 1) := by decide +kernel
theorem d_M_puts_27 : decode b_M_puts 27 = .ok (.aload_n 0, 1) := by decide +kernel
theorem d_M_puts_28 : decode b_M_puts 28 = .ok (.getfield 45, 3) := by decide +kernel
theorem d_M_puts_31 : decode b_M_puts 31 = .ok (.iload_n 1, 1) := by decide +kernel
theorem d_M_puts_32 : decode b_M_puts 32 = .ok (.dup2, 1) := by decide +kernel
theorem d_M_puts_33 : decode b_M_puts 33 = .ok (.iaload, 1) := by decide +kernel
theorem d_M_puts_34 : decode b_M_puts 34 = .ok (.iconst 1, 1) := by decide +kernel
theorem d_M_puts_35 : decode b_M_puts 35 = .ok (.iadd, 1) := by decide +kernel
theorem d_M_puts_36 : decode b_M_puts 36 = .ok (.iastore, 1) := by decide +kernel
theorem d_M_puts_37 : decode b_M_puts 37 = .ok (.return_, 1) := by decide +kernel
theorem d_M_packet_0 : decode b_M_packet 0 = .ok (.aload_n 0, 1) := by decide +kernel
theorem d_M_packet_1 : decode b_M_packet 1 = .ok (.iload_n 1, 1) := by decide +kernel
theorem d_M_packet_2 : decode b_M_packet 2 = .ok (.iconst 0, 1) := by decide +kernel
theorem d_M_packet_3 : decode b_M_packet 3 = .ok (.iconst 1, 1) := by decide +kernel
theorem d_M_packet_4 : decode b_M_packet 4 = .ok (.invokestatic 84, 3) := by decide +kernel
theorem d_M_packet_7 : decode b_M_packet 7 = .ok (.ifCond .ne 23, 3) := by decide +kernel
theorem d_M_packet_10 : decode b_M_packet 10 = .ok (.iload_n 2, 1) := by decide +kernel
theorem d_M_packet_11 : decode b_M_packet 11 = .ok (.iconst 1, 1) := by decide +kernel
theorem d_M_packet_12 : decode b_M_packet 12 = .ok (.bipush 99, 2) := by decide +kernel
theorem d_M_packet_14 : decode b_M_packet 14 = .ok (.invokestatic 84, 3) := by decide +kernel
theorem d_M_packet_17 : decode b_M_packet 17 = .ok (.ifCond .ne 13, 3) := by decide +kernel
theorem d_M_packet_20 : decode b_M_packet 20 = .ok (.iload_n 3, 1) := by decide +kernel
theorem d_M_packet_21 : decode b_M_packet 21 = .ok (.iconst 0, 1) := by decide +kernel
theorem d_M_packet_22 : decode b_M_packet 22 = .ok (.bipush 20, 2) := by decide +kernel
theorem d_M_packet_24 : decode b_M_packet 24 = .ok (.invokestatic 84, 3) := by decide +kernel
theorem d_M_packet_27 : decode b_M_packet 27 = .ok (.ifCond .eq 7, 3) := by decide +kernel
theorem d_M_packet_30 : decode b_M_packet 30 = .ok (.iconst 1, 1) := by decide +kernel
theorem d_M_packet_31 : decode b_M_packet 31 = .ok (.goto 4, 3) := by decide +kernel
theorem d_M_packet_34 : decode b_M_packet 34 = .ok (.iconst 0, 1) := by decide +kernel
theorem d_M_packet_35 : decode b_M_packet 35 = .ok (.iconst 0, 1) := by decide +kernel
theorem d_M_packet_36 : decode b_M_packet 36 = .ok (.invokevirtual 88, 3) := by decide +kernel
theorem d_M_packet_39 : decode b_M_packet 39 = .ok (.ifCond .ne 18, 3) := by decide +kernel
theorem d_M_packet_42 : decode b_M_packet 42 = .ok (.aload_n 0, 1) := by decide +kernel
theorem d_M_packet_43 : decode b_M_packet 43 = .ok (.getfield 45, 3) := by decide +kernel
theorem d_M_packet_46 : decode b_M_packet 46 = .ok (.iload_n 1, 1) := by decide +kernel
theorem d_M_packet_47 : decode b_M_packet 47 = .ok (.iaload, 1) := by decide +kernel
theorem d_M_packet_48 : decode b_M_packet 48 = .ok (.iconst 2, 1) := by decide +kernel
theorem d_M_packet_49 : decode b_M_packet 49 = .ok (.iadd, 1) := by decide +kernel
theorem d_M_packet_50 : decode b_M_packet 50 = .ok (.iload_n 3, 1) := by decide +kernel
theorem d_M_packet_51 : decode b_M_packet 51 = .ok (.iadd, 1) := by decide +kernel
theorem d_M_packet_52 : decode b_M_packet 52 = .ok (.bipush 60, 2) := by decide +kernel
theorem d_M_packet_54 : decode b_M_packet 54 = .ok (.if_icmp .le 5, 3) := by decide +kernel
theorem d_M_packet_57 : decode b_M_packet 57 = .ok (.iconst 0, 1) := by decide +kernel
theorem d_M_packet_58 : decode b_M_packet 58 = .ok (.ireturn, 1) := by decide +kernel
theorem d_M_packet_59 : decode b_M_packet 59 = .ok (.aload_n 0, 1) := by decide +kernel
theorem d_M_packet_60 : decode b_M_packet 60 = .ok (.iload_n 1, 1) := by decide +kernel
theorem d_M_packet_61 : decode b_M_packet 61 = .ok (.iconst (-1), 1) := by decide +kernel
theorem d_M_packet_62 : decode b_M_packet 62 = .ok (.iload_n 2, 1) := by decide +kernel
theorem d_M_packet_63 : decode b_M_packet 63 = .ok (.isub, 1) := by decide +kernel
theorem d_M_packet_64 : decode b_M_packet 64 = .ok (.invokevirtual 169, 3) := by decide +kernel
theorem d_M_packet_67 : decode b_M_packet 67 = .ok (.aload_n 0, 1) := by decide +kernel
theorem d_M_packet_68 : decode b_M_packet 68 = .ok (.iload_n 1, 1) := by decide +kernel
theorem d_M_packet_69 : decode b_M_packet 69 = .ok (.iload_n 3, 1) := by decide +kernel
theorem d_M_packet_70 : decode b_M_packet 70 = .ok (.invokevirtual 169, 3) := by decide +kernel
theorem d_M_packet_73 : decode b_M_packet 73 = .ok (.iconst 0, 1) := by decide +kernel
theorem d_M_packet_74 : decode b_M_packet 74 = .ok (.istore 4, 2) := by decide +kernel
theorem d_M_packet_76 : decode b_M_packet 76 = .ok (.iload 4, 2) := by decide +kernel
theorem d_M_packet_78 : decode b_M_packet 78 = .ok (.iload_n 3, 1) := by decide +kernel
theorem d_M_packet_79 : decode b_M_packet 79 = .ok (.if_icmp .ge 21, 3) := by decide +kernel
theorem d_M_packet_82 : decode b_M_packet 82 = .ok (.aload_n 0, 1) := by decide +kernel
theorem d_M_packet_83 : decode b_M_packet 83 = .ok (.iload_n 1, 1) := by decide +kernel
theorem d_M_packet_84 : decode b_M_packet 84 = .ok (.iload_n 2, 1) := by decide +kernel
theorem d_M_packet_85 : decode b_M_packet 85 = .ok (.bipush 7, 2) := by decide +kernel
theorem d_M_packet_87 : decode b_M_packet 87 = .ok (.imul, 1) := by decide +kernel
theorem d_M_packet_88 : decode b_M_packet 88 = .ok (.iload 4, 2) := by decide +kernel
theorem d_M_packet_90 : decode b_M_packet 90 = .ok (.iadd, 1) := by decide +kernel
theorem d_M_packet_91 : decode b_M_packet 91 = .ok (.invokevirtual 169, 3) := by decide +kernel
theorem d_M_packet_94 : decode b_M_packet 94 = .ok (.iinc 4 1, 3) := by decide +kernel
theorem d_M_packet_97 : decode b_M_packet 97 = .ok (.goto (-21), 3) := by decide +kernel
theorem d_M_packet_100 : decode b_M_packet 100 = .ok (.iconst 1, 1) := by decide +kernel
theorem d_M_packet_101 : decode b_M_packet 101 = .ok (.ireturn, 1) := by decide +kernel
theorem d_M_frame_0 : decode b_M_frame 0 = .ok (.aload_n 0, 1) := by decide +kernel
theorem d_M_frame_1 : decode b_M_frame 1 = .ok (.iload_n 1, 1) := by decide +kernel
theorem d_M_frame_2 : decode b_M_frame 2 = .ok (.iconst 0, 1) := by decide +kernel
theorem d_M_frame_3 : decode b_M_frame 3 = .ok (.iconst 1, 1) := by decide +kernel
theorem d_M_frame_4 : decode b_M_frame 4 = .ok (.invokestatic 84, 3) := by decide +kernel
theorem d_M_frame_7 : decode b_M_frame 7 = .ok (.iconst 0, 1) := by decide +kernel
theorem d_M_frame_8 : decode b_M_frame 8 = .ok (.invokevirtual 88, 3) := by decide +kernel
theorem d_M_frame_11 : decode b_M_frame 11 = .ok (.ifCond .eq 5, 3) := by decide +kernel
theorem d_M_frame_14 : decode b_M_frame 14 = .ok (.iconst 0, 1) := by decide +kernel
theorem d_M_frame_15 : decode b_M_frame 15 = .ok (.ireturn, 1) := by decide +kernel
theorem d_M_frame_16 : decode b_M_frame 16 = .ok (.aload_n 0, 1) := by decide +kernel
theorem d_M_frame_17 : decode b_M_frame 17 = .ok (.getfield 45, 3) := by decide +kernel
theorem d_M_frame_20 : decode b_M_frame 20 = .ok (.iload_n 1, 1) := by decide +kernel
theorem d_M_frame_21 : decode b_M_frame 21 = .ok (.iaload, 1) := by decide +kernel
theorem d_M_frame_22 : decode b_M_frame 22 = .ok (.bipush 6, 2) := by decide +kernel
theorem d_M_frame_24 : decode b_M_frame 24 = .ok (.if_icmp .ge 59, 3) := by decide +kernel
theorem d_M_frame_27 : decode b_M_frame 27 = .ok (.aload_n 0, 1) := by decide +kernel
theorem d_M_frame_28 : decode b_M_frame 28 = .ok (.getfield 45, 3) := by decide +kernel
theorem d_M_frame_31 : decode b_M_frame 31 = .ok (.iload_n 1, 1) := by decide +kernel
theorem d_M_frame_32 : decode b_M_frame 32 = .ok (.iaload, 1) := by decide +kernel
theorem d_M_frame_33 : decode b_M_frame 33 = .ok (.iconst 5, 1) := by decide +kernel
theorem d_M_frame_34 : decode b_M_frame 34 = .ok (.if_icmp .ge 14, 3) := by decide +kernel
theorem d_M_frame_37 : decode b_M_frame 37 = .ok (.iconst 4, 1) := by decide +kernel
theorem d_M_frame_38 : decode b_M_frame 38 = .ok (.aload_n 0, 1) := by decide +kernel
theorem d_M_frame_39 : decode b_M_frame 39 = .ok (.getfield 45, 3) := by decide +kernel
theorem d_M_frame_42 : decode b_M_frame 42 = .ok (.iload_n 1, 1) := by decide +kernel
theorem d_M_frame_43 : decode b_M_frame 43 = .ok (.iaload, 1) := by decide +kernel
theorem d_M_frame_44 : decode b_M_frame 44 = .ok (.isub, 1) := by decide +kernel
theorem d_M_frame_45 : decode b_M_frame 45 = .ok (.goto 4, 3) := by decide +kernel
theorem d_M_frame_48 : decode b_M_frame 48 = .ok (.iconst 0, 1) := by decide +kernel
theorem d_M_frame_49 : decode b_M_frame 49 = .ok (.istore_n 3, 1) := by decide +kernel
theorem d_M_frame_50 : decode b_M_frame 50 = .ok (.aload_n 0, 1) := by decide +kernel
theorem d_M_frame_51 : decode b_M_frame 51 = .ok (.iload_n 1, 1) := by decide +kernel
theorem d_M_frame_52 : decode b_M_frame 52 = .ok (.iconst (-1), 1) := by decide +kernel
theorem d_M_frame_53 : decode b_M_frame 53 = .ok (.invokevirtual 169, 3) := by decide +kernel
theorem d_M_frame_56 : decode b_M_frame 56 = .ok (.aload_n 0, 1) := by decide +kernel
theorem d_M_frame_57 : decode b_M_frame 57 = .ok (.iload_n 1, 1) := by decide +kernel
theorem d_M_frame_58 : decode b_M_frame 58 = .ok (.iload_n 3, 1) := by decide +kernel
theorem d_M_frame_59 : decode b_M_frame 59 = .ok (.invokevirtual 169, 3) := by decide +kernel
theorem d_M_frame_62 : decode b_M_frame 62 = .ok (.iconst 0, 1) := by decide +kernel
theorem d_M_frame_63 : decode b_M_frame 63 = .ok (.istore 4, 2) := by decide +kernel
theorem d_M_frame_65 : decode b_M_frame 65 = .ok (.iload 4, 2) := by decide +kernel
theorem d_M_frame_67 : decode b_M_frame 67 = .ok (.iload_n 3, 1) := by decide +kernel
theorem d_M_frame_68 : decode b_M_frame 68 = .ok (.if_icmp .ge 15, 3) := by decide +kernel
theorem d_M_frame_71 : decode b_M_frame 71 = .ok (.aload_n 0, 1) := by decide +kernel
theorem d_M_frame_72 : decode b_M_frame 72 = .ok (.iload_n 1, 1) := by decide +kernel
theorem d_M_frame_73 : decode b_M_frame 73 = .ok (.iconst 0, 1) := by decide +kernel
theorem d_M_frame_74 : decode b_M_frame 74 = .ok (.invokevirtual 169, 3) := by decide +kernel
theorem d_M_frame_77 : decode b_M_frame 77 = .ok (.iinc 4 1, 3) := by decide +kernel
theorem d_M_frame_80 : decode b_M_frame 80 = .ok (.goto (-15), 3) := by decide +kernel
theorem d_M_frame_83 : decode b_M_frame 83 = .ok (.bipush 6, 2) := by decide +kernel
theorem d_M_frame_85 : decode b_M_frame 85 = .ok (.istore_n 3, 1) := by decide +kernel
theorem d_M_frame_86 : decode b_M_frame 86 = .ok (.iconst 5, 1) := by decide +kernel
theorem d_M_frame_87 : decode b_M_frame 87 = .ok (.istore 4, 2) := by decide +kernel
theorem d_M_frame_89 : decode b_M_frame 89 = .ok (.iload 4, 2) := by decide +kernel
theorem d_M_frame_91 : decode b_M_frame 91 = .ok (.ifCond .lt 55, 3) := by decide +kernel
theorem d_M_frame_94 : decode b_M_frame 94 = .ok (.aload_n 0, 1) := by decide +kernel
theorem d_M_frame_95 : decode b_M_frame 95 = .ok (.getfield 72, 3) := by decide +kernel
theorem d_M_frame_98 : decode b_M_frame 98 = .ok (.iload 4, 2) := by decide +kernel
theorem d_M_frame_100 : decode b_M_frame 100 = .ok (.aload_n 0, 1) := by decide +kernel
theorem d_M_frame_101 : decode b_M_frame 101 = .ok (.getfield 48, 3) := by decide +kernel
theorem d_M_frame_104 : decode b_M_frame 104 = .ok (.bipush 64, 2) := by decide +kernel
theorem d_M_frame_106 : decode b_M_frame 106 = .ok (.iload_n 1, 1) := by decide +kernel
theorem d_M_frame_107 : decode b_M_frame 107 = .ok (.imul, 1) := by decide +kernel
theorem d_M_frame_108 : decode b_M_frame 108 = .ok (.aload_n 0, 1) := by decide +kernel
theorem d_M_frame_109 : decode b_M_frame 109 = .ok (.getfield 42, 3) := by decide +kernel
theorem d_M_frame_112 : decode b_M_frame 112 = .ok (.iload_n 1, 1) := by decide +kernel
theorem d_M_frame_113 : decode b_M_frame 113 = .ok (.iaload, 1) := by decide +kernel
theorem d_M_frame_114 : decode b_M_frame 114 = .ok (.iload 4, 2) := by decide +kernel
theorem d_M_frame_116 : decode b_M_frame 116 = .ok (.iadd, 1) := by decide +kernel
theorem d_M_frame_117 : decode b_M_frame 117 = .ok (.bipush 64, 2) := by decide +kernel
theorem d_M_frame_119 : decode b_M_frame 119 = .ok (.irem, 1) := by decide +kernel
theorem d_M_frame_120 : decode b_M_frame 120 = .ok (.iadd, 1) := by decide +kernel
theorem d_M_frame_121 : decode b_M_frame 121 = .ok (.iaload, 1) := by decide +kernel
theorem d_M_frame_122 : decode b_M_frame 122 = .ok (.iastore, 1) := by decide +kernel
theorem d_M_frame_123 : decode b_M_frame 123 = .ok (.aload_n 0, 1) := by decide +kernel
theorem d_M_frame_124 : decode b_M_frame 124 = .ok (.getfield 72, 3) := by decide +kernel
theorem d_M_frame_127 : decode b_M_frame 127 = .ok (.iload 4, 2) := by decide +kernel
theorem d_M_frame_129 : decode b_M_frame 129 = .ok (.iaload, 1) := by decide +kernel
theorem d_M_frame_130 : decode b_M_frame 130 = .ok (.ifCond .ge 8, 3) := by decide +kernel
theorem d_M_frame_133 : decode b_M_frame 133 = .ok (.iload 4, 2) := by decide +kernel
theorem d_M_frame_135 : decode b_M_frame 135 = .ok (.goto 4, 3) := by decide +kernel
theorem d_M_frame_138 : decode b_M_frame 138 = .ok (.iload_n 3, 1) := by decide +kernel
theorem d_M_frame_139 : decode b_M_frame 139 = .ok (.istore_n 3, 1) := by decide +kernel
theorem d_M_frame_140 : decode b_M_frame 140 = .ok (.iinc 4 (-1), 3) := by decide +kernel
theorem d_M_frame_143 : decode b_M_frame 143 = .ok (.goto (-54), 3) := by decide +kernel
theorem d_M_frame_146 : decode b_M_frame 146 = .ok (.aload_n 0, 1) := by decide +kernel
theorem d_M_frame_147 : decode b_M_frame 147 = .ok (.getfield 42, 3) := by decide +kernel
theorem d_M_frame_150 : decode b_M_frame 150 = .ok (.iload_n 1, 1) := by decide +kernel
theorem d_M_frame_151 : decode b_M_frame 151 = .ok (.aload_n 0, 1) := by decide +kernel
theorem d_M_frame_152 : decode b_M_frame 152 = .ok (.getfield 42, 3) := by decide +kernel
theorem d_M_frame_155 : decode b_M_frame 155 = .ok (.iload_n 1, 1) := by decide +kernel
theorem d_M_frame_156 : decode b_M_frame 156 = .ok (.iaload, 1) := by decide +kernel
theorem d_M_frame_157 : decode b_M_frame 157 = .ok (.bipush 6, 2) := by decide +kernel
theorem d_M_frame_159 : decode b_M_frame 159 = .ok (.iadd, 1) := by decide +kernel
theorem d_M_frame_160 : decode b_M_frame 160 = .ok (.bipush 64, 2) := by decide +kernel
theorem d_M_frame_162 : decode b_M_frame 162 = .ok (.irem, 1) := by decide +kernel
theorem d_M_frame_163 : decode b_M_frame 163 = .ok (.iastore, 1) := by decide +kernel
theorem d_M_frame_164 : decode b_M_frame 164 = .ok (.aload_n 0, 1) := by decide +kernel
theorem d_M_frame_165 : decode b_M_frame 165 = .ok (.getfield 45, 3) := by decide +kernel
theorem d_M_frame_168 : decode b_M_frame 168 = .ok (.iload_n 1, 1) := by decide +kernel
theorem d_M_frame_169 : decode b_M_frame 169 = .ok (.dup2, 1) := by decide +kernel
theorem d_M_frame_170 : decode b_M_frame 170 = .ok (.iaload, 1) := by decide +kernel
theorem d_M_frame_171 : decode b_M_frame 171 = .ok (.bipush 6, 2) := by decide +kernel
theorem d_M_frame_173 : decode b_M_frame 173 = .ok (.isub, 1) := by decide +kernel
theorem d_M_frame_174 : decode b_M_frame 174 = .ok (.iastore, 1) := by decide +kernel
theorem d_M_frame_175 : decode b_M_frame 175 = .ok (.aload_n 0, 1) := by decide +kernel
theorem d_M_frame_176 : decode b_M_frame 176 = .ok (.getfield 51, 3) := by decide +kernel
theorem d_M_frame_179 : decode b_M_frame 179 = .ok (.iload_n 1, 1) := by decide +kernel
theorem d_M_frame_180 : decode b_M_frame 180 = .ok (.iaload, 1) := by decide +kernel
theorem d_M_frame_181 : decode b_M_frame 181 = .ok (.istore 4, 2) := by decide +kernel
theorem d_M_frame_183 : decode b_M_frame 183 = .ok (.aload_n 0, 1) := by decide +kernel
theorem d_M_frame_184 : decode b_M_frame 184 = .ok (.getfield 51, 3) := by decide +kernel
theorem d_M_frame_187 : decode b_M_frame 187 = .ok (.iload_n 1, 1) := by decide +kernel
theorem d_M_frame_188 : decode b_M_frame 188 = .ok (.iload 4, 2) := by decide +kernel
theorem d_M_frame_190 : decode b_M_frame 190 = .ok (.iconst 1, 1) := by decide +kernel
theorem d_M_frame_191 : decode b_M_frame 191 = .ok (.iadd, 1) := by decide +kernel
theorem d_M_frame_192 : decode b_M_frame 192 = .ok (.bipush 16, 2) := by decide +kernel
theorem d_M_frame_194 : decode b_M_frame 194 = .ok (.irem, 1) := by decide +kernel
theorem d_M_frame_195 : decode b_M_frame 195 = .ok (.iastore, 1) := by decide +kernel
theorem d_M_frame_196 : decode b_M_frame 196 = .ok (.iload_n 2, 1) := by decide +kernel
theorem d_M_frame_197 : decode b_M_frame 197 = .ok (.ifCond .ne 11, 3) := by decide +kernel
theorem d_M_frame_200 : decode b_M_frame 200 = .ok (.aload_n 0, 1) := by decide +kernel
theorem d_M_frame_201 : decode b_M_frame 201 = .ok (.iload_n 1, 1) := by decide +kernel
theorem d_M_frame_202 : decode b_M_frame 202 = .ok (.iload 4, 2) := by decide +kernel
theorem d_M_frame_204 : decode b_M_frame 204 = .ok (.iload_n 3, 1) := by decide +kernel
theorem d_M_frame_205 : decode b_M_frame 205 = .ok (.invokevirtual 172, 3) := by decide +kernel
theorem d_M_frame_208 : decode b_M_frame 208 = .ok (.iload_n 3, 1) := by decide +kernel
theorem d_M_frame_209 : decode b_M_frame 209 = .ok (.ireturn, 1) := by decide +kernel
theorem d_M_comesDown_0 : decode b_M_comesDown 0 = .ok (.aload_n 0, 1) := by decide +kernel
theorem d_M_comesDown_1 : decode b_M_comesDown 1 = .ok (.getfield 57, 3) := by decide +kernel
theorem d_M_comesDown_4 : decode b_M_comesDown 4 = .ok (.iload_n 1, 1) := by decide +kernel
theorem d_M_comesDown_5 : decode b_M_comesDown 5 = .ok (.baload, 1) := by decide +kernel
theorem d_M_comesDown_6 : decode b_M_comesDown 6 = .ok (.ifCond .ne 17, 3) := by decide +kernel
theorem d_M_comesDown_9 : decode b_M_comesDown 9 = .ok (.iload_n 2, 1) := by decide +kernel
theorem d_M_comesDown_10 : decode b_M_comesDown 10 = .ok (.aload_n 0, 1) := by decide +kernel
theorem d_M_comesDown_11 : decode b_M_comesDown 11 = .ok (.getfield 54, 3) := by decide +kernel
theorem d_M_comesDown_14 : decode b_M_comesDown 14 = .ok (.iload_n 1, 1) := by decide +kernel
theorem d_M_comesDown_15 : decode b_M_comesDown 15 = .ok (.iaload, 1) := by decide +kernel
theorem d_M_comesDown_16 : decode b_M_comesDown 16 = .ok (.if_icmp .ne 7, 3) := by decide +kernel
theorem d_M_comesDown_19 : decode b_M_comesDown 19 = .ok (.iconst 1, 1) := by decide +kernel
theorem d_M_comesDown_20 : decode b_M_comesDown 20 = .ok (.goto 4, 3) := by decide +kernel
theorem d_M_comesDown_23 : decode b_M_comesDown 23 = .ok (.iconst 0, 1) := by decide +kernel
theorem d_M_comesDown_24 : decode b_M_comesDown 24 = .ok (.istore 4, 2) := by decide +kernel
theorem d_M_comesDown_26 : decode b_M_comesDown 26 = .ok (.aload_n 0, 1) := by decide +kernel
theorem d_M_comesDown_27 : decode b_M_comesDown 27 = .ok (.getfield 54, 3) := by decide +kernel
theorem d_M_comesDown_30 : decode b_M_comesDown 30 = .ok (.iload_n 1, 1) := by decide +kernel
theorem d_M_comesDown_31 : decode b_M_comesDown 31 = .ok (.iload_n 2, 1) := by decide +kernel
theorem d_M_comesDown_32 : decode b_M_comesDown 32 = .ok (.iconst 1, 1) := by decide +kernel
theorem d_M_comesDown_33 : decode b_M_comesDown 33 = .ok (.iadd, 1) := by decide +kernel
theorem d_M_comesDown_34 : decode b_M_comesDown 34 = .ok (.bipush 16, 2) := by decide +kernel
theorem d_M_comesDown_36 : decode b_M_comesDown 36 = .ok (.irem, 1) := by decide +kernel
theorem d_M_comesDown_37 : decode b_M_comesDown 37 = .ok (.iastore, 1) := by decide +kernel
theorem d_M_comesDown_38 : decode b_M_comesDown 38 = .ok (.iload 4, 2) := by decide +kernel
theorem d_M_comesDown_40 : decode b_M_comesDown 40 = .ok (.ifCond .ne 27, 3) := by decide +kernel
theorem d_M_comesDown_43 : decode b_M_comesDown 43 = .ok (.aload_n 0, 1) := by decide +kernel
theorem d_M_comesDown_44 : decode b_M_comesDown 44 = .ok (.getfield 60, 3) := by decide +kernel
theorem d_M_comesDown_47 : decode b_M_comesDown 47 = .ok (.iload_n 1, 1) := by decide +kernel
theorem d_M_comesDown_48 : decode b_M_comesDown 48 = .ok (.iconst 0, 1) := by decide +kernel
theorem d_M_comesDown_49 : decode b_M_comesDown 49 = .ok (.iastore, 1) := by decide +kernel
theorem d_M_comesDown_50 : decode b_M_comesDown 50 = .ok (.aload_n 0, 1) := by decide +kernel
theorem d_M_comesDown_51 : decode b_M_comesDown 51 = .ok (.getfield 57, 3) := by decide +kernel
theorem d_M_comesDown_54 : decode b_M_comesDown 54 = .ok (.iload_n 1, 1) := by decide +kernel
theorem d_M_comesDown_55 : decode b_M_comesDown 55 = .ok (.iload_n 3, 1) := by decide +kernel
theorem d_M_comesDown_56 : decode b_M_comesDown 56 = .ok (.bipush 6, 2) := by decide +kernel
theorem d_M_comesDown_58 : decode b_M_comesDown 58 = .ok (.if_icmp .ne 7, 3) := by decide +kernel
theorem d_M_comesDown_61 : decode b_M_comesDown 61 = .ok (.iconst 1, 1) := by decide +kernel
theorem d_M_comesDown_62 : decode b_M_comesDown 62 = .ok (.goto 4, 3) := by decide +kernel
theorem d_M_comesDown_65 : decode b_M_comesDown 65 = .ok (.iconst 0, 1) := by decide +kernel
theorem d_M_comesDown_66 : decode b_M_comesDown 66 = .ok (.bastore, 1) := by decide +kernel
theorem d_M_comesDown_67 : decode b_M_comesDown 67 = .ok (.iload 4, 2) := by decide +kernel
theorem d_M_comesDown_69 : decode b_M_comesDown 69 = .ok (.ifCond .eq 7, 3) := by decide +kernel
theorem d_M_comesDown_72 : decode b_M_comesDown 72 = .ok (.iconst 0, 1) := by decide +kernel
theorem d_M_comesDown_73 : decode b_M_comesDown 73 = .ok (.goto 4, 3) := by decide +kernel
theorem d_M_comesDown_76 : decode b_M_comesDown 76 = .ok (.iload_n 3, 1) := by decide +kernel
theorem d_M_comesDown_77 : decode b_M_comesDown 77 = .ok (.istore 5, 2) := by decide +kernel
theorem d_M_comesDown_79 : decode b_M_comesDown 79 = .ok (.iload 5, 2) := by decide +kernel
theorem d_M_comesDown_81 : decode b_M_comesDown 81 = .ok (.bipush 6, 2) := by decide +kernel
theorem d_M_comesDown_83 : decode b_M_comesDown 83 = .ok (.if_icmp .ge 43, 3) := by decide +kernel
theorem d_M_comesDown_86 : decode b_M_comesDown 86 = .ok (.aload_n 0, 1) := by decide +kernel
theorem d_M_comesDown_87 : decode b_M_comesDown 87 = .ok (.iload_n 1, 1) := by decide +kernel
theorem d_M_comesDown_88 : decode b_M_comesDown 88 = .ok (.aload_n 0, 1) := by decide +kernel
theorem d_M_comesDown_89 : decode b_M_comesDown 89 = .ok (.getfield 72, 3) := by decide +kernel
theorem d_M_comesDown_92 : decode b_M_comesDown 92 = .ok (.iload 5, 2) := by decide +kernel
theorem d_M_comesDown_94 : decode b_M_comesDown 94 = .ok (.iaload, 1) := by decide +kernel
theorem d_M_comesDown_95 : decode b_M_comesDown 95 = .ok (.ifCond .ge 15, 3) := by decide +kernel
theorem d_M_comesDown_98 : decode b_M_comesDown 98 = .ok (.iconst (-1), 1) := by decide +kernel
theorem d_M_comesDown_99 : decode b_M_comesDown 99 = .ok (.aload_n 0, 1) := by decide +kernel
theorem d_M_comesDown_100 : decode b_M_comesDown 100 = .ok (.getfield 72, 3) := by decide +kernel
theorem d_M_comesDown_103 : decode b_M_comesDown 103 = .ok (.iload 5, 2) := by decide +kernel
theorem d_M_comesDown_105 : decode b_M_comesDown 105 = .ok (.iaload, 1) := by decide +kernel
theorem d_M_comesDown_106 : decode b_M_comesDown 106 = .ok (.isub, 1) := by decide +kernel
theorem d_M_comesDown_107 : decode b_M_comesDown 107 = .ok (.goto 10, 3) := by decide +kernel
theorem d_M_comesDown_110 : decode b_M_comesDown 110 = .ok (.aload_n 0, 1) := by decide +kernel
theorem d_M_comesDown_111 : decode b_M_comesDown 111 = .ok (.getfield 72, 3) := by decide +kernel
theorem d_M_comesDown_114 : decode b_M_comesDown 114 = .ok (.iload 5, 2) := by decide +kernel
theorem d_M_comesDown_116 : decode b_M_comesDown 116 = .ok (.iaload, 1) := by decide +kernel
theorem d_M_comesDown_117 : decode b_M_comesDown 117 = .ok (.invokevirtual 176, 3) := by decide +kernel
theorem d_M_comesDown_120 : decode b_M_comesDown 120 = .ok (.iinc 5 1, 3) := by decide +kernel
theorem d_M_comesDown_123 : decode b_M_comesDown 123 = .ok (.goto (-44), 3) := by decide +kernel
theorem d_M_comesDown_126 : decode b_M_comesDown 126 = .ok (.return_, 1) := by decide +kernel
theorem d_M_readCell_0 : decode b_M_readCell 0 = .ok (.aload_n 0, 1) := by decide +kernel
theorem d_M_readCell_1 : decode b_M_readCell 1 = .ok (.getfield 60, 3) := by decide +kernel
theorem d_M_readCell_4 : decode b_M_readCell 4 = .ok (.iload_n 1, 1) := by decide +kernel
theorem d_M_readCell_5 : decode b_M_readCell 5 = .ok (.iaload, 1) := by decide +kernel
theorem d_M_readCell_6 : decode b_M_readCell 6 = .ok (.ifCond .ne 20, 3) := by decide +kernel
theorem d_M_readCell_9 : decode b_M_readCell 9 = .ok (.aload_n 0, 1) := by decide +kernel
theorem d_M_readCell_10 : decode b_M_readCell 10 = .ok (.getfield 63, 3) := by decide +kernel
theorem d_M_readCell_13 : decode b_M_readCell 13 = .ok (.iload_n 1, 1) := by decide +kernel
theorem d_M_readCell_14 : decode b_M_readCell 14 = .ok (.iload_n 2, 1) := by decide +kernel
theorem d_M_readCell_15 : decode b_M_readCell 15 = .ok (.iastore, 1) := by decide +kernel
theorem d_M_readCell_16 : decode b_M_readCell 16 = .ok (.aload_n 0, 1) := by decide +kernel
theorem d_M_readCell_17 : decode b_M_readCell 17 = .ok (.getfield 69, 3) := by decide +kernel
theorem d_M_readCell_20 : decode b_M_readCell 20 = .ok (.iload_n 1, 1) := by decide +kernel
theorem d_M_readCell_21 : decode b_M_readCell 21 = .ok (.iconst 0, 1) := by decide +kernel
theorem d_M_readCell_22 : decode b_M_readCell 22 = .ok (.iastore, 1) := by decide +kernel
theorem d_M_readCell_23 : decode b_M_readCell 23 = .ok (.goto 33, 3) := by decide +kernel
theorem d_M_readCell_26 : decode b_M_readCell 26 = .ok (.aload_n 0, 1) := by decide +kernel
theorem d_M_readCell_27 : decode b_M_readCell 27 = .ok (.getfield 60, 3) := by decide +kernel
theorem d_M_readCell_30 : decode b_M_readCell 30 = .ok (.iload_n 1, 1) := by decide +kernel
theorem d_M_readCell_31 : decode b_M_readCell 31 = .ok (.iaload, 1) := by decide +kernel
theorem d_M_readCell_32 : decode b_M_readCell 32 = .ok (.iconst 1, 1) := by decide +kernel
theorem d_M_readCell_33 : decode b_M_readCell 33 = .ok (.if_icmp .ne 13, 3) := by decide +kernel
theorem d_M_readCell_36 : decode b_M_readCell 36 = .ok (.aload_n 0, 1) := by decide +kernel
theorem d_M_readCell_37 : decode b_M_readCell 37 = .ok (.getfield 66, 3) := by decide +kernel
theorem d_M_readCell_40 : decode b_M_readCell 40 = .ok (.iload_n 1, 1) := by decide +kernel
theorem d_M_readCell_41 : decode b_M_readCell 41 = .ok (.iload_n 2, 1) := by decide +kernel
theorem d_M_readCell_42 : decode b_M_readCell 42 = .ok (.iastore, 1) := by decide +kernel
theorem d_M_readCell_43 : decode b_M_readCell 43 = .ok (.goto 13, 3) := by decide +kernel
theorem d_M_readCell_46 : decode b_M_readCell 46 = .ok (.aload_n 0, 1) := by decide +kernel
theorem d_M_readCell_47 : decode b_M_readCell 47 = .ok (.getfield 69, 3) := by decide +kernel
theorem d_M_readCell_50 : decode b_M_readCell 50 = .ok (.iload_n 1, 1) := by decide +kernel
theorem d_M_readCell_51 : decode b_M_readCell 51 = .ok (.dup2, 1) := by decide +kernel
theorem d_M_readCell_52 : decode b_M_readCell 52 = .ok (.iaload, 1) := by decide +kernel
theorem d_M_readCell_53 : decode b_M_readCell 53 = .ok (.iload_n 2, 1) := by decide +kernel
theorem d_M_readCell_54 : decode b_M_readCell 54 = .ok (.iadd, 1) := by decide +kernel
theorem d_M_readCell_55 : decode b_M_readCell 55 = .ok (.iastore, 1) := by decide +kernel
theorem d_M_readCell_56 : decode b_M_readCell 56 = .ok (.aload_n 0, 1) := by decide +kernel
theorem d_M_readCell_57 : decode b_M_readCell 57 = .ok (.getfield 60, 3) := by decide +kernel
theorem d_M_readCell_60 : decode b_M_readCell 60 = .ok (.iload_n 1, 1) := by decide +kernel
theorem d_M_readCell_61 : decode b_M_readCell 61 = .ok (.dup2, 1) := by decide +kernel
theorem d_M_readCell_62 : decode b_M_readCell 62 = .ok (.iaload, 1) := by decide +kernel
theorem d_M_readCell_63 : decode b_M_readCell 63 = .ok (.iconst 1, 1) := by decide +kernel
theorem d_M_readCell_64 : decode b_M_readCell 64 = .ok (.iadd, 1) := by decide +kernel
theorem d_M_readCell_65 : decode b_M_readCell 65 = .ok (.iastore, 1) := by decide +kernel
theorem d_M_readCell_66 : decode b_M_readCell 66 = .ok (.aload_n 0, 1) := by decide +kernel
theorem d_M_readCell_67 : decode b_M_readCell 67 = .ok (.getfield 60, 3) := by decide +kernel
theorem d_M_readCell_70 : decode b_M_readCell 70 = .ok (.iload_n 1, 1) := by decide +kernel
theorem d_M_readCell_71 : decode b_M_readCell 71 = .ok (.iaload, 1) := by decide +kernel
theorem d_M_readCell_72 : decode b_M_readCell 72 = .ok (.iconst 2, 1) := by decide +kernel
theorem d_M_readCell_73 : decode b_M_readCell 73 = .ok (.if_icmp .lt 20, 3) := by decide +kernel
theorem d_M_readCell_76 : decode b_M_readCell 76 = .ok (.aload_n 0, 1) := by decide +kernel
theorem d_M_readCell_77 : decode b_M_readCell 77 = .ok (.getfield 60, 3) := by decide +kernel
theorem d_M_readCell_80 : decode b_M_readCell 80 = .ok (.iload_n 1, 1) := by decide +kernel
theorem d_M_readCell_81 : decode b_M_readCell 81 = .ok (.iaload, 1) := by decide +kernel
theorem d_M_readCell_82 : decode b_M_readCell 82 = .ok (.iconst 2, 1) := by decide +kernel
theorem d_M_readCell_83 : decode b_M_readCell 83 = .ok (.aload_n 0, 1) := by decide +kernel
theorem d_M_readCell_84 : decode b_M_readCell 84 = .ok (.getfield 66, 3) := by decide +kernel
theorem d_M_readCell_87 : decode b_M_readCell 87 = .ok (.iload_n 1, 1) := by decide +kernel
theorem d_M_readCell_88 : decode b_M_readCell 88 = .ok (.iaload, 1) := by decide +kernel
theorem d_M_readCell_89 : decode b_M_readCell 89 = .ok (.iadd, 1) := by decide +kernel
theorem d_M_readCell_90 : decode b_M_readCell 90 = .ok (.if_icmp .ge 4, 3) := by decide +kernel
theorem d_M_readCell_93 : decode b_M_readCell 93 = .ok (.return_, 1) := by decide +kernel
theorem d_M_readCell_94 : decode b_M_readCell 94 = .ok (.aload_n 0, 1) := by decide +kernel
theorem d_M_readCell_95 : decode b_M_readCell 95 = .ok (.getfield 60, 3) := by decide +kernel
theorem d_M_readCell_98 : decode b_M_readCell 98 = .ok (.iload_n 1, 1) := by decide +kernel
theorem d_M_readCell_99 : decode b_M_readCell 99 = .ok (.iconst 0, 1) := by decide +kernel
theorem d_M_readCell_100 : decode b_M_readCell 100 = .ok (.iastore, 1) := by decide +kernel
theorem d_M_readCell_101 : decode b_M_readCell 101 = .ok (.aload_n 0, 1) := by decide +kernel
theorem d_M_readCell_102 : decode b_M_readCell 102 = .ok (.getfield 63, 3) := by decide +kernel
theorem d_M_readCell_105 : decode b_M_readCell 105 = .ok (.iload_n 1, 1) := by decide +kernel
theorem d_M_readCell_106 : decode b_M_readCell 106 = .ok (.iaload, 1) := by decide +kernel
theorem d_M_readCell_107 : decode b_M_readCell 107 = .ok (.ifCond .eq 12, 3) := by decide +kernel
theorem d_M_readCell_110 : decode b_M_readCell 110 = .ok (.aload_n 0, 1) := by decide +kernel
theorem d_M_readCell_111 : decode b_M_readCell 111 = .ok (.getfield 179, 3) := by decide +kernel
theorem d_M_readCell_114 : decode b_M_readCell 114 = .ok (.bipush 40, 2) := by decide +kernel
theorem d_M_readCell_116 : decode b_M_readCell 116 = .ok (.if_icmp .ne 4, 3) := by decide +kernel
theorem d_M_readCell_119 : decode b_M_readCell 119 = .ok (.return_, 1) := by decide +kernel
theorem d_M_readCell_120 : decode b_M_readCell 120 = .ok (.aload_n 0, 1) := by decide +kernel
theorem d_M_readCell_121 : decode b_M_readCell 121 = .ok (.getfield 75, 3) := by decide +kernel
theorem d_M_readCell_124 : decode b_M_readCell 124 = .ok (.iconst 4, 1) := by decide +kernel
theorem d_M_readCell_125 : decode b_M_readCell 125 = .ok (.aload_n 0, 1) := by decide +kernel
theorem d_M_readCell_126 : decode b_M_readCell 126 = .ok (.getfield 179, 3) := by decide +kernel
theorem d_M_readCell_129 : decode b_M_readCell 129 = .ok (.imul, 1) := by decide +kernel
theorem d_M_readCell_130 : decode b_M_readCell 130 = .ok (.iload_n 1, 1) := by decide +kernel
theorem d_M_readCell_131 : decode b_M_readCell 131 = .ok (.iastore, 1) := by decide +kernel
theorem d_M_readCell_132 : decode b_M_readCell 132 = .ok (.aload_n 0, 1) := by decide +kernel
theorem d_M_readCell_133 : decode b_M_readCell 133 = .ok (.getfield 75, 3) := by decide +kernel
theorem d_M_readCell_136 : decode b_M_readCell 136 = .ok (.iconst 4, 1) := by decide +kernel
theorem d_M_readCell_137 : decode b_M_readCell 137 = .ok (.aload_n 0, 1) := by decide +kernel
theorem d_M_readCell_138 : decode b_M_readCell 138 = .ok (.getfield 179, 3) := by decide +kernel
theorem d_M_readCell_141 : decode b_M_readCell 141 = .ok (.imul, 1) := by decide +kernel
theorem d_M_readCell_142 : decode b_M_readCell 142 = .ok (.iconst 1, 1) := by decide +kernel
theorem d_M_readCell_143 : decode b_M_readCell 143 = .ok (.iadd, 1) := by decide +kernel
theorem d_M_readCell_144 : decode b_M_readCell 144 = .ok (.aload_n 0, 1) := by decide +kernel
theorem d_M_readCell_145 : decode b_M_readCell 145 = .ok (.getfield 63, 3) := by decide +kernel
theorem d_M_readCell_148 : decode b_M_readCell 148 = .ok (.iload_n 1, 1) := by decide +kernel
theorem d_M_readCell_149 : decode b_M_readCell 149 = .ok (.iaload, 1) := by decide +kernel
theorem d_M_readCell_150 : decode b_M_readCell 150 = .ok (.iastore, 1) := by decide +kernel
theorem d_M_readCell_151 : decode b_M_readCell 151 = .ok (.aload_n 0, 1) := by decide +kernel
theorem d_M_readCell_152 : decode b_M_readCell 152 = .ok (.getfield 75, 3) := by decide +kernel
theorem d_M_readCell_155 : decode b_M_readCell 155 = .ok (.iconst 4, 1) := by decide +kernel
theorem d_M_readCell_156 : decode b_M_readCell 156 = .ok (.aload_n 0, 1) := by decide +kernel
theorem d_M_readCell_157 : decode b_M_readCell 157 = .ok (.getfield 179, 3) := by decide +kernel
theorem d_M_readCell_160 : decode b_M_readCell 160 = .ok (.imul, 1) := by decide +kernel
theorem d_M_readCell_161 : decode b_M_readCell 161 = .ok (.iconst 2, 1) := by decide +kernel
theorem d_M_readCell_162 : decode b_M_readCell 162 = .ok (.iadd, 1) := by decide +kernel
theorem d_M_readCell_163 : decode b_M_readCell 163 = .ok (.aload_n 0, 1) := by decide +kernel
theorem d_M_readCell_164 : decode b_M_readCell 164 = .ok (.getfield 66, 3) := by decide +kernel
theorem d_M_readCell_167 : decode b_M_readCell 167 = .ok (.iload_n 1, 1) := by decide +kernel
theorem d_M_readCell_168 : decode b_M_readCell 168 = .ok (.iaload, 1) := by decide +kernel
theorem d_M_readCell_169 : decode b_M_readCell 169 = .ok (.iastore, 1) := by decide +kernel
theorem d_M_readCell_170 : decode b_M_readCell 170 = .ok (.aload_n 0, 1) := by decide +kernel
theorem d_M_readCell_171 : decode b_M_readCell 171 = .ok (.getfield 75, 3) := by decide +kernel
theorem d_M_readCell_174 : decode b_M_readCell 174 = .ok (.iconst 4, 1) := by decide +kernel
theorem d_M_readCell_175 : decode b_M_readCell 175 = .ok (.aload_n 0, 1) := by decide +kernel
theorem d_M_readCell_176 : decode b_M_readCell 176 = .ok (.getfield 179, 3) := by decide +kernel
theorem d_M_readCell_179 : decode b_M_readCell 179 = .ok (.imul, 1) := by decide +kernel
theorem d_M_readCell_180 : decode b_M_readCell 180 = .ok (.iconst 3, 1) := by decide +kernel
theorem d_M_readCell_181 : decode b_M_readCell 181 = .ok (.iadd, 1) := by decide +kernel
theorem d_M_readCell_182 : decode b_M_readCell 182 = .ok (.aload_n 0, 1) := by decide +kernel
theorem d_M_readCell_183 : decode b_M_readCell 183 = .ok (.getfield 69, 3) := by decide +kernel
theorem d_M_readCell_186 : decode b_M_readCell 186 = .ok (.iload_n 1, 1) := by decide +kernel
theorem d_M_readCell_187 : decode b_M_readCell 187 = .ok (.iaload, 1) := by decide +kernel
theorem d_M_readCell_188 : decode b_M_readCell 188 = .ok (.iastore, 1) := by decide +kernel
theorem d_M_readCell_189 : decode b_M_readCell 189 = .ok (.aload_n 0, 1) := by decide +kernel
theorem d_M_readCell_190 : decode b_M_readCell 190 = .ok (.dup, 1) := by decide +kernel
theorem d_M_readCell_191 : decode b_M_readCell 191 = .ok (.getfield 179, 3) := by decide +kernel
theorem d_M_readCell_194 : decode b_M_readCell 194 = .ok (.iconst 1, 1) := by decide +kernel
theorem d_M_readCell_195 : decode b_M_readCell 195 = .ok (.iadd, 1) := by decide +kernel
theorem d_M_readCell_196 : decode b_M_readCell 196 = .ok (.putfield 179, 3) := by decide +kernel
theorem d_M_readCell_199 : decode b_M_readCell 199 = .ok (.return_, 1) := by decide +kernel
theorem d_M_marks_0 : decode b_M_marks 0 = .ok (.iconst 0, 1) := by decide +kernel
theorem d_M_marks_1 : decode b_M_marks 1 = .ok (.istore_n 1, 1) := by decide +kernel
theorem d_M_marks_2 : decode b_M_marks 2 = .ok (.iconst 0, 1) := by decide +kernel
theorem d_M_marks_3 : decode b_M_marks 3 = .ok (.istore_n 2, 1) := by decide +kernel
theorem d_M_marks_4 : decode b_M_marks 4 = .ok (.iload_n 2, 1) := by decide +kernel
theorem d_M_marks_5 : decode b_M_marks 5 = .ok (.aload_n 0, 1) := by decide +kernel
theorem d_M_marks_6 : decode b_M_marks 6 = .ok (.getfield 114, 3) := by decide +kernel
theorem d_M_marks_9 : decode b_M_marks 9 = .ok (.if_icmp .ge 26, 3) := by decide +kernel
theorem d_M_marks_12 : decode b_M_marks 12 = .ok (.iload_n 1, 1) := by decide +kernel
theorem d_M_marks_13 : decode b_M_marks 13 = .ok (.aload_n 0, 1) := by decide +kernel
theorem d_M_marks_14 : decode b_M_marks 14 = .ok (.getfield 23, 3) := by decide +kernel
theorem d_M_marks_17 : decode b_M_marks 17 = .ok (.iload_n 2, 1) := by decide +kernel
theorem d_M_marks_18 : decode b_M_marks 18 = .ok (.baload, 1) := by decide +kernel
theorem d_M_marks_19 : decode b_M_marks 19 = .ok (.ifCond .eq 7, 3) := by decide +kernel
theorem d_M_marks_22 : decode b_M_marks 22 = .ok (.iconst 1, 1) := by decide +kernel
theorem d_M_marks_23 : decode b_M_marks 23 = .ok (.goto 4, 3) := by decide +kernel
theorem d_M_marks_26 : decode b_M_marks 26 = .ok (.iconst 0, 1) := by decide +kernel
theorem d_M_marks_27 : decode b_M_marks 27 = .ok (.iadd, 1) := by decide +kernel
theorem d_M_marks_28 : decode b_M_marks 28 = .ok (.istore_n 1, 1) := by decide +kernel
theorem d_M_marks_29 : decode b_M_marks 29 = .ok (.iinc 2 1, 3) := by decide +kernel
theorem d_M_marks_32 : decode b_M_marks 32 = .ok (.goto (-28), 3) := by decide +kernel
theorem d_M_marks_35 : decode b_M_marks 35 = .ok (.iload_n 1, 1) := by decide +kernel
theorem d_M_marks_36 : decode b_M_marks 36 = .ok (.ireturn, 1) := by decide +kernel
theorem d_M_ground_0 : decode b_M_ground 0 = .ok (.aload_n 0, 1) := by decide +kernel
theorem d_M_ground_1 : decode b_M_ground 1 = .ok (.iload_n 1, 1) := by decide +kernel
theorem d_M_ground_2 : decode b_M_ground 2 = .ok (.iconst 0, 1) := by decide +kernel
theorem d_M_ground_3 : decode b_M_ground 3 = .ok (.bipush 10, 2) := by decide +kernel
theorem d_M_ground_5 : decode b_M_ground 5 = .ok (.invokestatic 84, 3) := by decide +kernel
theorem d_M_ground_8 : decode b_M_ground 8 = .ok (.iconst 0, 1) := by decide +kernel
theorem d_M_ground_9 : decode b_M_ground 9 = .ok (.invokevirtual 88, 3) := by decide +kernel
theorem d_M_ground_12 : decode b_M_ground 12 = .ok (.ifCond .eq 5, 3) := by decide +kernel
theorem d_M_ground_15 : decode b_M_ground 15 = .ok (.iconst 0, 1) := by decide +kernel
theorem d_M_ground_16 : decode b_M_ground 16 = .ok (.ireturn, 1) := by decide +kernel
theorem d_M_ground_17 : decode b_M_ground 17 = .ok (.iload_n 1, 1) := by decide +kernel
theorem d_M_ground_18 : decode b_M_ground 18 = .ok (.tableswitch 112 0 9 #[54, 59, 64, 69, 74, 79, 92, 97, 102, 107], 54) := by decide +kernel
theorem d_M_ground_72 : decode b_M_ground 72 = .ok (.aload_n 0, 1) := by decide +kernel
theorem d_M_ground_73 : decode b_M_ground 73 = .ok (.getfield 81, 3) := by decide +kernel
theorem d_M_ground_76 : decode b_M_ground 76 = .ok (.ireturn, 1) := by decide +kernel
theorem d_M_ground_77 : decode b_M_ground 77 = .ok (.aload_n 0, 1) := by decide +kernel
theorem d_M_ground_78 : decode b_M_ground 78 = .ok (.getfield 92, 3) := by decide +kernel
theorem d_M_ground_81 : decode b_M_ground 81 = .ok (.ireturn, 1) := by decide +kernel
theorem d_M_ground_82 : decode b_M_ground 82 = .ok (.aload_n 0, 1) := by decide +kernel
theorem d_M_ground_83 : decode b_M_ground 83 = .ok (.getfield 95, 3) := by decide +kernel
theorem d_M_ground_86 : decode b_M_ground 86 = .ok (.ireturn, 1) := by decide +kernel
theorem d_M_ground_87 : decode b_M_ground 87 = .ok (.aload_n 0, 1) := by decide +kernel
theorem d_M_ground_88 : decode b_M_ground 88 = .ok (.getfield 114, 3) := by decide +kernel
theorem d_M_ground_91 : decode b_M_ground 91 = .ok (.ireturn, 1) := by decide +kernel
theorem d_M_ground_92 : decode b_M_ground 92 = .ok (.aload_n 0, 1) := by decide +kernel
theorem d_M_ground_93 : decode b_M_ground 93 = .ok (.invokevirtual 182, 3) := by decide +kernel
theorem d_M_ground_96 : decode b_M_ground 96 = .ok (.ireturn, 1) := by decide +kernel
theorem d_M_ground_97 : decode b_M_ground 97 = .ok (.aload_n 0, 1) := by decide +kernel
theorem d_M_ground_98 : decode b_M_ground 98 = .ok (.getfield 117, 3) := by decide +kernel
theorem d_M_ground_101 : decode b_M_ground 101 = .ok (.ifCond .eq 7, 3) := by decide +kernel
theorem d_M_ground_104 : decode b_M_ground 104 = .ok (.iconst 1, 1) := by decide +kernel
theorem d_M_ground_105 : decode b_M_ground 105 = .ok (.goto 4, 3) := by decide +kernel
theorem d_M_ground_108 : decode b_M_ground 108 = .ok (.iconst 0, 1) := by decide +kernel
theorem d_M_ground_109 : decode b_M_ground 109 = .ok (.ireturn, 1) := by decide +kernel
theorem d_M_ground_110 : decode b_M_ground 110 = .ok (.aload_n 0, 1) := by decide +kernel
theorem d_M_ground_111 : decode b_M_ground 111 = .ok (.getfield 108, 3) := by decide +kernel
theorem d_M_ground_114 : decode b_M_ground 114 = .ok (.ireturn, 1) := by decide +kernel
theorem d_M_ground_115 : decode b_M_ground 115 = .ok (.aload_n 0, 1) := by decide +kernel
theorem d_M_ground_116 : decode b_M_ground 116 = .ok (.getfield 98, 3) := by decide +kernel
theorem d_M_ground_119 : decode b_M_ground 119 = .ok (.ireturn, 1) := by decide +kernel
theorem d_M_ground_120 : decode b_M_ground 120 = .ok (.aload_n 0, 1) := by decide +kernel
theorem d_M_ground_121 : decode b_M_ground 121 = .ok (.getfield 111, 3) := by decide +kernel
theorem d_M_ground_124 : decode b_M_ground 124 = .ok (.ireturn, 1) := by decide +kernel
theorem d_M_ground_125 : decode b_M_ground 125 = .ok (.aload_n 0, 1) := by decide +kernel
theorem d_M_ground_126 : decode b_M_ground 126 = .ok (.getfield 130, 3) := by decide +kernel
theorem d_M_ground_129 : decode b_M_ground 129 = .ok (.ireturn, 1) := by decide +kernel
theorem d_M_ground_130 : decode b_M_ground 130 = .ok (.aload_n 0, 1) := by decide +kernel
theorem d_M_ground_131 : decode b_M_ground 131 = .ok (.getfield 162, 3) := by decide +kernel
theorem d_M_ground_134 : decode b_M_ground 134 = .ok (.ireturn, 1) := by decide +kernel
theorem d_M_craft_0 : decode b_M_craft 0 = .ok (.aload_n 0, 1) := by decide +kernel
theorem d_M_craft_1 : decode b_M_craft 1 = .ok (.iload_n 1, 1) := by decide +kernel
theorem d_M_craft_2 : decode b_M_craft 2 = .ok (.iconst 0, 1) := by decide +kernel
theorem d_M_craft_3 : decode b_M_craft 3 = .ok (.iconst 5, 1) := by decide +kernel
theorem d_M_craft_4 : decode b_M_craft 4 = .ok (.invokestatic 84, 3) := by decide +kernel
theorem d_M_craft_7 : decode b_M_craft 7 = .ok (.iconst 0, 1) := by decide +kernel
theorem d_M_craft_8 : decode b_M_craft 8 = .ok (.invokevirtual 88, 3) := by decide +kernel
theorem d_M_craft_11 : decode b_M_craft 11 = .ok (.ifCond .eq 5, 3) := by decide +kernel
theorem d_M_craft_14 : decode b_M_craft 14 = .ok (.iconst 0, 1) := by decide +kernel
theorem d_M_craft_15 : decode b_M_craft 15 = .ok (.ireturn, 1) := by decide +kernel
theorem d_M_craft_16 : decode b_M_craft 16 = .ok (.iload_n 1, 1) := by decide +kernel
theorem d_M_craft_17 : decode b_M_craft 17 = .ok (.tableswitch 70 0 4 #[35, 40, 45, 58, 63], 35) := by decide +kernel
theorem d_M_craft_52 : decode b_M_craft 52 = .ok (.aload_n 0, 1) := by decide +kernel
theorem d_M_craft_53 : decode b_M_craft 53 = .ok (.getfield 153, 3) := by decide +kernel
theorem d_M_craft_56 : decode b_M_craft 56 = .ok (.ireturn, 1) := by decide +kernel
theorem d_M_craft_57 : decode b_M_craft 57 = .ok (.aload_n 0, 1) := by decide +kernel
theorem d_M_craft_58 : decode b_M_craft 58 = .ok (.getfield 146, 3) := by decide +kernel
theorem d_M_craft_61 : decode b_M_craft 61 = .ok (.ireturn, 1) := by decide +kernel
theorem d_M_craft_62 : decode b_M_craft 62 = .ok (.aload_n 0, 1) := by decide +kernel
theorem d_M_craft_63 : decode b_M_craft 63 = .ok (.getfield 156, 3) := by decide +kernel
theorem d_M_craft_66 : decode b_M_craft 66 = .ok (.ifCond .eq 7, 3) := by decide +kernel
theorem d_M_craft_69 : decode b_M_craft 69 = .ok (.iconst 1, 1) := by decide +kernel
theorem d_M_craft_70 : decode b_M_craft 70 = .ok (.goto 4, 3) := by decide +kernel
theorem d_M_craft_73 : decode b_M_craft 73 = .ok (.iconst 0, 1) := by decide +kernel
theorem d_M_craft_74 : decode b_M_craft 74 = .ok (.ireturn, 1) := by decide +kernel
theorem d_M_craft_75 : decode b_M_craft 75 = .ok (.aload_n 0, 1) := by decide +kernel
theorem d_M_craft_76 : decode b_M_craft 76 = .ok (.getfield 159, 3) := by decide +kernel
theorem d_M_craft_79 : decode b_M_craft 79 = .ok (.ireturn, 1) := by decide +kernel
theorem d_M_craft_80 : decode b_M_craft 80 = .ok (.aload_n 0, 1) := by decide +kernel
theorem d_M_craft_81 : decode b_M_craft 81 = .ok (.getfield 45, 3) := by decide +kernel
theorem d_M_craft_84 : decode b_M_craft 84 = .ok (.iconst 0, 1) := by decide +kernel
theorem d_M_craft_85 : decode b_M_craft 85 = .ok (.iaload, 1) := by decide +kernel
theorem d_M_craft_86 : decode b_M_craft 86 = .ok (.ireturn, 1) := by decide +kernel
theorem d_M_craft_87 : decode b_M_craft 87 = .ok (.aload_n 0, 1) := by decide +kernel
theorem d_M_craft_88 : decode b_M_craft 88 = .ok (.getfield 45, 3) := by decide +kernel
theorem d_M_craft_91 : decode b_M_craft 91 = .ok (.iconst 1, 1) := by decide +kernel
theorem d_M_craft_92 : decode b_M_craft 92 = .ok (.iaload, 1) := by decide +kernel
theorem d_M_craft_93 : decode b_M_craft 93 = .ok (.ireturn, 1) := by decide +kernel
theorem d_M_flight_0 : decode b_M_flight 0 = .ok (.aload_n 0, 1) := by decide +kernel
theorem d_M_flight_1 : decode b_M_flight 1 = .ok (.iload_n 1, 1) := by decide +kernel
theorem d_M_flight_2 : decode b_M_flight 2 = .ok (.iconst 0, 1) := by decide +kernel
theorem d_M_flight_3 : decode b_M_flight 3 = .ok (.aload_n 0, 1) := by decide +kernel
theorem d_M_flight_4 : decode b_M_flight 4 = .ok (.getfield 130, 3) := by decide +kernel
theorem d_M_flight_7 : decode b_M_flight 7 = .ok (.iconst 1, 1) := by decide +kernel
theorem d_M_flight_8 : decode b_M_flight 8 = .ok (.isub, 1) := by decide +kernel
theorem d_M_flight_9 : decode b_M_flight 9 = .ok (.invokestatic 84, 3) := by decide +kernel
theorem d_M_flight_12 : decode b_M_flight 12 = .ok (.iconst 0, 1) := by decide +kernel
theorem d_M_flight_13 : decode b_M_flight 13 = .ok (.invokevirtual 88, 3) := by decide +kernel
theorem d_M_flight_16 : decode b_M_flight 16 = .ok (.ifCond .eq 5, 3) := by decide +kernel
theorem d_M_flight_19 : decode b_M_flight 19 = .ok (.iconst 0, 1) := by decide +kernel
theorem d_M_flight_20 : decode b_M_flight 20 = .ok (.ireturn, 1) := by decide +kernel
theorem d_M_flight_21 : decode b_M_flight 21 = .ok (.iload_n 2, 1) := by decide +kernel
theorem d_M_flight_22 : decode b_M_flight 22 = .ok (.ifCond .ne 12, 3) := by decide +kernel
theorem d_M_flight_25 : decode b_M_flight 25 = .ok (.aload_n 0, 1) := by decide +kernel
theorem d_M_flight_26 : decode b_M_flight 26 = .ok (.getfield 27, 3) := by decide +kernel
theorem d_M_flight_29 : decode b_M_flight 29 = .ok (.iload_n 1, 1) := by decide +kernel
theorem d_M_flight_30 : decode b_M_flight 30 = .ok (.iaload, 1) := by decide +kernel
theorem d_M_flight_31 : decode b_M_flight 31 = .ok (.goto 32, 3) := by decide +kernel
theorem d_M_flight_34 : decode b_M_flight 34 = .ok (.iload_n 2, 1) := by decide +kernel
theorem d_M_flight_35 : decode b_M_flight 35 = .ok (.iconst 1, 1) := by decide +kernel
theorem d_M_flight_36 : decode b_M_flight 36 = .ok (.if_icmp .ne 12, 3) := by decide +kernel
theorem d_M_flight_39 : decode b_M_flight 39 = .ok (.aload_n 0, 1) := by decide +kernel
theorem d_M_flight_40 : decode b_M_flight 40 = .ok (.getfield 30, 3) := by decide +kernel
theorem d_M_flight_43 : decode b_M_flight 43 = .ok (.iload_n 1, 1) := by decide +kernel
theorem d_M_flight_44 : decode b_M_flight 44 = .ok (.iaload, 1) := by decide +kernel
theorem d_M_flight_45 : decode b_M_flight 45 = .ok (.goto 18, 3) := by decide +kernel
theorem d_M_flight_48 : decode b_M_flight 48 = .ok (.iload_n 2, 1) := by decide +kernel
theorem d_M_flight_49 : decode b_M_flight 49 = .ok (.iconst 2, 1) := by decide +kernel
theorem d_M_flight_50 : decode b_M_flight 50 = .ok (.if_icmp .ne 12, 3) := by decide +kernel
theorem d_M_flight_53 : decode b_M_flight 53 = .ok (.aload_n 0, 1) := by decide +kernel
theorem d_M_flight_54 : decode b_M_flight 54 = .ok (.getfield 33, 3) := by decide +kernel
theorem d_M_flight_57 : decode b_M_flight 57 = .ok (.iload_n 1, 1) := by decide +kernel
theorem d_M_flight_58 : decode b_M_flight 58 = .ok (.iaload, 1) := by decide +kernel
theorem d_M_flight_59 : decode b_M_flight 59 = .ok (.goto 4, 3) := by decide +kernel
theorem d_M_flight_62 : decode b_M_flight 62 = .ok (.iconst 0, 1) := by decide +kernel
theorem d_M_flight_63 : decode b_M_flight 63 = .ok (.ireturn, 1) := by decide +kernel
theorem d_M_packets_0 : decode b_M_packets 0 = .ok (.aload_n 0, 1) := by decide +kernel
theorem d_M_packets_1 : decode b_M_packets 1 = .ok (.iconst 0, 1) := by decide +kernel
theorem d_M_packets_2 : decode b_M_packets 2 = .ok (.putfield 78, 3) := by decide +kernel
theorem d_M_packets_5 : decode b_M_packets 5 = .ok (.aload_n 0, 1) := by decide +kernel
theorem d_M_packets_6 : decode b_M_packets 6 = .ok (.getfield 179, 3) := by decide +kernel
theorem d_M_packets_9 : decode b_M_packets 9 = .ok (.ireturn, 1) := by decide +kernel
theorem d_M_got_0 : decode b_M_got 0 = .ok (.aload_n 0, 1) := by decide +kernel
theorem d_M_got_1 : decode b_M_got 1 = .ok (.iload_n 1, 1) := by decide +kernel
theorem d_M_got_2 : decode b_M_got 2 = .ok (.iconst 0, 1) := by decide +kernel
theorem d_M_got_3 : decode b_M_got 3 = .ok (.aload_n 0, 1) := by decide +kernel
theorem d_M_got_4 : decode b_M_got 4 = .ok (.getfield 179, 3) := by decide +kernel
theorem d_M_got_7 : decode b_M_got 7 = .ok (.iconst 1, 1) := by decide +kernel
theorem d_M_got_8 : decode b_M_got 8 = .ok (.isub, 1) := by decide +kernel
theorem d_M_got_9 : decode b_M_got 9 = .ok (.invokestatic 84, 3) := by decide +kernel
theorem d_M_got_12 : decode b_M_got 12 = .ok (.iconst 0, 1) := by decide +kernel
theorem d_M_got_13 : decode b_M_got 13 = .ok (.invokevirtual 88, 3) := by decide +kernel
theorem d_M_got_16 : decode b_M_got 16 = .ok (.ifCond .eq 5, 3) := by decide +kernel
theorem d_M_got_19 : decode b_M_got 19 = .ok (.iconst 0, 1) := by decide +kernel
theorem d_M_got_20 : decode b_M_got 20 = .ok (.ireturn, 1) := by decide +kernel
theorem d_M_got_21 : decode b_M_got 21 = .ok (.iload_n 2, 1) := by decide +kernel
theorem d_M_got_22 : decode b_M_got 22 = .ok (.iconst 0, 1) := by decide +kernel
theorem d_M_got_23 : decode b_M_got 23 = .ok (.iconst 3, 1) := by decide +kernel
theorem d_M_got_24 : decode b_M_got 24 = .ok (.invokestatic 84, 3) := by decide +kernel
theorem d_M_got_27 : decode b_M_got 27 = .ok (.ifCond .eq 7, 3) := by decide +kernel
theorem d_M_got_30 : decode b_M_got 30 = .ok (.iconst 0, 1) := by decide +kernel
theorem d_M_got_31 : decode b_M_got 31 = .ok (.goto 13, 3) := by decide +kernel
theorem d_M_got_34 : decode b_M_got 34 = .ok (.aload_n 0, 1) := by decide +kernel
theorem d_M_got_35 : decode b_M_got 35 = .ok (.getfield 75, 3) := by decide +kernel
theorem d_M_got_38 : decode b_M_got 38 = .ok (.iconst 4, 1) := by decide +kernel
theorem d_M_got_39 : decode b_M_got 39 = .ok (.iload_n 1, 1) := by decide +kernel
theorem d_M_got_40 : decode b_M_got 40 = .ok (.imul, 1) := by decide +kernel
theorem d_M_got_41 : decode b_M_got 41 = .ok (.iload_n 2, 1) := by decide +kernel
theorem d_M_got_42 : decode b_M_got 42 = .ok (.iadd, 1) := by decide +kernel
theorem d_M_got_43 : decode b_M_got 43 = .ok (.iaload, 1) := by decide +kernel
theorem d_M_got_44 : decode b_M_got 44 = .ok (.ireturn, 1) := by decide +kernel
end
section
/-! The judgement J: W over pure data. A state is a function: cell h, place j. -/
abbrev Jst : Type := Nat → Nat → Int32
/-- cell h, place j becomes x -/
def jup (σ : Jst) (h j : Nat) (x : Int32) : Jst := fun a => cond (Nat.beq a h) (upd (σ a) j x) (σ a)
def J (p : Program) (l : Launch) (e : Env) (R : Room) (s : State) (m : MethodId) (args : Array Value) (below : List Frame) (meth : Method) (c : Code) (D : va_G) (cl : List vw_C) (wl : Jst → va_W) (A : Nat → Prop) (nL cells slots : Nat) (Q : State → Prop) (pc : Nat) (loc : List (Nat × Value)) (st : List Value) (σ : Jst) : Prop :=
  ∀ (H : Heap) (locs : List Loc) (ls : Array Slot), lv_has ls nL loc → va_P D cl (wl σ) H → va_S A s.heap H locs → W p l e R s m args below meth c H locs cells slots Q (F0 m pc ls st)
/-- a fact of tables and of cells outside A: it stays -/
def Jk (A : Nat → Prop) (N0 : State → Prop) : Prop := ∀ (s U : State), s.WarmedH U.vm → s.heap.size ≤ U.heap.size → (∀ q : Nat, q < s.heap.size → ¬ A q → U.heap[q]? = s.heap[q]?) → N0 s → N0 U
/-- what stays the same through a method's walk -/
def Cx (p : Program) (s : State) (m : MethodId) (args : Array Value) (c : Code) (cc : ByteArray) (nL : Nat) (own : String) (Ts : List Cond) (D : va_G) (cl : List vw_C) (tys : List (ClassId × FieldType)) (wl : Jst → va_W) (A : Nat → Prop) (N0 : State → Prop) : Prop :=
  p.tables.exec = Jvm.exec ∧ c.code = cc ∧ c.maxLocals = nL ∧ s.vm.findClass own = some m.cls ∧ (∀ w ∈ Ts, w.before args s = true) ∧ va_K D cl tys s ∧ (∀ σ, va_D A (wl σ)) ∧ N0 s ∧ Jk A N0
/-- a world between calls -/
abbrev Jw (D : va_G) (cl : List vw_C) (tys : List (ClassId × FieldType)) (wl : Jst → va_W) (N0 : State → Prop) (σ : Jst) (U : State) : Prop := va_P D cl (wl σ) U.heap ∧ va_K D cl tys U ∧ N0 U
abbrev Jq (D : va_G) (cl : List vw_C) (wl : Jst → va_W) (σ : Jst) (U : State) : Prop := va_P D cl (wl σ) U.heap
section JJ
variable {p : Program} {l : Launch} {e : Env} {R : Room} {s : State} {m : MethodId} {args : Array Value} {below : List Frame} {meth : Method} {c : Code} {cells slots : Nat} {Q : State → Prop}
variable {cc : ByteArray} {pc nL : Nat} {rest : List Value} {loc loc' : List (Nat × Value)} {wl : Jst → va_W} {D : va_G} {cl : List vw_C} {tys : List (ClassId × FieldType)} {A : Nat → Prop} {N0 : State → Prop} {σ : Jst} {own : String} {Ts : List Cond}
theorem j_iconst (X : Cx p s m args c cc nL own Ts D cl tys wl A N0) {n : Int} {v : Int32} (d : decode cc pc = .ok (.iconst n, 1)) (hv : Int32.ofInt n = v) (k : J p l e R s m args below meth c D cl wl A nL cells slots Q (pc + 1) loc (.int v :: rest) σ) : J p l e R s m args below meth c D cl wl A nL cells slots Q pc loc rest σ := fun H locs ls hl hP hS => lv_iconst X.1 X.2.1 d hv (k H locs ls hl hP hS)
theorem j_bipush (X : Cx p s m args c cc nL own Ts D cl tys wl A N0) {n : Int} {v : Int32} (d : decode cc pc = .ok (.bipush n, 2)) (hv : (Int8.ofInt n).toInt32 = v) (k : J p l e R s m args below meth c D cl wl A nL cells slots Q (pc + 2) loc (.int v :: rest) σ) : J p l e R s m args below meth c D cl wl A nL cells slots Q pc loc rest σ := fun H locs ls hl hP hS => lv_bipush X.1 X.2.1 d hv (k H locs ls hl hP hS)
theorem j_sipush (X : Cx p s m args c cc nL own Ts D cl tys wl A N0) {n : Int} {v : Int32} (d : decode cc pc = .ok (.sipush n, 3)) (hv : (Int16.ofInt n).toInt32 = v) (k : J p l e R s m args below meth c D cl wl A nL cells slots Q (pc + 3) loc (.int v :: rest) σ) : J p l e R s m args below meth c D cl wl A nL cells slots Q pc loc rest σ := fun H locs ls hl hP hS => lv_sipush X.1 X.2.1 d hv (k H locs ls hl hP hS)
theorem j_lconst (X : Cx p s m args c cc nL own Ts D cl tys wl A N0) {n : Fin 2} {v : Int64} (d : decode cc pc = .ok (.lconst n, 1)) (hv : Int64.ofNat (n : Nat) = v) (k : J p l e R s m args below meth c D cl wl A nL cells slots Q (pc + 1) loc (.long v :: rest) σ) : J p l e R s m args below meth c D cl wl A nL cells slots Q pc loc rest σ := fun H locs ls hl hP hS => lv_lconst X.1 X.2.1 d hv (k H locs ls hl hP hS)
theorem j_iload_n (X : Cx p s m args c cc nL own Ts D cl tys wl A N0) {k0 : Fin 4} {i : Nat} {x : Int32} (d : decode cc pc = .ok (.iload_n k0, 1)) (hi : (k0 : Nat) = i) (j : Nat) (hj : loc[j]? = some (i, .int x)) (k : J p l e R s m args below meth c D cl wl A nL cells slots Q (pc + 1) loc (.int x :: rest) σ) : J p l e R s m args below meth c D cl wl A nL cells slots Q pc loc rest σ := fun H locs ls hl hP hS => lv_iload_n X.1 X.2.1 d hi (lv_at hl j hj) (k H locs ls hl hP hS)
theorem j_iload (X : Cx p s m args c cc nL own Ts D cl tys wl A N0) {i : Nat} {x : Int32} (d : decode cc pc = .ok (.iload i, 2)) (j : Nat) (hj : loc[j]? = some (i, .int x)) (k : J p l e R s m args below meth c D cl wl A nL cells slots Q (pc + 2) loc (.int x :: rest) σ) : J p l e R s m args below meth c D cl wl A nL cells slots Q pc loc rest σ := fun H locs ls hl hP hS => lv_iload X.1 X.2.1 d (lv_at hl j hj) (k H locs ls hl hP hS)
theorem j_lload_n (X : Cx p s m args c cc nL own Ts D cl tys wl A N0) {k0 : Fin 4} {i : Nat} {x : Int64} (d : decode cc pc = .ok (.lload_n k0, 1)) (hi : (k0 : Nat) = i) (j : Nat) (hj : loc[j]? = some (i, .long x)) (k : J p l e R s m args below meth c D cl wl A nL cells slots Q (pc + 1) loc (.long x :: rest) σ) : J p l e R s m args below meth c D cl wl A nL cells slots Q pc loc rest σ := fun H locs ls hl hP hS => lv_lload_n X.1 X.2.1 d hi (lv_at hl j hj) (k H locs ls hl hP hS)
theorem j_lload (X : Cx p s m args c cc nL own Ts D cl tys wl A N0) {i : Nat} {x : Int64} (d : decode cc pc = .ok (.lload i, 2)) (j : Nat) (hj : loc[j]? = some (i, .long x)) (k : J p l e R s m args below meth c D cl wl A nL cells slots Q (pc + 2) loc (.long x :: rest) σ) : J p l e R s m args below meth c D cl wl A nL cells slots Q pc loc rest σ := fun H locs ls hl hP hS => lv_lload X.1 X.2.1 d (lv_at hl j hj) (k H locs ls hl hP hS)
theorem j_aload_n (X : Cx p s m args c cc nL own Ts D cl tys wl A N0) {k0 : Fin 4} {i : Nat} {x : Nat} (d : decode cc pc = .ok (.aload_n k0, 1)) (hi : (k0 : Nat) = i) (j : Nat) (hj : loc[j]? = some (i, .ref x)) (k : J p l e R s m args below meth c D cl wl A nL cells slots Q (pc + 1) loc (.ref x :: rest) σ) : J p l e R s m args below meth c D cl wl A nL cells slots Q pc loc rest σ := fun H locs ls hl hP hS => lv_aload_n X.1 X.2.1 d hi (lv_at hl j hj) (k H locs ls hl hP hS)
theorem j_aload (X : Cx p s m args c cc nL own Ts D cl tys wl A N0) {i : Nat} {x : Nat} (d : decode cc pc = .ok (.aload i, 2)) (j : Nat) (hj : loc[j]? = some (i, .ref x)) (k : J p l e R s m args below meth c D cl wl A nL cells slots Q (pc + 2) loc (.ref x :: rest) σ) : J p l e R s m args below meth c D cl wl A nL cells slots Q pc loc rest σ := fun H locs ls hl hP hS => lv_aload X.1 X.2.1 d (lv_at hl j hj) (k H locs ls hl hP hS)
theorem j_istore_n (X : Cx p s m args c cc nL own Ts D cl tys wl A N0) {k0 : Fin 4} {i : Nat} {x : Int32} (d : decode cc pc = .ok (.istore_n k0, 1)) (hi : (k0 : Nat) = i) (hn : i < nL) (hl' : (i, Value.int x) :: loc.filter (fun q => !(q.1 == i) && !(q.1 + 1 == i && q.2.category == 2)) = loc') (k : J p l e R s m args below meth c D cl wl A nL cells slots Q (pc + 1) loc' rest σ) : J p l e R s m args below meth c D cl wl A nL cells slots Q pc loc (.int x :: rest) σ := fun H locs ls hl hP hS => lv_istore_n X.1 X.2.1 d hi hl hn hl' (fun ls' h' => k H locs ls' h' hP hS)
theorem j_istore (X : Cx p s m args c cc nL own Ts D cl tys wl A N0) {i : Nat} {x : Int32} (d : decode cc pc = .ok (.istore i, 2)) (hn : i < nL) (hl' : (i, Value.int x) :: loc.filter (fun q => !(q.1 == i) && !(q.1 + 1 == i && q.2.category == 2)) = loc') (k : J p l e R s m args below meth c D cl wl A nL cells slots Q (pc + 2) loc' rest σ) : J p l e R s m args below meth c D cl wl A nL cells slots Q pc loc (.int x :: rest) σ := fun H locs ls hl hP hS => lv_istore X.1 X.2.1 d hl hn hl' (fun ls' h' => k H locs ls' h' hP hS)
theorem j_astore_n (X : Cx p s m args c cc nL own Ts D cl tys wl A N0) {k0 : Fin 4} {i : Nat} {x : Nat} (d : decode cc pc = .ok (.astore_n k0, 1)) (hi : (k0 : Nat) = i) (hn : i < nL) (hl' : (i, Value.ref x) :: loc.filter (fun q => !(q.1 == i) && !(q.1 + 1 == i && q.2.category == 2)) = loc') (k : J p l e R s m args below meth c D cl wl A nL cells slots Q (pc + 1) loc' rest σ) : J p l e R s m args below meth c D cl wl A nL cells slots Q pc loc (.ref x :: rest) σ := fun H locs ls hl hP hS => lv_astore_n X.1 X.2.1 d hi hl hn hl' (fun ls' h' => k H locs ls' h' hP hS)
theorem j_astore (X : Cx p s m args c cc nL own Ts D cl tys wl A N0) {i : Nat} {x : Nat} (d : decode cc pc = .ok (.astore i, 2)) (hn : i < nL) (hl' : (i, Value.ref x) :: loc.filter (fun q => !(q.1 == i) && !(q.1 + 1 == i && q.2.category == 2)) = loc') (k : J p l e R s m args below meth c D cl wl A nL cells slots Q (pc + 2) loc' rest σ) : J p l e R s m args below meth c D cl wl A nL cells slots Q pc loc (.ref x :: rest) σ := fun H locs ls hl hP hS => lv_astore X.1 X.2.1 d hl hn hl' (fun ls' h' => k H locs ls' h' hP hS)
theorem j_iinc (X : Cx p s m args c cc nL own Ts D cl tys wl A N0) {i : Nat} {n : Int} {x v : Int32} (d : decode cc pc = .ok (.iinc i n, 3)) (j : Nat) (hj : loc[j]? = some (i, .int x)) (hv : Int32.ofInt n = v) (hn : i < nL) (hl' : (i, Value.int (x + v)) :: loc.filter (fun q => !(q.1 == i) && !(q.1 + 1 == i && q.2.category == 2)) = loc') (k : J p l e R s m args below meth c D cl wl A nL cells slots Q (pc + 3) loc' rest σ) : J p l e R s m args below meth c D cl wl A nL cells slots Q pc loc rest σ := fun H locs ls hl hP hS => lv_iinc X.1 X.2.1 d hl hj (congrArg (fun z => x + z) hv) hn hl' (fun ls' h' => k H locs ls' h' hP hS)
theorem j_iadd (X : Cx p s m args c cc nL own Ts D cl tys wl A N0) {x y : Int32} (d : decode cc pc = .ok (.iadd, 1)) (k : J p l e R s m args below meth c D cl wl A nL cells slots Q (pc + 1) loc (.int (x + y) :: rest) σ) : J p l e R s m args below meth c D cl wl A nL cells slots Q pc loc (.int y :: .int x :: rest) σ := fun H locs ls hl hP hS => lv_iadd X.1 X.2.1 d (k H locs ls hl hP hS)
theorem j_isub (X : Cx p s m args c cc nL own Ts D cl tys wl A N0) {x y : Int32} (d : decode cc pc = .ok (.isub, 1)) (k : J p l e R s m args below meth c D cl wl A nL cells slots Q (pc + 1) loc (.int (x - y) :: rest) σ) : J p l e R s m args below meth c D cl wl A nL cells slots Q pc loc (.int y :: .int x :: rest) σ := fun H locs ls hl hP hS => lv_isub X.1 X.2.1 d (k H locs ls hl hP hS)
theorem j_imul (X : Cx p s m args c cc nL own Ts D cl tys wl A N0) {x y : Int32} (d : decode cc pc = .ok (.imul, 1)) (k : J p l e R s m args below meth c D cl wl A nL cells slots Q (pc + 1) loc (.int (x * y) :: rest) σ) : J p l e R s m args below meth c D cl wl A nL cells slots Q pc loc (.int y :: .int x :: rest) σ := fun H locs ls hl hP hS => lv_imul X.1 X.2.1 d (k H locs ls hl hP hS)
theorem j_iand (X : Cx p s m args c cc nL own Ts D cl tys wl A N0) {x y : Int32} (d : decode cc pc = .ok (.iand, 1)) (k : J p l e R s m args below meth c D cl wl A nL cells slots Q (pc + 1) loc (.int (x &&& y) :: rest) σ) : J p l e R s m args below meth c D cl wl A nL cells slots Q pc loc (.int y :: .int x :: rest) σ := fun H locs ls hl hP hS => lv_iand X.1 X.2.1 d (k H locs ls hl hP hS)
theorem j_ixor (X : Cx p s m args c cc nL own Ts D cl tys wl A N0) {x y : Int32} (d : decode cc pc = .ok (.ixor, 1)) (k : J p l e R s m args below meth c D cl wl A nL cells slots Q (pc + 1) loc (.int (x ^^^ y) :: rest) σ) : J p l e R s m args below meth c D cl wl A nL cells slots Q pc loc (.int y :: .int x :: rest) σ := fun H locs ls hl hP hS => lv_ixor X.1 X.2.1 d (k H locs ls hl hP hS)
theorem j_idiv (X : Cx p s m args c cc nL own Ts D cl tys wl A N0) {x y : Int32} (d : decode cc pc = .ok (.idiv, 1)) (hne : ¬ y = 0) (k : J p l e R s m args below meth c D cl wl A nL cells slots Q (pc + 1) loc (.int (x / y) :: rest) σ) : J p l e R s m args below meth c D cl wl A nL cells slots Q pc loc (.int y :: .int x :: rest) σ := fun H locs ls hl hP hS => lv_idiv X.1 X.2.1 d hne (k H locs ls hl hP hS)
theorem j_irem (X : Cx p s m args c cc nL own Ts D cl tys wl A N0) {x y : Int32} (d : decode cc pc = .ok (.irem, 1)) (hne : ¬ y = 0) (k : J p l e R s m args below meth c D cl wl A nL cells slots Q (pc + 1) loc (.int (x - x / y * y) :: rest) σ) : J p l e R s m args below meth c D cl wl A nL cells slots Q pc loc (.int y :: .int x :: rest) σ := fun H locs ls hl hP hS => lv_irem X.1 X.2.1 d hne (k H locs ls hl hP hS)
theorem j_ineg (X : Cx p s m args c cc nL own Ts D cl tys wl A N0) {x : Int32} (d : decode cc pc = .ok (.ineg, 1)) (k : J p l e R s m args below meth c D cl wl A nL cells slots Q (pc + 1) loc (.int (-x) :: rest) σ) : J p l e R s m args below meth c D cl wl A nL cells slots Q pc loc (.int x :: rest) σ := fun H locs ls hl hP hS => lv_ineg X.1 X.2.1 d (k H locs ls hl hP hS)
theorem j_i2l (X : Cx p s m args c cc nL own Ts D cl tys wl A N0) {x : Int32} (d : decode cc pc = .ok (.i2l, 1)) (k : J p l e R s m args below meth c D cl wl A nL cells slots Q (pc + 1) loc (.long x.toInt64 :: rest) σ) : J p l e R s m args below meth c D cl wl A nL cells slots Q pc loc (.int x :: rest) σ := fun H locs ls hl hP hS => lv_i2l X.1 X.2.1 d rfl (k H locs ls hl hP hS)
theorem j_lcmp (X : Cx p s m args c cc nL own Ts D cl tys wl A N0) {x y : Int64} (d : decode cc pc = .ok (.lcmp, 1)) (k : J p l e R s m args below meth c D cl wl A nL cells slots Q (pc + 1) loc (.int (lg_cmp x y) :: rest) σ) : J p l e R s m args below meth c D cl wl A nL cells slots Q pc loc (.long y :: .long x :: rest) σ := fun H locs ls hl hP hS => W.lcmp X.1 X.2.1 d (k H locs ls hl hP hS)
theorem j_dup (X : Cx p s m args c cc nL own Ts D cl tys wl A N0) {v : Value} (d : decode cc pc = .ok (.dup, 1)) (hv : v.category = 1) (k : J p l e R s m args below meth c D cl wl A nL cells slots Q (pc + 1) loc (v :: v :: rest) σ) : J p l e R s m args below meth c D cl wl A nL cells slots Q pc loc (v :: rest) σ := fun H locs ls hl hP hS => lv_dup X.1 X.2.1 d hv (k H locs ls hl hP hS)
theorem j_pop (X : Cx p s m args c cc nL own Ts D cl tys wl A N0) {v : Value} (d : decode cc pc = .ok (.pop, 1)) (hv : v.category = 1) (k : J p l e R s m args below meth c D cl wl A nL cells slots Q (pc + 1) loc rest σ) : J p l e R s m args below meth c D cl wl A nL cells slots Q pc loc (v :: rest) σ := fun H locs ls hl hP hS => lv_pop X.1 X.2.1 d hv (k H locs ls hl hP hS)
theorem j_dup_x1 (X : Cx p s m args c cc nL own Ts D cl tys wl A N0) {va vb : Value} (d : decode cc pc = .ok (.dup_x1, 1)) (ha : va.category = 1) (hb : vb.category = 1) (k : J p l e R s m args below meth c D cl wl A nL cells slots Q (pc + 1) loc (va :: vb :: va :: rest) σ) : J p l e R s m args below meth c D cl wl A nL cells slots Q pc loc (va :: vb :: rest) σ := fun H locs ls hl hP hS => lv_dup_x1 X.1 X.2.1 d ha hb (k H locs ls hl hP hS)
theorem j_dup2 (X : Cx p s m args c cc nL own Ts D cl tys wl A N0) {va vb : Value} (d : decode cc pc = .ok (.dup2, 1)) (ha : va.category = 1) (hb : vb.category = 1) (k : J p l e R s m args below meth c D cl wl A nL cells slots Q (pc + 1) loc (va :: vb :: va :: vb :: rest) σ) : J p l e R s m args below meth c D cl wl A nL cells slots Q pc loc (va :: vb :: rest) σ := fun H locs ls hl hP hS => lv_dup2_11 X.1 X.2.1 d ha hb (k H locs ls hl hP hS)
theorem j_if_eq (X : Cx p s m args c cc nL own Ts D cl tys wl A N0) {x : Int32} {off : Int} {tgt : Nat} (d : decode cc pc = .ok (.ifCond .eq off, 3)) (ht : (pc : Int) + off = (tgt : Int)) (kt : x = 0 → J p l e R s m args below meth c D cl wl A nL cells slots Q tgt loc rest σ) (kf : ¬ x = 0 → J p l e R s m args below meth c D cl wl A nL cells slots Q (pc + 3) loc rest σ) : J p l e R s m args below meth c D cl wl A nL cells slots Q pc loc (.int x :: rest) σ := fun H locs ls hl hP hS => lv_if_eq X.1 X.2.1 d ht (fun h => kt h H locs ls hl hP hS) (fun h => kf h H locs ls hl hP hS)
theorem j_if_ne (X : Cx p s m args c cc nL own Ts D cl tys wl A N0) {x : Int32} {off : Int} {tgt : Nat} (d : decode cc pc = .ok (.ifCond .ne off, 3)) (ht : (pc : Int) + off = (tgt : Int)) (kt : ¬ x = 0 → J p l e R s m args below meth c D cl wl A nL cells slots Q tgt loc rest σ) (kf : x = 0 → J p l e R s m args below meth c D cl wl A nL cells slots Q (pc + 3) loc rest σ) : J p l e R s m args below meth c D cl wl A nL cells slots Q pc loc (.int x :: rest) σ := fun H locs ls hl hP hS => lv_if_ne X.1 X.2.1 d ht (fun h => kt h H locs ls hl hP hS) (fun h => kf h H locs ls hl hP hS)
theorem j_if_lt (X : Cx p s m args c cc nL own Ts D cl tys wl A N0) {x : Int32} {off : Int} {tgt : Nat} (d : decode cc pc = .ok (.ifCond .lt off, 3)) (ht : (pc : Int) + off = (tgt : Int)) (kt : x < 0 → J p l e R s m args below meth c D cl wl A nL cells slots Q tgt loc rest σ) (kf : ¬ x < 0 → J p l e R s m args below meth c D cl wl A nL cells slots Q (pc + 3) loc rest σ) : J p l e R s m args below meth c D cl wl A nL cells slots Q pc loc (.int x :: rest) σ := fun H locs ls hl hP hS => lv_if_lt X.1 X.2.1 d ht (fun h => kt h H locs ls hl hP hS) (fun h => kf h H locs ls hl hP hS)
theorem j_if_ge (X : Cx p s m args c cc nL own Ts D cl tys wl A N0) {x : Int32} {off : Int} {tgt : Nat} (d : decode cc pc = .ok (.ifCond .ge off, 3)) (ht : (pc : Int) + off = (tgt : Int)) (kt : 0 ≤ x → J p l e R s m args below meth c D cl wl A nL cells slots Q tgt loc rest σ) (kf : ¬ 0 ≤ x → J p l e R s m args below meth c D cl wl A nL cells slots Q (pc + 3) loc rest σ) : J p l e R s m args below meth c D cl wl A nL cells slots Q pc loc (.int x :: rest) σ := fun H locs ls hl hP hS => lv_if_ge X.1 X.2.1 d ht (fun h => kt h H locs ls hl hP hS) (fun h => kf h H locs ls hl hP hS)
theorem j_if_gt (X : Cx p s m args c cc nL own Ts D cl tys wl A N0) {x : Int32} {off : Int} {tgt : Nat} (d : decode cc pc = .ok (.ifCond .gt off, 3)) (ht : (pc : Int) + off = (tgt : Int)) (kt : 0 < x → J p l e R s m args below meth c D cl wl A nL cells slots Q tgt loc rest σ) (kf : ¬ 0 < x → J p l e R s m args below meth c D cl wl A nL cells slots Q (pc + 3) loc rest σ) : J p l e R s m args below meth c D cl wl A nL cells slots Q pc loc (.int x :: rest) σ := fun H locs ls hl hP hS => lv_if_gt X.1 X.2.1 d ht (fun h => kt h H locs ls hl hP hS) (fun h => kf h H locs ls hl hP hS)
theorem j_if_le (X : Cx p s m args c cc nL own Ts D cl tys wl A N0) {x : Int32} {off : Int} {tgt : Nat} (d : decode cc pc = .ok (.ifCond .le off, 3)) (ht : (pc : Int) + off = (tgt : Int)) (kt : x ≤ 0 → J p l e R s m args below meth c D cl wl A nL cells slots Q tgt loc rest σ) (kf : ¬ x ≤ 0 → J p l e R s m args below meth c D cl wl A nL cells slots Q (pc + 3) loc rest σ) : J p l e R s m args below meth c D cl wl A nL cells slots Q pc loc (.int x :: rest) σ := fun H locs ls hl hP hS => lv_if_le X.1 X.2.1 d ht (fun h => kt h H locs ls hl hP hS) (fun h => kf h H locs ls hl hP hS)
theorem j_icmp_eq (X : Cx p s m args c cc nL own Ts D cl tys wl A N0) {x y : Int32} {off : Int} {tgt : Nat} (d : decode cc pc = .ok (.if_icmp .eq off, 3)) (ht : (pc : Int) + off = (tgt : Int)) (kt : x = y → J p l e R s m args below meth c D cl wl A nL cells slots Q tgt loc rest σ) (kf : ¬ x = y → J p l e R s m args below meth c D cl wl A nL cells slots Q (pc + 3) loc rest σ) : J p l e R s m args below meth c D cl wl A nL cells slots Q pc loc (.int y :: .int x :: rest) σ := fun H locs ls hl hP hS => lv_icmp_eq X.1 X.2.1 d ht (fun h => kt h H locs ls hl hP hS) (fun h => kf h H locs ls hl hP hS)
theorem j_icmp_ne (X : Cx p s m args c cc nL own Ts D cl tys wl A N0) {x y : Int32} {off : Int} {tgt : Nat} (d : decode cc pc = .ok (.if_icmp .ne off, 3)) (ht : (pc : Int) + off = (tgt : Int)) (kt : ¬ x = y → J p l e R s m args below meth c D cl wl A nL cells slots Q tgt loc rest σ) (kf : x = y → J p l e R s m args below meth c D cl wl A nL cells slots Q (pc + 3) loc rest σ) : J p l e R s m args below meth c D cl wl A nL cells slots Q pc loc (.int y :: .int x :: rest) σ := fun H locs ls hl hP hS => lv_icmp_ne X.1 X.2.1 d ht (fun h => kt h H locs ls hl hP hS) (fun h => kf h H locs ls hl hP hS)
theorem j_icmp_lt (X : Cx p s m args c cc nL own Ts D cl tys wl A N0) {x y : Int32} {off : Int} {tgt : Nat} (d : decode cc pc = .ok (.if_icmp .lt off, 3)) (ht : (pc : Int) + off = (tgt : Int)) (kt : x < y → J p l e R s m args below meth c D cl wl A nL cells slots Q tgt loc rest σ) (kf : ¬ x < y → J p l e R s m args below meth c D cl wl A nL cells slots Q (pc + 3) loc rest σ) : J p l e R s m args below meth c D cl wl A nL cells slots Q pc loc (.int y :: .int x :: rest) σ := fun H locs ls hl hP hS => lv_icmp_lt X.1 X.2.1 d ht (fun h => kt h H locs ls hl hP hS) (fun h => kf h H locs ls hl hP hS)
theorem j_icmp_ge (X : Cx p s m args c cc nL own Ts D cl tys wl A N0) {x y : Int32} {off : Int} {tgt : Nat} (d : decode cc pc = .ok (.if_icmp .ge off, 3)) (ht : (pc : Int) + off = (tgt : Int)) (kt : y ≤ x → J p l e R s m args below meth c D cl wl A nL cells slots Q tgt loc rest σ) (kf : ¬ y ≤ x → J p l e R s m args below meth c D cl wl A nL cells slots Q (pc + 3) loc rest σ) : J p l e R s m args below meth c D cl wl A nL cells slots Q pc loc (.int y :: .int x :: rest) σ := fun H locs ls hl hP hS => lv_icmp_ge X.1 X.2.1 d ht (fun h => kt h H locs ls hl hP hS) (fun h => kf h H locs ls hl hP hS)
theorem j_icmp_gt (X : Cx p s m args c cc nL own Ts D cl tys wl A N0) {x y : Int32} {off : Int} {tgt : Nat} (d : decode cc pc = .ok (.if_icmp .gt off, 3)) (ht : (pc : Int) + off = (tgt : Int)) (kt : y < x → J p l e R s m args below meth c D cl wl A nL cells slots Q tgt loc rest σ) (kf : ¬ y < x → J p l e R s m args below meth c D cl wl A nL cells slots Q (pc + 3) loc rest σ) : J p l e R s m args below meth c D cl wl A nL cells slots Q pc loc (.int y :: .int x :: rest) σ := fun H locs ls hl hP hS => lv_icmp_gt X.1 X.2.1 d ht (fun h => kt h H locs ls hl hP hS) (fun h => kf h H locs ls hl hP hS)
theorem j_icmp_le (X : Cx p s m args c cc nL own Ts D cl tys wl A N0) {x y : Int32} {off : Int} {tgt : Nat} (d : decode cc pc = .ok (.if_icmp .le off, 3)) (ht : (pc : Int) + off = (tgt : Int)) (kt : x ≤ y → J p l e R s m args below meth c D cl wl A nL cells slots Q tgt loc rest σ) (kf : ¬ x ≤ y → J p l e R s m args below meth c D cl wl A nL cells slots Q (pc + 3) loc rest σ) : J p l e R s m args below meth c D cl wl A nL cells slots Q pc loc (.int y :: .int x :: rest) σ := fun H locs ls hl hP hS => lv_icmp_le X.1 X.2.1 d ht (fun h => kt h H locs ls hl hP hS) (fun h => kf h H locs ls hl hP hS)
theorem j_goto (X : Cx p s m args c cc nL own Ts D cl tys wl A N0) {off : Int} {tgt : Nat} (d : decode cc pc = .ok (.goto off, 3)) (ht : (pc : Int) + off = (tgt : Int)) (k : J p l e R s m args below meth c D cl wl A nL cells slots Q tgt loc rest σ) : J p l e R s m args below meth c D cl wl A nL cells slots Q pc loc rest σ := fun H locs ls hl hP hS => lv_goto X.1 X.2.1 d ht (k H locs ls hl hP hS)
theorem j_lookup (X : Cx p s m args c cc nL own Ts D cl tys wl A N0) {dflt : Int} {ps : Array (Int × Int)} {len : Nat} {x : Int32} {off : Int} {tgt : Nat} (d : decode cc pc = .ok (.lookupswitch dflt ps, len)) (hp : (ps.toList.zip (ps.toList.drop 1)).all (fun (a, next) => a.1 < next.1) = true) (ho : Op.lookupswitch.offset ps.toList dflt x.toInt = off) (ht : (pc : Int) + off = (tgt : Int)) (k : J p l e R s m args below meth c D cl wl A nL cells slots Q tgt loc rest σ) : J p l e R s m args below meth c D cl wl A nL cells slots Q pc loc (.int x :: rest) σ := fun H locs ls hl hP hS => lv_lookup X.1 X.2.1 d hp ho ht (k H locs ls hl hP hS)
theorem j_tout (X : Cx p s m args c cc nL own Ts D cl tys wl A N0) {dflt lo hi : Int} {offs : Array Int} {len : Nat} {x : Int32} {tgt : Nat} (d : decode cc pc = .ok (.tableswitch dflt lo hi offs, len)) (h : x.toInt < lo ∨ hi < x.toInt) (ht : (pc : Int) + dflt = (tgt : Int)) (k : J p l e R s m args below meth c D cl wl A nL cells slots Q tgt loc rest σ) : J p l e R s m args below meth c D cl wl A nL cells slots Q pc loc (.int x :: rest) σ := fun H locs ls hl hP hS => lv_tableOut X.1 X.2.1 d h ht (k H locs ls hl hP hS)
theorem j_tin (X : Cx p s m args c cc nL own Ts D cl tys wl A N0) {dflt lo hi : Int} {offs : Array Int} {len : Nat} {x : Int32} {off : Int} {tgt : Nat} (d : decode cc pc = .ok (.tableswitch dflt lo hi offs, len)) (v : Int32) (h : x = v) (h1 : ¬ v.toInt < lo) (h2 : ¬ hi < v.toInt) (ho : offs[(v.toInt - lo).toNat]? = some off) (ht : (pc : Int) + off = (tgt : Int)) (k : J p l e R s m args below meth c D cl wl A nL cells slots Q tgt loc rest σ) : J p l e R s m args below meth c D cl wl A nL cells slots Q pc loc (.int x :: rest) σ := fun H locs ls hl hP hS => by subst h; exact lv_tableIn X.1 X.2.1 d h1 h2 ho ht (k H locs ls hl hP hS)
theorem j_locs (ks : List Nat) (h : lv_pick loc ks = loc') (k : J p l e R s m args below meth c D cl wl A nL cells slots Q pc loc' rest σ) : J p l e R s m args below meth c D cl wl A nL cells slots Q pc loc rest σ := fun H locs ls hl hP hS => k H locs ls (lv_sub hl ks h) hP hS
theorem j_get (X : Cx p s m args c cc nL own Ts D cl tys wl A N0) {C : String} {T : u_T} {N ci idx b : Nat} (hin : ∀ w ∈ u_ws C T N, w ∈ Ts) (q0 : Nat) {fs : List Value} (he : (wl σ)[q0]? = some (b, .inr (ci, fs))) (hc : cl[ci]? = some (C, T, N)) (k0 : Nat) (hk : k0 < N) (hlink : Cond.fieldLink own idx (T k0).1 (T k0).2.1 (T k0).2.2.1 ∈ Ts) {v : Value} (hv : fs[k0]? = some v) (d : decode cc pc = .ok (.getfield idx, 3)) (k : J p l e R s m args below meth c D cl wl A nL cells slots Q (pc + 3) loc (v :: rest) σ) : J p l e R s m args below meth c D cl wl A nL cells slots Q pc loc (.ref b :: rest) σ := fun H locs ls hl hP hS =>
  va_get X.1 X.2.1 X.2.2.2.2.1 hin X.2.2.2.1 X.2.2.2.2.2.1 hP q0 he hc k0 hk (X.2.2.2.2.1 _ hlink) (fun _ h9 => h9) hv d (k H locs ls hl hP hS)
theorem j_getN (X : Cx p s m args c cc nL own Ts D cl tys wl A N0) {host : String} {C : String} {T : u_T} {N ci idx b : Nat} (hin : ∀ w ∈ u_ws C T N, w ∈ Ts) (q0 : Nat) {fs : List Value} (he : (wl σ)[q0]? = some (b, .inr (ci, fs))) (hc : cl[ci]? = some (C, T, N)) (k0 : Nat) (hk : k0 < N) (hlink : ∀ s : State, N0 s → va_Nw (.fieldLinkNest own idx (T k0).1 (T k0).2.1 (T k0).2.2.1 host) s) {v : Value} (hv : fs[k0]? = some v) (d : decode cc pc = .ok (.getfield idx, 3)) (k : J p l e R s m args below meth c D cl wl A nL cells slots Q (pc + 3) loc (v :: rest) σ) : J p l e R s m args below meth c D cl wl A nL cells slots Q pc loc (.ref b :: rest) σ := fun H locs ls hl hP hS =>
  va_getN X.1 X.2.1 X.2.2.2.2.1 hin X.2.2.2.1 X.2.2.2.2.2.1 hP q0 he hc k0 hk (va_Nw.use rfl (hlink s X.2.2.2.2.2.2.2.1)) (fun _ h9 => h9) hv d (k H locs ls hl hP hS)
theorem j_put (X : Cx p s m args c cc nL own Ts D cl tys wl A N0) {C : String} {T : u_T} {N ci idx b : Nat} (hin : ∀ w ∈ u_ws C T N, w ∈ Ts) (ty0 : Nat → FieldType) (hty : ∀ k, k < N → parseFieldDescriptor (T k).2.2.1 = some (ty0 k)) (hnm : ∀ a, a < N → ∀ b, b < N → a ≠ b → (T a).2.1 ≠ (T b).2.1) (q0 : Nat) {fs : List Value} (he : (wl σ)[q0]? = some (b, .inr (ci, fs))) (hc : cl[ci]? = some (C, T, N)) (k0 : Nat) (hk : k0 < N) (hlink : Cond.fieldLink own idx (T k0).1 (T k0).2.1 (T k0).2.2.1 ∈ Ts) (hfin : (T k0).2.2.2 = false) {ty : FieldType} {v : Value} (hd : parseFieldDescriptor (T k0).2.2.1 = some ty) (hn : narrow ty v = v) (hfit : fits ty v = true) (hl0 : k0 < fs.length) {σ1 : Jst} (hw : (wl σ).set q0 (b, .inr (ci, fs.set k0 v)) = wl σ1) (d : decode cc pc = .ok (.putfield idx, 3)) (k : J p l e R s m args below meth c D cl wl A nL cells slots Q (pc + 3) loc rest σ1) : J p l e R s m args below meth c D cl wl A nL cells slots Q pc loc (v :: .ref b :: rest) σ := fun H locs ls hl hP hS =>
  va_put X.1 X.2.1 X.2.2.2.2.1 hin ty0 hty hnm X.2.2.2.1 X.2.2.2.2.2.1 hP (X.2.2.2.2.2.2.1 σ) hS q0 he hc k0 hk (X.2.2.2.2.1 _ hlink) (fun _ h9 => h9) hfin hd hn hfit hl0 d (fun H1 locs1 hP1 _ hS1 => k H1 locs1 ls hl (hw ▸ hP1) hS1)
theorem j_putN (X : Cx p s m args c cc nL own Ts D cl tys wl A N0) {host : String} {C : String} {T : u_T} {N ci idx b : Nat} (hin : ∀ w ∈ u_ws C T N, w ∈ Ts) (ty0 : Nat → FieldType) (hty : ∀ k, k < N → parseFieldDescriptor (T k).2.2.1 = some (ty0 k)) (hnm : ∀ a, a < N → ∀ b, b < N → a ≠ b → (T a).2.1 ≠ (T b).2.1) (q0 : Nat) {fs : List Value} (he : (wl σ)[q0]? = some (b, .inr (ci, fs))) (hc : cl[ci]? = some (C, T, N)) (k0 : Nat) (hk : k0 < N) (hlink : ∀ s : State, N0 s → va_Nw (.fieldLinkNest own idx (T k0).1 (T k0).2.1 (T k0).2.2.1 host) s) (hfin : (T k0).2.2.2 = false) {ty : FieldType} {v : Value} (hd : parseFieldDescriptor (T k0).2.2.1 = some ty) (hn : narrow ty v = v) (hfit : fits ty v = true) (hl0 : k0 < fs.length) {σ1 : Jst} (hw : (wl σ).set q0 (b, .inr (ci, fs.set k0 v)) = wl σ1) (d : decode cc pc = .ok (.putfield idx, 3)) (k : J p l e R s m args below meth c D cl wl A nL cells slots Q (pc + 3) loc rest σ1) : J p l e R s m args below meth c D cl wl A nL cells slots Q pc loc (v :: .ref b :: rest) σ := fun H locs ls hl hP hS =>
  va_putN X.1 X.2.1 X.2.2.2.2.1 hin ty0 hty hnm X.2.2.2.1 X.2.2.2.2.2.1 hP (X.2.2.2.2.2.2.1 σ) hS q0 he hc k0 hk (va_Nw.use rfl (hlink s X.2.2.2.2.2.2.2.1)) (fun _ h9 => h9) hfin hd hn hfit hl0 d (fun H1 locs1 hP1 _ hS1 => k H1 locs1 ls hl (hw ▸ hP1) hS1)
theorem j_iald (X : Cx p s m args c cc nL own Ts D cl tys wl A N0) (q0 t0 : Nat) {cA : ClassId} {n b : Nat} {f : Nat → Int32} (ha : (wl σ)[q0]? = some (b, .inl (cA, n, .inl f))) (ht : tys[t0]? = some (cA, .int)) {i : Int32} (hin : vp_in i n) (d : decode cc pc = .ok (.iaload, 1)) (k : J p l e R s m args below meth c D cl wl A nL cells slots Q (pc + 1) loc (.int (f i.toNatClampNeg) :: rest) σ) : J p l e R s m args below meth c D cl wl A nL cells slots Q pc loc (.int i :: .ref b :: rest) σ := fun H locs ls hl hP hS =>
  va_iald X.1 X.2.1 X.2.2.2.2.2.1 hP q0 t0 ha ht hin d (k H locs ls hl hP hS)
theorem j_zald (X : Cx p s m args c cc nL own Ts D cl tys wl A N0) (q0 t0 : Nat) {cA : ClassId} {n b : Nat} {f : Nat → Int32} (ha : (wl σ)[q0]? = some (b, .inl (cA, n, .inl f))) (ht : tys[t0]? = some (cA, .boolean)) {i : Int32} (hin : vp_in i n) (d : decode cc pc = .ok (.baload, 1)) (k : J p l e R s m args below meth c D cl wl A nL cells slots Q (pc + 1) loc (.int (f i.toNatClampNeg) :: rest) σ) : J p l e R s m args below meth c D cl wl A nL cells slots Q pc loc (.int i :: .ref b :: rest) σ := fun H locs ls hl hP hS =>
  va_zald X.1 X.2.1 X.2.2.2.2.2.1 hP q0 t0 ha ht hin d (k H locs ls hl hP hS)
theorem j_iast (X : Cx p s m args c cc nL own Ts D cl tys wl A N0) (q0 t0 : Nat) {cA : ClassId} {n b : Nat} {f : Nat → Int32} (ha : (wl σ)[q0]? = some (b, .inl (cA, n, .inl f))) (ht : tys[t0]? = some (cA, .int)) {i x : Int32} (hin : vp_in i n) {σ1 : Jst} (hw : (wl σ).set q0 (b, .inl (cA, n, .inl (upd f i.toNatClampNeg x))) = wl σ1) (d : decode cc pc = .ok (.iastore, 1)) (k : J p l e R s m args below meth c D cl wl A nL cells slots Q (pc + 1) loc rest σ1) : J p l e R s m args below meth c D cl wl A nL cells slots Q pc loc (.int x :: .int i :: .ref b :: rest) σ := fun H locs ls hl hP hS =>
  va_iast X.1 X.2.1 X.2.2.2.2.2.1 hP (X.2.2.2.2.2.2.1 σ) hS q0 t0 ha ht hin d (fun H1 locs1 hP1 _ hS1 => k H1 locs1 ls hl (hw ▸ hP1) hS1)
theorem j_zast (X : Cx p s m args c cc nL own Ts D cl tys wl A N0) (q0 t0 : Nat) {cA : ClassId} {n b : Nat} {f : Nat → Int32} (ha : (wl σ)[q0]? = some (b, .inl (cA, n, .inl f))) (ht : tys[t0]? = some (cA, .boolean)) {i x : Int32} (hin : vp_in i n) {σ1 : Jst} (hw : (wl σ).set q0 (b, .inl (cA, n, .inl (upd f i.toNatClampNeg (vp_nar .boolean x)))) = wl σ1) (d : decode cc pc = .ok (.bastore, 1)) (k : J p l e R s m args below meth c D cl wl A nL cells slots Q (pc + 1) loc rest σ1) : J p l e R s m args below meth c D cl wl A nL cells slots Q pc loc (.int x :: .int i :: .ref b :: rest) σ := fun H locs ls hl hP hS =>
  va_zast X.1 X.2.1 X.2.2.2.2.2.1 hP (X.2.2.2.2.2.2.1 σ) hS q0 t0 ha ht hin d (fun H1 locs1 hP1 _ hS1 => k H1 locs1 ls hl (hw ▸ hP1) hS1)
theorem j_lald (X : Cx p s m args c cc nL own Ts D cl tys wl A N0) (q0 t0 : Nat) {cA : ClassId} {n b : Nat} {f : Nat → Int64} (ha : (wl σ)[q0]? = some (b, .inl (cA, n, .inr (.inl f)))) (ht : tys[t0]? = some (cA, .long)) {i : Int32} (hin : vp_in i n) (d : decode cc pc = .ok (.laload, 1)) (k : J p l e R s m args below meth c D cl wl A nL cells slots Q (pc + 1) loc (.long (f i.toNatClampNeg) :: rest) σ) : J p l e R s m args below meth c D cl wl A nL cells slots Q pc loc (.int i :: .ref b :: rest) σ := fun H locs ls hl hP hS =>
  va_lald X.1 X.2.1 X.2.2.2.2.2.1 hP q0 t0 ha ht hin d (k H locs ls hl hP hS)
theorem j_last (X : Cx p s m args c cc nL own Ts D cl tys wl A N0) (q0 t0 : Nat) {cA : ClassId} {n b : Nat} {f : Nat → Int64} (ha : (wl σ)[q0]? = some (b, .inl (cA, n, .inr (.inl f)))) (ht : tys[t0]? = some (cA, .long)) {i : Int32} {x : Int64} (hin : vp_in i n) {σ1 : Jst} (hw : (wl σ).set q0 (b, .inl (cA, n, .inr (.inl (vp_updL f i.toNatClampNeg x)))) = wl σ1) (d : decode cc pc = .ok (.lastore, 1)) (k : J p l e R s m args below meth c D cl wl A nL cells slots Q (pc + 1) loc rest σ1) : J p l e R s m args below meth c D cl wl A nL cells slots Q pc loc (.long x :: .int i :: .ref b :: rest) σ := fun H locs ls hl hP hS =>
  va_last X.1 X.2.1 X.2.2.2.2.2.1 hP (X.2.2.2.2.2.2.1 σ) hS q0 t0 ha ht hin d (fun H1 locs1 hP1 _ hS1 => k H1 locs1 ls hl (hw ▸ hP1) hS1)
theorem j_aald (X : Cx p s m args c cc nL own Ts D cl tys wl A N0) (q0 t0 : Nat) {cA : ClassId} {C : String} {n b : Nat} {f : Nat → Option Nat} (ha : (wl σ)[q0]? = some (b, .inl (cA, n, .inr (.inr (.inr (.inr f)))))) (ht : tys[t0]? = some (cA, .object C)) {i : Int32} (hin : vp_in i n) {b1 : Nat} (hv : f i.toNatClampNeg = some b1) (d : decode cc pc = .ok (.aaload, 1)) (k : J p l e R s m args below meth c D cl wl A nL cells slots Q (pc + 1) loc (.ref b1 :: rest) σ) : J p l e R s m args below meth c D cl wl A nL cells slots Q pc loc (.int i :: .ref b :: rest) σ := fun H locs ls hl hP hS =>
  va_aldq X.1 X.2.1 X.2.2.2.2.2.1 hP q0 t0 ha ht hin d (by rw [hv]; exact k H locs ls hl hP hS)
theorem j_iret (X : Cx p s m args c cc nL own Ts D cl tys wl A N0) (hlk : meth.locks = false) (hr : meth.sig.returnType = some .int) {K : Int32 → Jst → Prop} {v : Int32} (d : decode cc pc = .ok (.ireturn, 1)) (h : K v σ) : J p l e R s m args below meth c D cl wl A nL cells slots (MQ below (va_Qi K (Jq D cl wl) A) args s cells slots A) pc loc [.int v] σ := fun H locs ls hl hP hS =>
  W.iret X.1 X.2.1 hr (fun t ht hW => ⟨⟨v, σ, rfl, h, by show va_P D cl (wl σ) t.heap; rw [ht]; exact hP⟩, hS.F ht⟩) hS.2.2 d hlk
theorem j_zret (X : Cx p s m args c cc nL own Ts D cl tys wl A N0) (hlk : meth.locks = false) (hr : meth.sig.returnType = some .boolean) {K : Int32 → Jst → Prop} {v : Int32} (hn : narrow .boolean (.int v) = .int v) (d : decode cc pc = .ok (.ireturn, 1)) (h : K v σ) : J p l e R s m args below meth c D cl wl A nL cells slots (MQ below (va_Qi K (Jq D cl wl) A) args s cells slots A) pc loc [.int v] σ := fun H locs ls hl hP hS =>
  W.zret X.1 X.2.1 hr hn (fun t ht hW => ⟨⟨v, σ, rfl, h, by show va_P D cl (wl σ) t.heap; rw [ht]; exact hP⟩, hS.F ht⟩) hS.2.2 d hlk
theorem j_vret (X : Cx p s m args c cc nL own Ts D cl tys wl A N0) (hlk : meth.locks = false) (hr : meth.sig.returnType = none) {K : Jst → Prop} (d : decode cc pc = .ok (.return_, 1)) (h : K σ) : J p l e R s m args below meth c D cl wl A nL cells slots (MQ below (va_Qv K (Jq D cl wl) A) args s cells slots A) pc loc [] σ := fun H locs ls hl hP hS =>
  W.vret X.1 X.2.1 hr (fun t ht hW => ⟨⟨σ, rfl, h, by show va_P D cl (wl σ) t.heap; rw [ht]; exact hP⟩, hS.F ht⟩) hS.2.2 d hlk
theorem j_blind (hN : Jk A N0) {vs : List Value} : FrameBlind (va_Pc vs (Jw D cl tys wl N0 σ)) := fun a U g mk q => ⟨q.1, q.2.1, va_K.moved (u := U) (U := U.calling g mk a) (Vm.Alike.refl U.vm) q.2.2.1, hN U (U.calling g mk a) (State.WarmedH.refl U) (Nat.le_refl _) (fun _ _ _ => rfl) q.2.2.2⟩

theorem j_callVi (X : Cx p s m args c cc nL own Ts D cl tys wl A N0) {y : MethodName} {ws : List Cond} {rm : Room} {bytes : ByteArray} {maxL idx n : Nat} {ret : Option FieldType} {A1 : Nat → Prop} {As st0 : List Value} {b ci q0 : Nat} {C : String} {T : u_T} {N : Nat} {fs : List Value}  {K : Int32 → Jst → Prop} (hM : Met l y ws rm (va_Pc (.ref b :: As) (Jw D cl tys wl N0 σ)) (va_Qi K (Jq D cl wl) A1) 0 0 A1) (cw : CallW R s args own C idx y bytes maxL ret ws rm 0 0 n) (he : (wl σ)[q0]? = some (b, .inr (ci, fs))) (hc : cl[ci]? = some (C, T, N)) (hA : ∀ q, A1 q → A q) (hst : st0 = As.reverse ++ .ref b :: rest) (hn : As.length = n) (hro : (rest.map fun v => v.category).sum ≤ 8) (hcs : cells ≤ R.cells ∧ slots ≤ R.slots) (d : decode cc pc = .ok (.invokevirtual idx, 3)) (k : ∀ (r : Int32) (σ1 : Jst), K r σ1 → J p l e R s m args below meth c D cl wl A nL cells slots Q (pc + 3) loc (.int r :: rest) σ1) : J p l e R s m args below meth c D cl wl A nL cells slots Q pc loc st0 σ := fun H locs ls hl hP hS =>
  va_calli (va_runV (As := As) (rest := rest) ⟨X.1, X.2.1, X.2.2.1, X.2.2.2.1, X.2.2.2.2.1⟩ hM cw ⟨j_blind X.2.2.2.2.2.2.2.2, va_recv X.2.2.2.2.2.1 hP hc he, fun U hU hW => ⟨rfl, by rw [hU]; exact hP, va_K.moved hW.alike X.2.2.2.2.2.1, X.2.2.2.2.2.2.2.2 s U hW (by rw [hU]; exact hS.1) (by rw [hU]; exact hS.2.1) X.2.2.2.2.2.2.2.1⟩⟩ rfl hn hl.1 hst (lv_room hro) d hcs) hS (fun q _ h => hA q h) hA (fun r u t H1 locs1 ht hvm hp hB hz hk hS1 => k r u hp H1 locs1 ls hl (by rw [← ht]; exact hB) hS1)
theorem j_callVv (X : Cx p s m args c cc nL own Ts D cl tys wl A N0) {y : MethodName} {ws : List Cond} {rm : Room} {bytes : ByteArray} {maxL idx n : Nat} {ret : Option FieldType} {A1 : Nat → Prop} {As st0 : List Value} {b ci q0 : Nat} {C : String} {T : u_T} {N : Nat} {fs : List Value}  {K : Jst → Prop} (hM : Met l y ws rm (va_Pc (.ref b :: As) (Jw D cl tys wl N0 σ)) (va_Qv K (Jq D cl wl) A1) 0 0 A1) (cw : CallW R s args own C idx y bytes maxL ret ws rm 0 0 n) (he : (wl σ)[q0]? = some (b, .inr (ci, fs))) (hc : cl[ci]? = some (C, T, N)) (hA : ∀ q, A1 q → A q) (hst : st0 = As.reverse ++ .ref b :: rest) (hn : As.length = n) (hro : (rest.map fun v => v.category).sum ≤ 8) (hcs : cells ≤ R.cells ∧ slots ≤ R.slots) (d : decode cc pc = .ok (.invokevirtual idx, 3)) (k : ∀ (σ1 : Jst), K σ1 → J p l e R s m args below meth c D cl wl A nL cells slots Q (pc + 3) loc rest σ1) : J p l e R s m args below meth c D cl wl A nL cells slots Q pc loc st0 σ := fun H locs ls hl hP hS =>
  va_callv (va_runV (As := As) (rest := rest) ⟨X.1, X.2.1, X.2.2.1, X.2.2.2.1, X.2.2.2.2.1⟩ hM cw ⟨j_blind X.2.2.2.2.2.2.2.2, va_recv X.2.2.2.2.2.1 hP hc he, fun U hU hW => ⟨rfl, by rw [hU]; exact hP, va_K.moved hW.alike X.2.2.2.2.2.1, X.2.2.2.2.2.2.2.2 s U hW (by rw [hU]; exact hS.1) (by rw [hU]; exact hS.2.1) X.2.2.2.2.2.2.2.1⟩⟩ rfl hn hl.1 hst (lv_room hro) d hcs) hS (fun q _ h => hA q h) hA (fun u t H1 locs1 ht hvm hp hB hz hk hS1 => k u hp H1 locs1 ls hl (by rw [← ht]; exact hB) hS1)
theorem j_callSi (X : Cx p s m args c cc nL own Ts D cl tys wl A N0) {y : MethodName} {ws : List Cond} {rm : Room} {bytes : ByteArray} {maxL idx n : Nat} {ret : Option FieldType} {A1 : Nat → Prop} {As st0 : List Value}   {K : Int32 → Jst → Prop} (hM : Met l y ws rm (va_Pc As (Jw D cl tys wl N0 σ)) (va_Qi K (Jq D cl wl) A1) 0 0 A1) (cw : CallB R s args own idx y bytes maxL ret ws rm 0 0 n ∧ (Cond.static y).before args s = true)  (hA : ∀ q, A1 q → A q) (hst : st0 = As.reverse ++ rest) (hn : As.length = n) (hro : (rest.map fun v => v.category).sum ≤ 8) (hcs : cells ≤ R.cells ∧ slots ≤ R.slots) (d : decode cc pc = .ok (.invokestatic idx, 3)) (k : ∀ (r : Int32) (σ1 : Jst), K r σ1 → J p l e R s m args below meth c D cl wl A nL cells slots Q (pc + 3) loc (.int r :: rest) σ1) : J p l e R s m args below meth c D cl wl A nL cells slots Q pc loc st0 σ := fun H locs ls hl hP hS =>
  va_calli (va_runS (As := As) (rest := rest) ⟨X.1, X.2.1, X.2.2.1, X.2.2.2.1, X.2.2.2.2.1⟩ hM cw ⟨j_blind X.2.2.2.2.2.2.2.2, fun U hU hW => ⟨rfl, by rw [hU]; exact hP, va_K.moved hW.alike X.2.2.2.2.2.1, X.2.2.2.2.2.2.2.2 s U hW (by rw [hU]; exact hS.1) (by rw [hU]; exact hS.2.1) X.2.2.2.2.2.2.2.1⟩⟩ rfl hn hl.1 hst (lv_room hro) d hcs) hS (fun q _ h => hA q h) hA (fun r u t H1 locs1 ht hvm hp hB hz hk hS1 => k r u hp H1 locs1 ls hl (by rw [← ht]; exact hB) hS1)
theorem j_callSv (X : Cx p s m args c cc nL own Ts D cl tys wl A N0) {y : MethodName} {ws : List Cond} {rm : Room} {bytes : ByteArray} {maxL idx n : Nat} {ret : Option FieldType} {A1 : Nat → Prop} {As st0 : List Value}   {K : Jst → Prop} (hM : Met l y ws rm (va_Pc As (Jw D cl tys wl N0 σ)) (va_Qv K (Jq D cl wl) A1) 0 0 A1) (cw : CallB R s args own idx y bytes maxL ret ws rm 0 0 n ∧ (Cond.static y).before args s = true)  (hA : ∀ q, A1 q → A q) (hst : st0 = As.reverse ++ rest) (hn : As.length = n) (hro : (rest.map fun v => v.category).sum ≤ 8) (hcs : cells ≤ R.cells ∧ slots ≤ R.slots) (d : decode cc pc = .ok (.invokestatic idx, 3)) (k : ∀ (σ1 : Jst), K σ1 → J p l e R s m args below meth c D cl wl A nL cells slots Q (pc + 3) loc rest σ1) : J p l e R s m args below meth c D cl wl A nL cells slots Q pc loc st0 σ := fun H locs ls hl hP hS =>
  va_callv (va_runS (As := As) (rest := rest) ⟨X.1, X.2.1, X.2.2.1, X.2.2.2.1, X.2.2.2.2.1⟩ hM cw ⟨j_blind X.2.2.2.2.2.2.2.2, fun U hU hW => ⟨rfl, by rw [hU]; exact hP, va_K.moved hW.alike X.2.2.2.2.2.1, X.2.2.2.2.2.2.2.2 s U hW (by rw [hU]; exact hS.1) (by rw [hU]; exact hS.2.1) X.2.2.2.2.2.2.2.1⟩⟩ rfl hn hl.1 hst (lv_room hro) d hcs) hS (fun q _ h => hA q h) hA (fun u t H1 locs1 ht hvm hp hB hz hk hS1 => k u hp H1 locs1 ls hl (by rw [← ht]; exact hB) hS1)
theorem j_callVNi (X : Cx p s m args c cc nL own Ts D cl tys wl A N0) {y : MethodName} {ws : List Cond} {rm : Room} {bytes : ByteArray} {maxL idx n : Nat} {ret : Option FieldType} {A1 : Nat → Prop} {As st0 : List Value} {b ci q0 : Nat} {C : String} {T : u_T} {N : Nat} {fs : List Value} {host : String} {K : Int32 → Jst → Prop} (hM : Met l y ws rm (va_Pc (.ref b :: As) (Jw D cl tys wl N0 σ)) (va_Qi K (Jq D cl wl) A1) 0 0 A1) (cw : va_CN R s args own idx y host bytes maxL ret ws rm 0 0 n ∧ (Cond.instanceMethod y).before args s = true ∧ (Cond.selects C y y).before args s = true) (he : (wl σ)[q0]? = some (b, .inr (ci, fs))) (hc : cl[ci]? = some (C, T, N)) (hA : ∀ q, A1 q → A q) (hst : st0 = As.reverse ++ .ref b :: rest) (hn : As.length = n) (hro : (rest.map fun v => v.category).sum ≤ 8) (hcs : cells ≤ R.cells ∧ slots ≤ R.slots) (d : decode cc pc = .ok (.invokevirtual idx, 3)) (k : ∀ (r : Int32) (σ1 : Jst), K r σ1 → J p l e R s m args below meth c D cl wl A nL cells slots Q (pc + 3) loc (.int r :: rest) σ1) : J p l e R s m args below meth c D cl wl A nL cells slots Q pc loc st0 σ := fun H locs ls hl hP hS =>
  va_calli (va_runVN (As := As) (rest := rest) ⟨X.1, X.2.1, X.2.2.1, X.2.2.2.1, X.2.2.2.2.1⟩ hM cw ⟨j_blind X.2.2.2.2.2.2.2.2, va_recv X.2.2.2.2.2.1 hP hc he, fun U hU hW => ⟨rfl, by rw [hU]; exact hP, va_K.moved hW.alike X.2.2.2.2.2.1, X.2.2.2.2.2.2.2.2 s U hW (by rw [hU]; exact hS.1) (by rw [hU]; exact hS.2.1) X.2.2.2.2.2.2.2.1⟩⟩ rfl hn hl.1 hst (lv_room hro) d hcs) hS (fun q _ h => hA q h) hA (fun r u t H1 locs1 ht hvm hp hB hz hk hS1 => k r u hp H1 locs1 ls hl (by rw [← ht]; exact hB) hS1)
theorem j_callVNv (X : Cx p s m args c cc nL own Ts D cl tys wl A N0) {y : MethodName} {ws : List Cond} {rm : Room} {bytes : ByteArray} {maxL idx n : Nat} {ret : Option FieldType} {A1 : Nat → Prop} {As st0 : List Value} {b ci q0 : Nat} {C : String} {T : u_T} {N : Nat} {fs : List Value} {host : String} {K : Jst → Prop} (hM : Met l y ws rm (va_Pc (.ref b :: As) (Jw D cl tys wl N0 σ)) (va_Qv K (Jq D cl wl) A1) 0 0 A1) (cw : va_CN R s args own idx y host bytes maxL ret ws rm 0 0 n ∧ (Cond.instanceMethod y).before args s = true ∧ (Cond.selects C y y).before args s = true) (he : (wl σ)[q0]? = some (b, .inr (ci, fs))) (hc : cl[ci]? = some (C, T, N)) (hA : ∀ q, A1 q → A q) (hst : st0 = As.reverse ++ .ref b :: rest) (hn : As.length = n) (hro : (rest.map fun v => v.category).sum ≤ 8) (hcs : cells ≤ R.cells ∧ slots ≤ R.slots) (d : decode cc pc = .ok (.invokevirtual idx, 3)) (k : ∀ (σ1 : Jst), K σ1 → J p l e R s m args below meth c D cl wl A nL cells slots Q (pc + 3) loc rest σ1) : J p l e R s m args below meth c D cl wl A nL cells slots Q pc loc st0 σ := fun H locs ls hl hP hS =>
  va_callv (va_runVN (As := As) (rest := rest) ⟨X.1, X.2.1, X.2.2.1, X.2.2.2.1, X.2.2.2.2.1⟩ hM cw ⟨j_blind X.2.2.2.2.2.2.2.2, va_recv X.2.2.2.2.2.1 hP hc he, fun U hU hW => ⟨rfl, by rw [hU]; exact hP, va_K.moved hW.alike X.2.2.2.2.2.1, X.2.2.2.2.2.2.2.2 s U hW (by rw [hU]; exact hS.1) (by rw [hU]; exact hS.2.1) X.2.2.2.2.2.2.2.1⟩⟩ rfl hn hl.1 hst (lv_room hro) d hcs) hS (fun q _ h => hA q h) hA (fun u t H1 locs1 ht hvm hp hB hz hk hS1 => k u hp H1 locs1 ls hl (by rw [← ht]; exact hB) hS1)
theorem j_callSNi (X : Cx p s m args c cc nL own Ts D cl tys wl A N0) {y : MethodName} {ws : List Cond} {rm : Room} {bytes : ByteArray} {maxL idx n : Nat} {ret : Option FieldType} {A1 : Nat → Prop} {As st0 : List Value}  {host : String} {K : Int32 → Jst → Prop} (hM : Met l y ws rm (va_Pc As (Jw D cl tys wl N0 σ)) (va_Qi K (Jq D cl wl) A1) 0 0 A1) (cw : va_CN R s args own idx y host bytes maxL ret ws rm 0 0 n ∧ (Cond.static y).before args s = true ∧ True)  (hA : ∀ q, A1 q → A q) (hst : st0 = As.reverse ++ rest) (hn : As.length = n) (hro : (rest.map fun v => v.category).sum ≤ 8) (hcs : cells ≤ R.cells ∧ slots ≤ R.slots) (d : decode cc pc = .ok (.invokestatic idx, 3)) (k : ∀ (r : Int32) (σ1 : Jst), K r σ1 → J p l e R s m args below meth c D cl wl A nL cells slots Q (pc + 3) loc (.int r :: rest) σ1) : J p l e R s m args below meth c D cl wl A nL cells slots Q pc loc st0 σ := fun H locs ls hl hP hS =>
  va_calli (va_runSN (As := As) (rest := rest) ⟨X.1, X.2.1, X.2.2.1, X.2.2.2.1, X.2.2.2.2.1⟩ hM cw ⟨j_blind X.2.2.2.2.2.2.2.2, fun U hU hW => ⟨rfl, by rw [hU]; exact hP, va_K.moved hW.alike X.2.2.2.2.2.1, X.2.2.2.2.2.2.2.2 s U hW (by rw [hU]; exact hS.1) (by rw [hU]; exact hS.2.1) X.2.2.2.2.2.2.2.1⟩⟩ rfl hn hl.1 hst (lv_room hro) d hcs) hS (fun q _ h => hA q h) hA (fun r u t H1 locs1 ht hvm hp hB hz hk hS1 => k r u hp H1 locs1 ls hl (by rw [← ht]; exact hB) hS1)
theorem j_callSNv (X : Cx p s m args c cc nL own Ts D cl tys wl A N0) {y : MethodName} {ws : List Cond} {rm : Room} {bytes : ByteArray} {maxL idx n : Nat} {ret : Option FieldType} {A1 : Nat → Prop} {As st0 : List Value}  {host : String} {K : Jst → Prop} (hM : Met l y ws rm (va_Pc As (Jw D cl tys wl N0 σ)) (va_Qv K (Jq D cl wl) A1) 0 0 A1) (cw : va_CN R s args own idx y host bytes maxL ret ws rm 0 0 n ∧ (Cond.static y).before args s = true ∧ True)  (hA : ∀ q, A1 q → A q) (hst : st0 = As.reverse ++ rest) (hn : As.length = n) (hro : (rest.map fun v => v.category).sum ≤ 8) (hcs : cells ≤ R.cells ∧ slots ≤ R.slots) (d : decode cc pc = .ok (.invokestatic idx, 3)) (k : ∀ (σ1 : Jst), K σ1 → J p l e R s m args below meth c D cl wl A nL cells slots Q (pc + 3) loc rest σ1) : J p l e R s m args below meth c D cl wl A nL cells slots Q pc loc st0 σ := fun H locs ls hl hP hS =>
  va_callv (va_runSN (As := As) (rest := rest) ⟨X.1, X.2.1, X.2.2.1, X.2.2.2.1, X.2.2.2.2.1⟩ hM cw ⟨j_blind X.2.2.2.2.2.2.2.2, fun U hU hW => ⟨rfl, by rw [hU]; exact hP, va_K.moved hW.alike X.2.2.2.2.2.1, X.2.2.2.2.2.2.2.2 s U hW (by rw [hU]; exact hS.1) (by rw [hU]; exact hS.2.1) X.2.2.2.2.2.2.2.1⟩⟩ rfl hn hl.1 hst (lv_room hro) d hcs) hS (fun q _ h => hA q h) hA (fun u t H1 locs1 ht hvm hp hB hz hk hS1 => k u hp H1 locs1 ls hl (by rw [← ht]; exact hB) hS1)
theorem j_met {y : MethodName} {ws ws' : List Cond} {rm : Room} {maxL mc ms : Nat} {ret : Option FieldType} {vs : List Value} {Qc : Array Value → State → Outcome → State → Prop} {free : Addr → Prop} (hy : plainName y.cls = true) (hw : ws = Cond.code y cc maxL ret :: ws') (hn : (lg_sl vs).length ≤ maxL) (ho : own = y.cls) (hD : ∀ σ, va_D A (wl σ)) (hN : Jk A N0)
    (body : ∀ (p : Program) (e : Env) (s : State) (m : MethodId) (args : Array Value) (below : List Frame) (meth : Method) (c : Code), Cx p s m args c cc maxL own ws' D cl tys wl A N0 → meth.locks = false → meth.sig.returnType = ret → J p l e rm s m args below meth c D cl wl A maxL 0 0 (MQ below Qc args s mc ms free) 0 (lv_args 0 vs) [] σ) :
    Met l y ws rm (va_Pc vs (Jw D cl tys wl N0 σ)) Qc mc ms free := by
  refine Met.ofW hy hw ?_
  intro p e s m args below meth c s₁ B hml hv
  obtain ⟨rfl, hP, hK, hN1⟩ := hv
  have hts := atoms_spec (ws := ws) B.pre
  have hown : s.vm.findClass own = some m.cls := by rw [ho]; exact findClass_of_methodNamed B.named
  rw [lg_entry_eq]
  exact body p e s m _ below meth c ⟨B.exec, B.bytes, hml, hown, fun w h => hts w (by rw [hw]; exact List.mem_cons_of_mem _ h), hK, hD, hN1, hN⟩ B.notSynchronized B.returns s.heap [] _ (lv_entry vs hn) hP va_S.rf

theorem j_metF {y : MethodName} {ws ws' : List Cond} {rm : Room} {maxL mc ms : Nat} {ret : Option FieldType} {vs : List Value} {Qc : Array Value → State → Outcome → State → Prop} {free : Addr → Prop} (hy : plainFor y = true) (hw : ws = Cond.code y cc maxL ret :: ws') (hn : (lg_sl vs).length ≤ maxL) (ho : own = y.cls) (hD : ∀ σ, va_D A (wl σ)) (hN : Jk A N0)
    (body : ∀ (p : Program) (e : Env) (s : State) (m : MethodId) (args : Array Value) (below : List Frame) (meth : Method) (c : Code), Cx p s m args c cc maxL own ws' D cl tys wl A N0 → meth.locks = false → meth.sig.returnType = ret → J p l e rm s m args below meth c D cl wl A maxL 0 0 (MQ below Qc args s mc ms free) 0 (lv_args 0 vs) [] σ) :
    Met l y ws rm (va_Pc vs (Jw D cl tys wl N0 σ)) Qc mc ms free := by
  refine va_MetF hy hw ?_
  intro p e s m args below meth c s₁ B hml hv
  obtain ⟨rfl, hP, hK, hN1⟩ := hv
  have hts := atoms_spec (ws := ws) B.pre
  have hown : s.vm.findClass own = some m.cls := by rw [ho]; exact findClass_of_methodNamed B.named
  rw [lg_entry_eq]
  exact body p e s m _ below meth c ⟨B.exec, B.bytes, hml, hown, fun w h => hts w (by rw [hw]; exact List.mem_cons_of_mem _ h), hK, hD, hN1, hN⟩ B.notSynchronized B.returns s.heap [] _ (lv_entry vs hn) hP va_S.rf
end JJ
end
section
/-! two statics of Throwable: laid below sz, holding a reference or null -/
def Zst (C n d : String) (sz : Nat) (U : State) : Prop := ∃ (c : ClassId) (k : Class) (i : Nat) (f : Field) (a : Nat) (cell : Cell), U.vm.findClass C = some c ∧ U.fieldFound? C n d = some (c, k, i, f) ∧ f.isStatic = true ∧ k.statics = some a ∧ U.heap[a]? = some cell ∧ cell.vm.isStatics = true ∧ cell.cls = c ∧ f.slot < cell.slots.size ∧ k.staticTypes[f.slot]? = some f.type ∧ (∃ u : RefV, cell.slots[f.slot]? = some u.v) ∧ a < sz
theorem Zst.of {C n d : String} {args : Array Value} {s : State} (hl : (Cond.laysStatic C n d).before args s = true) (hr : (Cond.isRef (.static C n d)).before args s = true) : Zst C n d s.heap.size s := by
  obtain ⟨c, k, i, f, a, cell, h1, h2, h3, h4, h5, h6, h7, h8, h9⟩ := Cond.laysStatic_spec hl
  exact ⟨c, k, i, f, a, cell, h1, h2, h3, h4, h5, h6, h7, h8, h9, Cond.staticRefV h2 h3 h4 h5 h6 hr, (Array.getElem?_eq_some_iff.mp h5).1⟩
theorem Zst.moved {C n d : String} {sz : Nat} {s U : State} (hW : s.WarmedH U.vm) (hz : sz ≤ s.heap.size) (hk : ∀ q : Nat, q < s.heap.size → ¬ sz ≤ q → U.heap[q]? = s.heap[q]?) (h : Zst C n d sz s) : Zst C n d sz U := by
  obtain ⟨c, k, i, f, a, cell, h1, h2, h3, h4, h5, h6, h7, h8, h9, h10, h11⟩ := h
  obtain ⟨k', hi', he⟩ := State.fieldFound?_setVm hW.alike h2
  exact ⟨c, k', i, f, a, cell, by rw [hW.alike.findClass]; exact h1, hi', h3, by rw [he]; exact h4, by rw [hk a (Nat.lt_of_lt_of_le h11 hz) (Nat.not_le.mpr h11)]; exact h5, h6, h7, h8, by rw [he]; exact h9, h10, h11⟩
theorem Zst.lays {C n d : String} {sz : Nat} {U : State} {args : Array Value} (h : Zst C n d sz U) : (Cond.laysStatic C n d).before args U = true := by
  obtain ⟨c, k, i, f, a, cell, h1, h2, h3, h4, h5, h6, h7, h8, h9, h10, h11⟩ := h
  simp [Cond.before, Cond.holds, Cond.value, h1, h2, h3, h4, h5, h6, h7, h8, h9]
theorem Zst.ref {C n d : String} {sz : Nat} {U : State} {args : Array Value} (h : Zst C n d sz U) : (Cond.isRef (.static C n d)).before args U = true := by
  obtain ⟨c, k, i, f, a, cell, h1, h2, h3, h4, h5, h6, h7, h8, h9, ⟨⟨v, hv⟩, h10⟩, h11⟩ := h
  have he : (Term.static C n d).eval args U none [] U = some v := by
    simp [Term.eval, State.fieldNamed?, h2, h3, h4, h5, h6, h10]
  simp only [Cond.before, Cond.holds, Cond.value, he]
  cases v <;> first | rfl | (simp [Value.isRef] at hv)
end
section
/-! the world of this claim: 0 T; 1 Uf; 2 I; 3 I; 4 I; 5 Rp; 6 I; 7 Z; 8 I; 9 Gr; 10 Un; 11 I; 12 I; 13 Z; 14 Cr; 15 I; 16 St; 17 As; 18 St; 19 I; 20 Z; 21 As; 22 St; 23 I; 24 Z; 25 As; 26 Df; 27 I; 28 Rc; 29 I; 30 I; 31 I; 32 I; 33 M; 34 I; 35 Z; 36 I; 37 I; 38 I; 39 I; 40 I; 41 I; 42 I; 43 I; 44 I; 45 I; 46 Z; 47 I; 48 I; 49 I; 50 I; 51 I; 52 I; 53 J -/
def wlT (ad ca : Nat → Nat) (σ : Jst) : va_W := [(ad 0, .inr (0, [.ref (ad 1), .ref (ad 5), .ref (ad 9), .ref (ad 14), .ref (ad 16), .ref (ad 17), .ref (ad 26), .ref (ad 28)])),
  (ad 1, .inr (9, [.ref (ad 2), .ref (ad 3), .ref (ad 4), .int (σ 1 3)])),
  (ad 2, .inl (ca 2, 20, .inl (σ 2))),
  (ad 3, .inl (ca 3, 20, .inl (σ 3))),
  (ad 4, .inl (ca 4, 20, .inl (σ 4))),
  (ad 5, .inr (6, [.ref (ad 6), .ref (ad 7), .ref (ad 8), .int (σ 5 3)])),
  (ad 6, .inl (ca 6, 20, .inl (σ 6))),
  (ad 7, .inl (ca 7, 20, .inl (σ 7))),
  (ad 8, .inl (ca 8, 20, .inl (σ 8))),
  (ad 9, .inr (4, [.ref (ad 10), .int (σ 9 1), .int (σ 9 2), .int (σ 9 3), .int (σ 9 4), .int (σ 9 5), .int (σ 9 6), .int (σ 9 7), .int (σ 9 8), .int (σ 9 9), .int (σ 9 10), .int (σ 9 11), .int (σ 9 12), .int (σ 9 13)])),
  (ad 10, .inr (8, [.ref (ad 11), .ref (ad 12), .ref (ad 13), .int (σ 10 3)])),
  (ad 11, .inl (ca 11, 4, .inl (σ 11))),
  (ad 12, .inl (ca 12, 4, .inl (σ 12))),
  (ad 13, .inl (ca 13, 4, .inl (σ 13))),
  (ad 14, .inr (2, [.ref (ad 15), .int (σ 14 1), .int (σ 14 2), .int (σ 14 3), .int (σ 14 4)])),
  (ad 15, .inl (ca 15, 3, .inl (σ 15))),
  (ad 16, .inl (ca 16, 2, .inr (.inr (.inr (.inr (fun j => match j with | 0 => some (ad 18) | 1 => some (ad 22) | _ => none)))))),
  (ad 17, .inl (ca 17, 2, .inr (.inr (.inr (.inr (fun j => match j with | 0 => some (ad 21) | 1 => some (ad 25) | _ => none)))))),
  (ad 18, .inr (7, [.ref (ad 19), .ref (ad 20), .int (σ 18 2), .int (σ 18 3)])),
  (ad 19, .inl (ca 19, 60, .inl (σ 19))),
  (ad 20, .inl (ca 20, 60, .inl (σ 20))),
  (ad 21, .inr (1, [.int (σ 21 0), .int (σ 21 1), .int (σ 21 2), .int (σ 21 3), .int (σ 21 4), .int (σ 21 5), .int (σ 21 6)])),
  (ad 22, .inr (7, [.ref (ad 23), .ref (ad 24), .int (σ 22 2), .int (σ 22 3)])),
  (ad 23, .inl (ca 23, 60, .inl (σ 23))),
  (ad 24, .inl (ca 24, 60, .inl (σ 24))),
  (ad 25, .inr (1, [.int (σ 25 0), .int (σ 25 1), .int (σ 25 2), .int (σ 25 3), .int (σ 25 4), .int (σ 25 5), .int (σ 25 6)])),
  (ad 26, .inr (3, [.ref (ad 27), .int (σ 26 1), .int (σ 26 2)])),
  (ad 27, .inl (ca 27, 6, .inl (σ 27))),
  (ad 28, .inr (5, [.ref (ad 29), .ref (ad 30), .ref (ad 31), .ref (ad 32), .int (σ 28 4)])),
  (ad 29, .inl (ca 29, 40, .inl (σ 29))),
  (ad 30, .inl (ca 30, 40, .inl (σ 30))),
  (ad 31, .inl (ca 31, 40, .inl (σ 31))),
  (ad 32, .inl (ca 32, 40, .inl (σ 32))),
  (ad 33, .inr (10, [.int (σ 33 0), .int (σ 33 1), .int (σ 33 2), .int (σ 33 3), .int (σ 33 4), .int (σ 33 5), .int (σ 33 6), .int (σ 33 7), .int (σ 33 8), .int (σ 33 9), .int (σ 33 10), .int (σ 33 11), .int (σ 33 12), .int (σ 33 13), .int (σ 33 14), .ref (ad 34), .ref (ad 35), .int (σ 33 17), .ref (ad 36), .ref (ad 37), .ref (ad 38), .int (σ 33 21), .int (σ 33 22), .int (σ 33 23), .int (σ 33 24), .ref (ad 39), .int (σ 33 26), .ref (ad 40), .ref (ad 41), .ref (ad 42), .ref (ad 43), .ref (ad 44), .ref (ad 45), .ref (ad 46), .ref (ad 47), .ref (ad 48), .ref (ad 49), .ref (ad 50), .ref (ad 51), .int (σ 33 39), .ref (ad 52)])),
  (ad 34, .inl (ca 34, 4, .inl (σ 34))),
  (ad 35, .inl (ca 35, 4, .inl (σ 35))),
  (ad 36, .inl (ca 36, 20, .inl (σ 36))),
  (ad 37, .inl (ca 37, 20, .inl (σ 37))),
  (ad 38, .inl (ca 38, 20, .inl (σ 38))),
  (ad 39, .inl (ca 39, 3, .inl (σ 39))),
  (ad 40, .inl (ca 40, 20, .inl (σ 40))),
  (ad 41, .inl (ca 41, 2, .inl (σ 41))),
  (ad 42, .inl (ca 42, 2, .inl (σ 42))),
  (ad 43, .inl (ca 43, 128, .inl (σ 43))),
  (ad 44, .inl (ca 44, 2, .inl (σ 44))),
  (ad 45, .inl (ca 45, 2, .inl (σ 45))),
  (ad 46, .inl (ca 46, 2, .inl (σ 46))),
  (ad 47, .inl (ca 47, 2, .inl (σ 47))),
  (ad 48, .inl (ca 48, 2, .inl (σ 48))),
  (ad 49, .inl (ca 49, 2, .inl (σ 49))),
  (ad 50, .inl (ca 50, 2, .inl (σ 50))),
  (ad 51, .inl (ca 51, 6, .inl (σ 51))),
  (ad 52, .inl (ca 52, 160, .inl (σ 52))),
  (ad 53, .inl (ca 53, 1, .inr (.inl (fun j => (σ 53 j).toInt64))))]
def tysT (ca : Nat → Nat) : List (ClassId × FieldType) := [(ca 2, .int), (ca 3, .int), (ca 4, .int), (ca 6, .int), (ca 7, .boolean), (ca 8, .int), (ca 11, .int), (ca 12, .int), (ca 13, .boolean), (ca 15, .int), (ca 16, .object R_St), (ca 17, .object R_As), (ca 19, .int), (ca 20, .boolean), (ca 23, .int), (ca 24, .boolean), (ca 27, .int), (ca 29, .int), (ca 30, .int), (ca 31, .int), (ca 32, .int), (ca 34, .int), (ca 35, .boolean), (ca 36, .int), (ca 37, .int), (ca 38, .int), (ca 39, .int), (ca 40, .int), (ca 41, .int), (ca 42, .int), (ca 43, .int), (ca 44, .int), (ca 45, .int), (ca 46, .boolean), (ca 47, .int), (ca 48, .int), (ca 49, .int), (ca 50, .int), (ca 51, .int), (ca 52, .int), (ca 53, .long)]
/-- all cells from sz on -/
def Aw (sz : Nat) : Nat → Prop := fun q => sz ≤ q
def Jd (ca ad : Nat → Nat) (sz : Nat) : Prop := ∀ σ, va_D (Aw sz) (wlT ad ca σ)
def nwL : List Cond := [.methodLinkNest R_T 9 y_Uf_init "TeleStack", .methodLinkNest R_T 18 y_Rp_init "TeleStack", .methodLinkNest R_T 25 y_Gr_init "TeleStack", .methodLinkNest R_T 32 y_Cr_init "TeleStack", .methodLinkNest R_T 49 y_St_init "TeleStack", .methodLinkNest R_T 55 y_Df_init "TeleStack", .methodLinkNest R_T 62 y_Rc_init "TeleStack", .fieldLinkNest R_T 194 "TeleStack$DownFrame" "pointer" "I" "TeleStack", .fieldLinkNest R_As 19 "TeleStack$DownFrame" "count" "I" "TeleStack", .fieldLinkNest R_As 30 "TeleStack$DownFrame" "pointer" "I" "TeleStack", .fieldLinkNest R_As 33 "TeleStack$DownFrame" "cells" "[I" "TeleStack", .methodLinkNest R_As 41 y_T_following "TeleStack", .methodLinkNest R_Cr 25 y_T_distance "TeleStack", .methodLinkNest R_Cr 44 y_T_following "TeleStack", .methodLinkNest R_Gr 11 y_Un_init "TeleStack", .methodLinkNest R_Gr 80 y_T_distance "TeleStack", .methodLinkNest R_Gr 139 y_T_following "TeleStack", .fieldLinkNest R_Rp 26 "TeleStack$Craft" "expected" "I" "TeleStack", .fieldLinkNest R_Rp 30 "TeleStack$Craft" "again" "Z" "TeleStack", .fieldLinkNest R_Rp 33 "TeleStack$Craft" "gate" "I" "TeleStack", .fieldLinkNest R_St 37 "TeleStack$DownFrame" "count" "I" "TeleStack", .fieldLinkNest R_St 40 "TeleStack$DownFrame" "pointer" "I" "TeleStack", .fieldLinkNest R_St 43 "TeleStack$DownFrame" "cells" "[I" "TeleStack", .methodLinkNest R_St 44 y_T_following "TeleStack", .castable "java/lang/IllegalStateException" "java/lang/IllegalStateException", .castable "java/lang/IllegalArgumentException" "java/lang/IllegalArgumentException", .castable "java/lang/IndexOutOfBoundsException" "java/lang/IndexOutOfBoundsException", .castable "java/util/NoSuchElementException" "java/util/NoSuchElementException", .declares ⟨"java/lang/RuntimeException", "<init>", "()V"⟩, .declares ⟨"java/lang/RuntimeException", "<init>", "(Ljava/lang/String;)V"⟩, .declares ⟨"java/lang/Exception", "<init>", "()V"⟩, .declares ⟨"java/lang/Exception", "<init>", "(Ljava/lang/String;)V"⟩, .declares ⟨"java/lang/Throwable", "<init>", "()V"⟩, .declares ⟨"java/lang/Throwable", "<init>", "(Ljava/lang/String;)V"⟩]
def strL : List (Nat × String) := [(73, "the ground is not idle"), (84, "window, limit or span"), (91, "number"), (96, "how"), (101, "the ground is idle"), (109, "the ground takes no commands"), (124, "no such up frame"), (149, "the queue is empty"), (160, "no such report"), (179, "channel, tag or length"), (185, "channel"), (202, "what"), (214, "no such packet")]
def ncL : List (String × String) := [("java/lang/IllegalArgumentException", "java/lang/IllegalStateException")]
def nwK : Cond → Bool
  | .fieldLinkNest .. => true
  | .methodLinkNest .. => true
  | .declares _ => true
  | .castable .. => true
  | _ => false
theorem nwK_warm {w : Cond} (hk : nwK w = true) {s U : State} (hW : s.WarmedH U.vm) (h : va_Nw w s) : va_Nw w U := by
  cases w <;> first | exact va_Nw.warmF hW h | exact va_Nw.warmM hW h | exact va_Nw.warmD hW h | exact va_Nw.warmC hW h | (simp [nwK] at hk)
def NwT (sz : Nat) (U : State) : Prop := (∀ w ∈ nwL, va_Nw w U) ∧ sz ≤ U.heap.size ∧ Zst Bundle.tN "UNASSIGNED_STACK" Bundle.steD sz U ∧ Zst Bundle.tN "SUPPRESSED_SENTINEL" Bundle.listD sz U ∧ (∀ q ∈ strL, ∃ a, vk_R R_T q.1 q.2 a U) ∧ ∀ q ∈ ncL, va_Nc q.1 q.2 U
theorem nwT_k (sz : Nat) : Jk (Aw sz) (NwT sz) := fun s U hW hz hk h => ⟨fun w hw => nwK_warm ((by decide +kernel : ∀ w ∈ nwL, nwK w = true) w hw) hW (h.1 w hw), Nat.le_trans h.2.1 hz, Zst.moved hW h.2.1 hk h.2.2.1, Zst.moved hW h.2.1 hk h.2.2.2.1, fun q hq => (h.2.2.2.2.1 q hq).elim fun a ha => ⟨a, vk_R.warm hW ha⟩, fun q hq => (h.2.2.2.2.2 q hq).moved hW.alike⟩
theorem n_T_9 (sz : Nat) : ∀ s : State, NwT sz s → va_Nw (.methodLinkNest R_T 9 y_Uf_init "TeleStack") s := fun s h => h.1 _ (by decide +kernel)
theorem n_T_18 (sz : Nat) : ∀ s : State, NwT sz s → va_Nw (.methodLinkNest R_T 18 y_Rp_init "TeleStack") s := fun s h => h.1 _ (by decide +kernel)
theorem n_T_25 (sz : Nat) : ∀ s : State, NwT sz s → va_Nw (.methodLinkNest R_T 25 y_Gr_init "TeleStack") s := fun s h => h.1 _ (by decide +kernel)
theorem n_T_32 (sz : Nat) : ∀ s : State, NwT sz s → va_Nw (.methodLinkNest R_T 32 y_Cr_init "TeleStack") s := fun s h => h.1 _ (by decide +kernel)
theorem n_T_49 (sz : Nat) : ∀ s : State, NwT sz s → va_Nw (.methodLinkNest R_T 49 y_St_init "TeleStack") s := fun s h => h.1 _ (by decide +kernel)
theorem n_T_55 (sz : Nat) : ∀ s : State, NwT sz s → va_Nw (.methodLinkNest R_T 55 y_Df_init "TeleStack") s := fun s h => h.1 _ (by decide +kernel)
theorem n_T_62 (sz : Nat) : ∀ s : State, NwT sz s → va_Nw (.methodLinkNest R_T 62 y_Rc_init "TeleStack") s := fun s h => h.1 _ (by decide +kernel)
theorem n_T_194 (sz : Nat) : ∀ s : State, NwT sz s → va_Nw (.fieldLinkNest R_T 194 "TeleStack$DownFrame" "pointer" "I" "TeleStack") s := fun s h => h.1 _ (by decide +kernel)
theorem n_As_19 (sz : Nat) : ∀ s : State, NwT sz s → va_Nw (.fieldLinkNest R_As 19 "TeleStack$DownFrame" "count" "I" "TeleStack") s := fun s h => h.1 _ (by decide +kernel)
theorem n_As_30 (sz : Nat) : ∀ s : State, NwT sz s → va_Nw (.fieldLinkNest R_As 30 "TeleStack$DownFrame" "pointer" "I" "TeleStack") s := fun s h => h.1 _ (by decide +kernel)
theorem n_As_33 (sz : Nat) : ∀ s : State, NwT sz s → va_Nw (.fieldLinkNest R_As 33 "TeleStack$DownFrame" "cells" "[I" "TeleStack") s := fun s h => h.1 _ (by decide +kernel)
theorem n_As_41 (sz : Nat) : ∀ s : State, NwT sz s → va_Nw (.methodLinkNest R_As 41 y_T_following "TeleStack") s := fun s h => h.1 _ (by decide +kernel)
theorem n_Cr_25 (sz : Nat) : ∀ s : State, NwT sz s → va_Nw (.methodLinkNest R_Cr 25 y_T_distance "TeleStack") s := fun s h => h.1 _ (by decide +kernel)
theorem n_Cr_44 (sz : Nat) : ∀ s : State, NwT sz s → va_Nw (.methodLinkNest R_Cr 44 y_T_following "TeleStack") s := fun s h => h.1 _ (by decide +kernel)
theorem n_Gr_11 (sz : Nat) : ∀ s : State, NwT sz s → va_Nw (.methodLinkNest R_Gr 11 y_Un_init "TeleStack") s := fun s h => h.1 _ (by decide +kernel)
theorem n_Gr_80 (sz : Nat) : ∀ s : State, NwT sz s → va_Nw (.methodLinkNest R_Gr 80 y_T_distance "TeleStack") s := fun s h => h.1 _ (by decide +kernel)
theorem n_Gr_139 (sz : Nat) : ∀ s : State, NwT sz s → va_Nw (.methodLinkNest R_Gr 139 y_T_following "TeleStack") s := fun s h => h.1 _ (by decide +kernel)
theorem n_Rp_26 (sz : Nat) : ∀ s : State, NwT sz s → va_Nw (.fieldLinkNest R_Rp 26 "TeleStack$Craft" "expected" "I" "TeleStack") s := fun s h => h.1 _ (by decide +kernel)
theorem n_Rp_30 (sz : Nat) : ∀ s : State, NwT sz s → va_Nw (.fieldLinkNest R_Rp 30 "TeleStack$Craft" "again" "Z" "TeleStack") s := fun s h => h.1 _ (by decide +kernel)
theorem n_Rp_33 (sz : Nat) : ∀ s : State, NwT sz s → va_Nw (.fieldLinkNest R_Rp 33 "TeleStack$Craft" "gate" "I" "TeleStack") s := fun s h => h.1 _ (by decide +kernel)
theorem n_St_37 (sz : Nat) : ∀ s : State, NwT sz s → va_Nw (.fieldLinkNest R_St 37 "TeleStack$DownFrame" "count" "I" "TeleStack") s := fun s h => h.1 _ (by decide +kernel)
theorem n_St_40 (sz : Nat) : ∀ s : State, NwT sz s → va_Nw (.fieldLinkNest R_St 40 "TeleStack$DownFrame" "pointer" "I" "TeleStack") s := fun s h => h.1 _ (by decide +kernel)
theorem n_St_43 (sz : Nat) : ∀ s : State, NwT sz s → va_Nw (.fieldLinkNest R_St 43 "TeleStack$DownFrame" "cells" "[I" "TeleStack") s := fun s h => h.1 _ (by decide +kernel)
theorem n_St_44 (sz : Nat) : ∀ s : State, NwT sz s → va_Nw (.methodLinkNest R_St 44 y_T_following "TeleStack") s := fun s h => h.1 _ (by decide +kernel)
abbrev wG (y : MethodName) (b : ByteArray) (n : Nat) (r : Option FieldType) : List Cond := Cond.code y b n r :: Gw
theorem vin_lit (i : Int32) (n : Nat) (h : ¬ (i < 0 ∨ n ≤ i.toNatClampNeg)) : vp_in i n := h
theorem gw_call {y : MethodName} {b : ByteArray} {n : Nat} {r : Option FieldType} {ws : List Cond} (hw : ws = wG y b n r) (hc : Cond.code y b n r ∈ Gw) : GoodIn Gw ws := by
  subst hw
  intro w h
  rcases List.mem_cons.mp h with rfl | h
  · exact ⟨hc, gw_good hc⟩
  · exact ⟨h, gw_good h⟩
section WT
variable {p : Program} {l : Launch} {e : Env} {R : Room} {s : State} {m : MethodId} {args : Array Value} {below : List Frame} {meth : Method} {c : Code} {cells slots : Nat} {Q : State → Prop}
variable {cc : ByteArray} {pc nL idx : Nat} {rest : List Value} {loc : List (Nat × Value)} {D : va_G} {ca ad : Nat → Nat} {A : Nat → Prop} {N0 : State → Prop} {σ : Jst} {own : String}
theorem gcV (X : Cx p s m args c cc nL own Gw D vwCl (tysT ca) (wlT ad ca) A N0) {y : MethodName} {bytes : ByteArray} {maxL n : Nat} {ret : Option FieldType} {ws : List Cond} {rm : Room} {C : String} (hw : ws = wG y bytes maxL ret) (hrc : rm.cells = 0) (hrs : rm.slots = 0) (hm : Cond.code y bytes maxL ret ∈ Gw ∧ Cond.initialized y.cls ∈ Gw) (hs : Cond.instanceMethod y ∈ Gw ∧ Cond.selects C y y ∈ Gw) (hl : Cond.methodLink own idx y ∈ Gw) (hd : y.cls ≠ "java/lang/invoke/MethodHandle" ∧ y.cls ≠ "java/lang/invoke/VarHandle" ∧ (parseMethodDescriptor y.desc).map (fun d => d.parameters.length) = some n) (hR : rm.frames + 1 ≤ R.frames ∧ 8 + (maxL + 11) + rm.locals ≤ R.locals) : CallW R s args own C idx y bytes maxL ret ws rm 0 0 n :=
  ⟨callB_of n X.2.2.2.2.1 (gw_call hw hm.1) hw hrc hrs (X.2.2.2.2.1 _ hm.2) (X.2.2.2.2.1 _ hl) hd hR, X.2.2.2.2.1 _ hs.1, X.2.2.2.2.1 _ hs.2⟩
theorem gcS (X : Cx p s m args c cc nL own Gw D vwCl (tysT ca) (wlT ad ca) A N0) {y : MethodName} {bytes : ByteArray} {maxL n : Nat} {ret : Option FieldType} {ws : List Cond} {rm : Room} (hw : ws = wG y bytes maxL ret) (hrc : rm.cells = 0) (hrs : rm.slots = 0) (hm : Cond.code y bytes maxL ret ∈ Gw ∧ Cond.initialized y.cls ∈ Gw) (hs : Cond.static y ∈ Gw) (hl : Cond.methodLink own idx y ∈ Gw) (hd : y.cls ≠ "java/lang/invoke/MethodHandle" ∧ y.cls ≠ "java/lang/invoke/VarHandle" ∧ (parseMethodDescriptor y.desc).map (fun d => d.parameters.length) = some n) (hR : rm.frames + 1 ≤ R.frames ∧ 8 + (maxL + 11) + rm.locals ≤ R.locals) : CallB R s args own idx y bytes maxL ret ws rm 0 0 n ∧ (Cond.static y).before args s = true :=
  ⟨callB_of n X.2.2.2.2.1 (gw_call hw hm.1) hw hrc hrs (X.2.2.2.2.1 _ hm.2) (X.2.2.2.2.1 _ hl) hd hR, X.2.2.2.2.1 _ hs⟩
theorem gcVN (X : Cx p s m args c cc nL own Gw D vwCl (tysT ca) (wlT ad ca) A N0) {y : MethodName} {bytes : ByteArray} {maxL n : Nat} {ret : Option FieldType} {ws : List Cond} {rm : Room} {C host : String} (hw : ws = wG y bytes maxL ret) (hrc : rm.cells = 0) (hrs : rm.slots = 0) (hm : Cond.code y bytes maxL ret ∈ Gw ∧ Cond.initialized y.cls ∈ Gw) (hs : Cond.instanceMethod y ∈ Gw ∧ Cond.selects C y y ∈ Gw) (hl : ∀ s : State, N0 s → va_Nw (.methodLinkNest own idx y host) s) (hd : y.cls ≠ "java/lang/invoke/MethodHandle" ∧ y.cls ≠ "java/lang/invoke/VarHandle" ∧ (parseMethodDescriptor y.desc).map (fun d => d.parameters.length) = some n) (hR : rm.frames + 1 ≤ R.frames ∧ 8 + (maxL + 11) + rm.locals ≤ R.locals) : va_CN R s args own idx y host bytes maxL ret ws rm 0 0 n ∧ (Cond.instanceMethod y).before args s = true ∧ (Cond.selects C y y).before args s = true :=
  ⟨va_cnB n X.2.2.2.2.1 (gw_call hw hm.1) hw hrc hrs (hl s X.2.2.2.2.2.2.2.1) (X.2.2.2.2.1 _ hm.2) hd hR, X.2.2.2.2.1 _ hs.1, X.2.2.2.2.1 _ hs.2⟩
theorem gcSN (X : Cx p s m args c cc nL own Gw D vwCl (tysT ca) (wlT ad ca) A N0) {y : MethodName} {bytes : ByteArray} {maxL n : Nat} {ret : Option FieldType} {ws : List Cond} {rm : Room} {host : String} (hw : ws = wG y bytes maxL ret) (hrc : rm.cells = 0) (hrs : rm.slots = 0) (hm : Cond.code y bytes maxL ret ∈ Gw ∧ Cond.initialized y.cls ∈ Gw) (hs : Cond.static y ∈ Gw) (hl : ∀ s : State, N0 s → va_Nw (.methodLinkNest own idx y host) s) (hd : y.cls ≠ "java/lang/invoke/MethodHandle" ∧ y.cls ≠ "java/lang/invoke/VarHandle" ∧ (parseMethodDescriptor y.desc).map (fun d => d.parameters.length) = some n) (hR : rm.frames + 1 ≤ R.frames ∧ 8 + (maxL + 11) + rm.locals ≤ R.locals) : va_CN R s args own idx y host bytes maxL ret ws rm 0 0 n ∧ (Cond.static y).before args s = true ∧ True :=
  ⟨va_cnB n X.2.2.2.2.1 (gw_call hw hm.1) hw hrc hrs (hl s X.2.2.2.2.2.2.2.1) (X.2.2.2.2.1 _ hm.2) hd hR, X.2.2.2.2.1 _ hs, trivial⟩
theorem g_0_0 (X : Cx p s m args c cc nL own Gw D vwCl (tysT ca) (wlT ad ca) A N0) (hlink : Cond.fieldLink own idx "TeleStack" "upFrames" "LTeleStack$UpFrames;" ∈ Gw) (d : decode cc pc = .ok (.getfield idx, 3)) (k : J p l e R s m args below meth c D vwCl (wlT ad ca) A nL cells slots Q (pc + 3) loc (.ref (ad 1) :: rest) σ) : J p l e R s m args below meth c D vwCl (wlT ad ca) A nL cells slots Q pc loc (.ref (ad 0) :: rest) σ := j_get X uw_T 0 rfl rfl 0 (by decide) hlink rfl d k
theorem g_0_1 (X : Cx p s m args c cc nL own Gw D vwCl (tysT ca) (wlT ad ca) A N0) (hlink : Cond.fieldLink own idx "TeleStack" "reports" "LTeleStack$Reports;" ∈ Gw) (d : decode cc pc = .ok (.getfield idx, 3)) (k : J p l e R s m args below meth c D vwCl (wlT ad ca) A nL cells slots Q (pc + 3) loc (.ref (ad 5) :: rest) σ) : J p l e R s m args below meth c D vwCl (wlT ad ca) A nL cells slots Q pc loc (.ref (ad 0) :: rest) σ := j_get X uw_T 0 rfl rfl 1 (by decide) hlink rfl d k
theorem g_0_2 (X : Cx p s m args c cc nL own Gw D vwCl (tysT ca) (wlT ad ca) A N0) (hlink : Cond.fieldLink own idx "TeleStack" "station" "LTeleStack$Ground;" ∈ Gw) (d : decode cc pc = .ok (.getfield idx, 3)) (k : J p l e R s m args below meth c D vwCl (wlT ad ca) A nL cells slots Q (pc + 3) loc (.ref (ad 9) :: rest) σ) : J p l e R s m args below meth c D vwCl (wlT ad ca) A nL cells slots Q pc loc (.ref (ad 0) :: rest) σ := j_get X uw_T 0 rfl rfl 2 (by decide) hlink rfl d k
theorem g_0_3 (X : Cx p s m args c cc nL own Gw D vwCl (tysT ca) (wlT ad ca) A N0) (hlink : Cond.fieldLink own idx "TeleStack" "vessel" "LTeleStack$Craft;" ∈ Gw) (d : decode cc pc = .ok (.getfield idx, 3)) (k : J p l e R s m args below meth c D vwCl (wlT ad ca) A nL cells slots Q (pc + 3) loc (.ref (ad 14) :: rest) σ) : J p l e R s m args below meth c D vwCl (wlT ad ca) A nL cells slots Q pc loc (.ref (ad 0) :: rest) σ := j_get X uw_T 0 rfl rfl 3 (by decide) hlink rfl d k
theorem g_0_4 (X : Cx p s m args c cc nL own Gw D vwCl (tysT ca) (wlT ad ca) A N0) (hlink : Cond.fieldLink own idx "TeleStack" "streams" "[LTeleStack$Stream;" ∈ Gw) (d : decode cc pc = .ok (.getfield idx, 3)) (k : J p l e R s m args below meth c D vwCl (wlT ad ca) A nL cells slots Q (pc + 3) loc (.ref (ad 16) :: rest) σ) : J p l e R s m args below meth c D vwCl (wlT ad ca) A nL cells slots Q pc loc (.ref (ad 0) :: rest) σ := j_get X uw_T 0 rfl rfl 4 (by decide) hlink rfl d k
theorem g_0_5 (X : Cx p s m args c cc nL own Gw D vwCl (tysT ca) (wlT ad ca) A N0) (hlink : Cond.fieldLink own idx "TeleStack" "assemblers" "[LTeleStack$Assembler;" ∈ Gw) (d : decode cc pc = .ok (.getfield idx, 3)) (k : J p l e R s m args below meth c D vwCl (wlT ad ca) A nL cells slots Q (pc + 3) loc (.ref (ad 17) :: rest) σ) : J p l e R s m args below meth c D vwCl (wlT ad ca) A nL cells slots Q pc loc (.ref (ad 0) :: rest) σ := j_get X uw_T 0 rfl rfl 5 (by decide) hlink rfl d k
theorem g_0_6 (X : Cx p s m args c cc nL own Gw D vwCl (tysT ca) (wlT ad ca) A N0) (hlink : Cond.fieldLink own idx "TeleStack" "downFrame" "LTeleStack$DownFrame;" ∈ Gw) (d : decode cc pc = .ok (.getfield idx, 3)) (k : J p l e R s m args below meth c D vwCl (wlT ad ca) A nL cells slots Q (pc + 3) loc (.ref (ad 26) :: rest) σ) : J p l e R s m args below meth c D vwCl (wlT ad ca) A nL cells slots Q pc loc (.ref (ad 0) :: rest) σ := j_get X uw_T 0 rfl rfl 6 (by decide) hlink rfl d k
theorem g_0_7 (X : Cx p s m args c cc nL own Gw D vwCl (tysT ca) (wlT ad ca) A N0) (hlink : Cond.fieldLink own idx "TeleStack" "received" "LTeleStack$Received;" ∈ Gw) (d : decode cc pc = .ok (.getfield idx, 3)) (k : J p l e R s m args below meth c D vwCl (wlT ad ca) A nL cells slots Q (pc + 3) loc (.ref (ad 28) :: rest) σ) : J p l e R s m args below meth c D vwCl (wlT ad ca) A nL cells slots Q pc loc (.ref (ad 0) :: rest) σ := j_get X uw_T 0 rfl rfl 7 (by decide) hlink rfl d k
theorem g_1_0 (X : Cx p s m args c cc nL own Gw D vwCl (tysT ca) (wlT ad ca) A N0) (hlink : Cond.fieldLink own idx "TeleStack$UpFrames" "kinds" "[I" ∈ Gw) (d : decode cc pc = .ok (.getfield idx, 3)) (k : J p l e R s m args below meth c D vwCl (wlT ad ca) A nL cells slots Q (pc + 3) loc (.ref (ad 2) :: rest) σ) : J p l e R s m args below meth c D vwCl (wlT ad ca) A nL cells slots Q pc loc (.ref (ad 1) :: rest) σ := j_get X uw_Uf 1 rfl rfl 0 (by decide) hlink rfl d k
theorem g_1_1 (X : Cx p s m args c cc nL own Gw D vwCl (tysT ca) (wlT ad ca) A N0) (hlink : Cond.fieldLink own idx "TeleStack$UpFrames" "numbers" "[I" ∈ Gw) (d : decode cc pc = .ok (.getfield idx, 3)) (k : J p l e R s m args below meth c D vwCl (wlT ad ca) A nL cells slots Q (pc + 3) loc (.ref (ad 3) :: rest) σ) : J p l e R s m args below meth c D vwCl (wlT ad ca) A nL cells slots Q pc loc (.ref (ad 1) :: rest) σ := j_get X uw_Uf 1 rfl rfl 1 (by decide) hlink rfl d k
theorem g_1_2 (X : Cx p s m args c cc nL own Gw D vwCl (tysT ca) (wlT ad ca) A N0) (hlink : Cond.fieldLink own idx "TeleStack$UpFrames" "commands" "[I" ∈ Gw) (d : decode cc pc = .ok (.getfield idx, 3)) (k : J p l e R s m args below meth c D vwCl (wlT ad ca) A nL cells slots Q (pc + 3) loc (.ref (ad 4) :: rest) σ) : J p l e R s m args below meth c D vwCl (wlT ad ca) A nL cells slots Q pc loc (.ref (ad 1) :: rest) σ := j_get X uw_Uf 1 rfl rfl 2 (by decide) hlink rfl d k
theorem g_1_3 (X : Cx p s m args c cc nL own Gw D vwCl (tysT ca) (wlT ad ca) A N0) (hlink : Cond.fieldLink own idx "TeleStack$UpFrames" "size" "I" ∈ Gw) {v : Int32} (hv : σ 1 3 = v) (d : decode cc pc = .ok (.getfield idx, 3)) (k : J p l e R s m args below meth c D vwCl (wlT ad ca) A nL cells slots Q (pc + 3) loc (.int v :: rest) σ) : J p l e R s m args below meth c D vwCl (wlT ad ca) A nL cells slots Q pc loc (.ref (ad 1) :: rest) σ := by subst hv; exact j_get X uw_Uf 1 rfl rfl 3 (by decide) hlink rfl d k
theorem p_1_3 (X : Cx p s m args c cc nL own Gw D vwCl (tysT ca) (wlT ad ca) A N0) (hlink : Cond.fieldLink own idx "TeleStack$UpFrames" "size" "I" ∈ Gw) {x : Int32} (d : decode cc pc = .ok (.putfield idx, 3)) (k : J p l e R s m args below meth c D vwCl (wlT ad ca) A nL cells slots Q (pc + 3) loc rest (jup σ 1 3 x)) : J p l e R s m args below meth c D vwCl (wlT ad ca) A nL cells slots Q pc loc (.int x :: .ref (ad 1) :: rest) σ := j_put (ty := .int) X uw_Uf Fy_Uf ty_Uf nm_Uf 1 rfl rfl 3 (by decide) hlink rfl (by decide +kernel) rfl rfl (by show 3 < 4; decide) rfl d k
theorem ld_2 (X : Cx p s m args c cc nL own Gw D vwCl (tysT ca) (wlT ad ca) A N0) {i v : Int32} (hin : vp_in i 20) (hv : σ 2 i.toNatClampNeg = v) (d : decode cc pc = .ok (.iaload, 1)) (k : J p l e R s m args below meth c D vwCl (wlT ad ca) A nL cells slots Q (pc + 1) loc (.int v :: rest) σ) : J p l e R s m args below meth c D vwCl (wlT ad ca) A nL cells slots Q pc loc (.int i :: .ref (ad 2) :: rest) σ := by subst hv; exact j_iald X 2 0 rfl rfl hin d k
theorem sr_2 (X : Cx p s m args c cc nL own Gw D vwCl (tysT ca) (wlT ad ca) A N0) {i x : Int32} (hin : vp_in i 20) (d : decode cc pc = .ok (.iastore, 1)) (k : J p l e R s m args below meth c D vwCl (wlT ad ca) A nL cells slots Q (pc + 1) loc rest (jup σ 2 i.toNatClampNeg x)) : J p l e R s m args below meth c D vwCl (wlT ad ca) A nL cells slots Q pc loc (.int x :: .int i :: .ref (ad 2) :: rest) σ := j_iast X 2 0 rfl rfl hin rfl d k
theorem ld_3 (X : Cx p s m args c cc nL own Gw D vwCl (tysT ca) (wlT ad ca) A N0) {i v : Int32} (hin : vp_in i 20) (hv : σ 3 i.toNatClampNeg = v) (d : decode cc pc = .ok (.iaload, 1)) (k : J p l e R s m args below meth c D vwCl (wlT ad ca) A nL cells slots Q (pc + 1) loc (.int v :: rest) σ) : J p l e R s m args below meth c D vwCl (wlT ad ca) A nL cells slots Q pc loc (.int i :: .ref (ad 3) :: rest) σ := by subst hv; exact j_iald X 3 1 rfl rfl hin d k
theorem sr_3 (X : Cx p s m args c cc nL own Gw D vwCl (tysT ca) (wlT ad ca) A N0) {i x : Int32} (hin : vp_in i 20) (d : decode cc pc = .ok (.iastore, 1)) (k : J p l e R s m args below meth c D vwCl (wlT ad ca) A nL cells slots Q (pc + 1) loc rest (jup σ 3 i.toNatClampNeg x)) : J p l e R s m args below meth c D vwCl (wlT ad ca) A nL cells slots Q pc loc (.int x :: .int i :: .ref (ad 3) :: rest) σ := j_iast X 3 1 rfl rfl hin rfl d k
theorem ld_4 (X : Cx p s m args c cc nL own Gw D vwCl (tysT ca) (wlT ad ca) A N0) {i v : Int32} (hin : vp_in i 20) (hv : σ 4 i.toNatClampNeg = v) (d : decode cc pc = .ok (.iaload, 1)) (k : J p l e R s m args below meth c D vwCl (wlT ad ca) A nL cells slots Q (pc + 1) loc (.int v :: rest) σ) : J p l e R s m args below meth c D vwCl (wlT ad ca) A nL cells slots Q pc loc (.int i :: .ref (ad 4) :: rest) σ := by subst hv; exact j_iald X 4 2 rfl rfl hin d k
theorem sr_4 (X : Cx p s m args c cc nL own Gw D vwCl (tysT ca) (wlT ad ca) A N0) {i x : Int32} (hin : vp_in i 20) (d : decode cc pc = .ok (.iastore, 1)) (k : J p l e R s m args below meth c D vwCl (wlT ad ca) A nL cells slots Q (pc + 1) loc rest (jup σ 4 i.toNatClampNeg x)) : J p l e R s m args below meth c D vwCl (wlT ad ca) A nL cells slots Q pc loc (.int x :: .int i :: .ref (ad 4) :: rest) σ := j_iast X 4 2 rfl rfl hin rfl d k
theorem g_5_0 (X : Cx p s m args c cc nL own Gw D vwCl (tysT ca) (wlT ad ca) A N0) (hlink : Cond.fieldLink own idx "TeleStack$Reports" "expected" "[I" ∈ Gw) (d : decode cc pc = .ok (.getfield idx, 3)) (k : J p l e R s m args below meth c D vwCl (wlT ad ca) A nL cells slots Q (pc + 3) loc (.ref (ad 6) :: rest) σ) : J p l e R s m args below meth c D vwCl (wlT ad ca) A nL cells slots Q pc loc (.ref (ad 5) :: rest) σ := j_get X uw_Rp 5 rfl rfl 0 (by decide) hlink rfl d k
theorem g_5_1 (X : Cx p s m args c cc nL own Gw D vwCl (tysT ca) (wlT ad ca) A N0) (hlink : Cond.fieldLink own idx "TeleStack$Reports" "again" "[Z" ∈ Gw) (d : decode cc pc = .ok (.getfield idx, 3)) (k : J p l e R s m args below meth c D vwCl (wlT ad ca) A nL cells slots Q (pc + 3) loc (.ref (ad 7) :: rest) σ) : J p l e R s m args below meth c D vwCl (wlT ad ca) A nL cells slots Q pc loc (.ref (ad 5) :: rest) σ := j_get X uw_Rp 5 rfl rfl 1 (by decide) hlink rfl d k
theorem g_5_2 (X : Cx p s m args c cc nL own Gw D vwCl (tysT ca) (wlT ad ca) A N0) (hlink : Cond.fieldLink own idx "TeleStack$Reports" "gates" "[I" ∈ Gw) (d : decode cc pc = .ok (.getfield idx, 3)) (k : J p l e R s m args below meth c D vwCl (wlT ad ca) A nL cells slots Q (pc + 3) loc (.ref (ad 8) :: rest) σ) : J p l e R s m args below meth c D vwCl (wlT ad ca) A nL cells slots Q pc loc (.ref (ad 5) :: rest) σ := j_get X uw_Rp 5 rfl rfl 2 (by decide) hlink rfl d k
theorem g_5_3 (X : Cx p s m args c cc nL own Gw D vwCl (tysT ca) (wlT ad ca) A N0) (hlink : Cond.fieldLink own idx "TeleStack$Reports" "size" "I" ∈ Gw) {v : Int32} (hv : σ 5 3 = v) (d : decode cc pc = .ok (.getfield idx, 3)) (k : J p l e R s m args below meth c D vwCl (wlT ad ca) A nL cells slots Q (pc + 3) loc (.int v :: rest) σ) : J p l e R s m args below meth c D vwCl (wlT ad ca) A nL cells slots Q pc loc (.ref (ad 5) :: rest) σ := by subst hv; exact j_get X uw_Rp 5 rfl rfl 3 (by decide) hlink rfl d k
theorem p_5_3 (X : Cx p s m args c cc nL own Gw D vwCl (tysT ca) (wlT ad ca) A N0) (hlink : Cond.fieldLink own idx "TeleStack$Reports" "size" "I" ∈ Gw) {x : Int32} (d : decode cc pc = .ok (.putfield idx, 3)) (k : J p l e R s m args below meth c D vwCl (wlT ad ca) A nL cells slots Q (pc + 3) loc rest (jup σ 5 3 x)) : J p l e R s m args below meth c D vwCl (wlT ad ca) A nL cells slots Q pc loc (.int x :: .ref (ad 5) :: rest) σ := j_put (ty := .int) X uw_Rp Fy_Rp ty_Rp nm_Rp 5 rfl rfl 3 (by decide) hlink rfl (by decide +kernel) rfl rfl (by show 3 < 4; decide) rfl d k
theorem ld_6 (X : Cx p s m args c cc nL own Gw D vwCl (tysT ca) (wlT ad ca) A N0) {i v : Int32} (hin : vp_in i 20) (hv : σ 6 i.toNatClampNeg = v) (d : decode cc pc = .ok (.iaload, 1)) (k : J p l e R s m args below meth c D vwCl (wlT ad ca) A nL cells slots Q (pc + 1) loc (.int v :: rest) σ) : J p l e R s m args below meth c D vwCl (wlT ad ca) A nL cells slots Q pc loc (.int i :: .ref (ad 6) :: rest) σ := by subst hv; exact j_iald X 6 3 rfl rfl hin d k
theorem sr_6 (X : Cx p s m args c cc nL own Gw D vwCl (tysT ca) (wlT ad ca) A N0) {i x : Int32} (hin : vp_in i 20) (d : decode cc pc = .ok (.iastore, 1)) (k : J p l e R s m args below meth c D vwCl (wlT ad ca) A nL cells slots Q (pc + 1) loc rest (jup σ 6 i.toNatClampNeg x)) : J p l e R s m args below meth c D vwCl (wlT ad ca) A nL cells slots Q pc loc (.int x :: .int i :: .ref (ad 6) :: rest) σ := j_iast X 6 3 rfl rfl hin rfl d k
theorem ld_7 (X : Cx p s m args c cc nL own Gw D vwCl (tysT ca) (wlT ad ca) A N0) {i v : Int32} (hin : vp_in i 20) (hv : σ 7 i.toNatClampNeg = v) (d : decode cc pc = .ok (.baload, 1)) (k : J p l e R s m args below meth c D vwCl (wlT ad ca) A nL cells slots Q (pc + 1) loc (.int v :: rest) σ) : J p l e R s m args below meth c D vwCl (wlT ad ca) A nL cells slots Q pc loc (.int i :: .ref (ad 7) :: rest) σ := by subst hv; exact j_zald X 7 4 rfl rfl hin d k
theorem sr_7 (X : Cx p s m args c cc nL own Gw D vwCl (tysT ca) (wlT ad ca) A N0) {i x : Int32} (hin : vp_in i 20) (d : decode cc pc = .ok (.bastore, 1)) (k : J p l e R s m args below meth c D vwCl (wlT ad ca) A nL cells slots Q (pc + 1) loc rest (jup σ 7 i.toNatClampNeg (vp_nar .boolean x))) : J p l e R s m args below meth c D vwCl (wlT ad ca) A nL cells slots Q pc loc (.int x :: .int i :: .ref (ad 7) :: rest) σ := j_zast X 7 4 rfl rfl hin rfl d k
theorem ld_8 (X : Cx p s m args c cc nL own Gw D vwCl (tysT ca) (wlT ad ca) A N0) {i v : Int32} (hin : vp_in i 20) (hv : σ 8 i.toNatClampNeg = v) (d : decode cc pc = .ok (.iaload, 1)) (k : J p l e R s m args below meth c D vwCl (wlT ad ca) A nL cells slots Q (pc + 1) loc (.int v :: rest) σ) : J p l e R s m args below meth c D vwCl (wlT ad ca) A nL cells slots Q pc loc (.int i :: .ref (ad 8) :: rest) σ := by subst hv; exact j_iald X 8 5 rfl rfl hin d k
theorem sr_8 (X : Cx p s m args c cc nL own Gw D vwCl (tysT ca) (wlT ad ca) A N0) {i x : Int32} (hin : vp_in i 20) (d : decode cc pc = .ok (.iastore, 1)) (k : J p l e R s m args below meth c D vwCl (wlT ad ca) A nL cells slots Q (pc + 1) loc rest (jup σ 8 i.toNatClampNeg x)) : J p l e R s m args below meth c D vwCl (wlT ad ca) A nL cells slots Q pc loc (.int x :: .int i :: .ref (ad 8) :: rest) σ := j_iast X 8 5 rfl rfl hin rfl d k
theorem g_9_0 (X : Cx p s m args c cc nL own Gw D vwCl (tysT ca) (wlT ad ca) A N0) (hlink : Cond.fieldLink own idx "TeleStack$Ground" "pending" "LTeleStack$Unacknowledged;" ∈ Gw) (d : decode cc pc = .ok (.getfield idx, 3)) (k : J p l e R s m args below meth c D vwCl (wlT ad ca) A nL cells slots Q (pc + 3) loc (.ref (ad 10) :: rest) σ) : J p l e R s m args below meth c D vwCl (wlT ad ca) A nL cells slots Q pc loc (.ref (ad 9) :: rest) σ := j_get X uw_Gr 9 rfl rfl 0 (by decide) hlink rfl d k
theorem g_9_1 (X : Cx p s m args c cc nL own Gw D vwCl (tysT ca) (wlT ad ca) A N0) (hlink : Cond.fieldLink own idx "TeleStack$Ground" "mode" "I" ∈ Gw) {v : Int32} (hv : σ 9 1 = v) (d : decode cc pc = .ok (.getfield idx, 3)) (k : J p l e R s m args below meth c D vwCl (wlT ad ca) A nL cells slots Q (pc + 3) loc (.int v :: rest) σ) : J p l e R s m args below meth c D vwCl (wlT ad ca) A nL cells slots Q pc loc (.ref (ad 9) :: rest) σ := by subst hv; exact j_get X uw_Gr 9 rfl rfl 1 (by decide) hlink rfl d k
theorem p_9_1 (X : Cx p s m args c cc nL own Gw D vwCl (tysT ca) (wlT ad ca) A N0) (hlink : Cond.fieldLink own idx "TeleStack$Ground" "mode" "I" ∈ Gw) {x : Int32} (d : decode cc pc = .ok (.putfield idx, 3)) (k : J p l e R s m args below meth c D vwCl (wlT ad ca) A nL cells slots Q (pc + 3) loc rest (jup σ 9 1 x)) : J p l e R s m args below meth c D vwCl (wlT ad ca) A nL cells slots Q pc loc (.int x :: .ref (ad 9) :: rest) σ := j_put (ty := .int) X uw_Gr Fy_Gr ty_Gr nm_Gr 9 rfl rfl 1 (by decide) hlink rfl (by decide +kernel) rfl rfl (by show 1 < 14; decide) rfl d k
theorem g_9_2 (X : Cx p s m args c cc nL own Gw D vwCl (tysT ca) (wlT ad ca) A N0) (hlink : Cond.fieldLink own idx "TeleStack$Ground" "next" "I" ∈ Gw) {v : Int32} (hv : σ 9 2 = v) (d : decode cc pc = .ok (.getfield idx, 3)) (k : J p l e R s m args below meth c D vwCl (wlT ad ca) A nL cells slots Q (pc + 3) loc (.int v :: rest) σ) : J p l e R s m args below meth c D vwCl (wlT ad ca) A nL cells slots Q pc loc (.ref (ad 9) :: rest) σ := by subst hv; exact j_get X uw_Gr 9 rfl rfl 2 (by decide) hlink rfl d k
theorem p_9_2 (X : Cx p s m args c cc nL own Gw D vwCl (tysT ca) (wlT ad ca) A N0) (hlink : Cond.fieldLink own idx "TeleStack$Ground" "next" "I" ∈ Gw) {x : Int32} (d : decode cc pc = .ok (.putfield idx, 3)) (k : J p l e R s m args below meth c D vwCl (wlT ad ca) A nL cells slots Q (pc + 3) loc rest (jup σ 9 2 x)) : J p l e R s m args below meth c D vwCl (wlT ad ca) A nL cells slots Q pc loc (.int x :: .ref (ad 9) :: rest) σ := j_put (ty := .int) X uw_Gr Fy_Gr ty_Gr nm_Gr 9 rfl rfl 2 (by decide) hlink rfl (by decide +kernel) rfl rfl (by show 2 < 14; decide) rfl d k
theorem g_9_3 (X : Cx p s m args c cc nL own Gw D vwCl (tysT ca) (wlT ad ca) A N0) (hlink : Cond.fieldLink own idx "TeleStack$Ground" "oldest" "I" ∈ Gw) {v : Int32} (hv : σ 9 3 = v) (d : decode cc pc = .ok (.getfield idx, 3)) (k : J p l e R s m args below meth c D vwCl (wlT ad ca) A nL cells slots Q (pc + 3) loc (.int v :: rest) σ) : J p l e R s m args below meth c D vwCl (wlT ad ca) A nL cells slots Q pc loc (.ref (ad 9) :: rest) σ := by subst hv; exact j_get X uw_Gr 9 rfl rfl 3 (by decide) hlink rfl d k
theorem p_9_3 (X : Cx p s m args c cc nL own Gw D vwCl (tysT ca) (wlT ad ca) A N0) (hlink : Cond.fieldLink own idx "TeleStack$Ground" "oldest" "I" ∈ Gw) {x : Int32} (d : decode cc pc = .ok (.putfield idx, 3)) (k : J p l e R s m args below meth c D vwCl (wlT ad ca) A nL cells slots Q (pc + 3) loc rest (jup σ 9 3 x)) : J p l e R s m args below meth c D vwCl (wlT ad ca) A nL cells slots Q pc loc (.int x :: .ref (ad 9) :: rest) σ := j_put (ty := .int) X uw_Gr Fy_Gr ty_Gr nm_Gr 9 rfl rfl 3 (by decide) hlink rfl (by decide +kernel) rfl rfl (by show 3 < 14; decide) rfl d k
theorem g_9_4 (X : Cx p s m args c cc nL own Gw D vwCl (tysT ca) (wlT ad ca) A N0) (hlink : Cond.fieldLink own idx "TeleStack$Ground" "slotFull" "Z" ∈ Gw) {v : Int32} (hv : σ 9 4 = v) (d : decode cc pc = .ok (.getfield idx, 3)) (k : J p l e R s m args below meth c D vwCl (wlT ad ca) A nL cells slots Q (pc + 3) loc (.int v :: rest) σ) : J p l e R s m args below meth c D vwCl (wlT ad ca) A nL cells slots Q pc loc (.ref (ad 9) :: rest) σ := by subst hv; exact j_get X uw_Gr 9 rfl rfl 4 (by decide) hlink rfl d k
theorem p_9_4 (X : Cx p s m args c cc nL own Gw D vwCl (tysT ca) (wlT ad ca) A N0) (hlink : Cond.fieldLink own idx "TeleStack$Ground" "slotFull" "Z" ∈ Gw) {x : Int32} (hn : narrow .boolean (.int x) = .int x) (hf : fits .boolean (.int x) = true) (d : decode cc pc = .ok (.putfield idx, 3)) (k : J p l e R s m args below meth c D vwCl (wlT ad ca) A nL cells slots Q (pc + 3) loc rest (jup σ 9 4 x)) : J p l e R s m args below meth c D vwCl (wlT ad ca) A nL cells slots Q pc loc (.int x :: .ref (ad 9) :: rest) σ := j_put (ty := .boolean) X uw_Gr Fy_Gr ty_Gr nm_Gr 9 rfl rfl 4 (by decide) hlink rfl (by decide +kernel) hn hf (by show 4 < 14; decide) rfl d k
theorem g_9_5 (X : Cx p s m args c cc nL own Gw D vwCl (tysT ca) (wlT ad ca) A N0) (hlink : Cond.fieldLink own idx "TeleStack$Ground" "slot" "I" ∈ Gw) {v : Int32} (hv : σ 9 5 = v) (d : decode cc pc = .ok (.getfield idx, 3)) (k : J p l e R s m args below meth c D vwCl (wlT ad ca) A nL cells slots Q (pc + 3) loc (.int v :: rest) σ) : J p l e R s m args below meth c D vwCl (wlT ad ca) A nL cells slots Q pc loc (.ref (ad 9) :: rest) σ := by subst hv; exact j_get X uw_Gr 9 rfl rfl 5 (by decide) hlink rfl d k
theorem p_9_5 (X : Cx p s m args c cc nL own Gw D vwCl (tysT ca) (wlT ad ca) A N0) (hlink : Cond.fieldLink own idx "TeleStack$Ground" "slot" "I" ∈ Gw) {x : Int32} (d : decode cc pc = .ok (.putfield idx, 3)) (k : J p l e R s m args below meth c D vwCl (wlT ad ca) A nL cells slots Q (pc + 3) loc rest (jup σ 9 5 x)) : J p l e R s m args below meth c D vwCl (wlT ad ca) A nL cells slots Q pc loc (.int x :: .ref (ad 9) :: rest) σ := j_put (ty := .int) X uw_Gr Fy_Gr ty_Gr nm_Gr 9 rfl rfl 5 (by decide) hlink rfl (by decide +kernel) rfl rfl (by show 5 < 14; decide) rfl d k
theorem g_9_6 (X : Cx p s m args c cc nL own Gw D vwCl (tysT ca) (wlT ad ca) A N0) (hlink : Cond.fieldLink own idx "TeleStack$Ground" "tries" "I" ∈ Gw) {v : Int32} (hv : σ 9 6 = v) (d : decode cc pc = .ok (.getfield idx, 3)) (k : J p l e R s m args below meth c D vwCl (wlT ad ca) A nL cells slots Q (pc + 3) loc (.int v :: rest) σ) : J p l e R s m args below meth c D vwCl (wlT ad ca) A nL cells slots Q pc loc (.ref (ad 9) :: rest) σ := by subst hv; exact j_get X uw_Gr 9 rfl rfl 6 (by decide) hlink rfl d k
theorem p_9_6 (X : Cx p s m args c cc nL own Gw D vwCl (tysT ca) (wlT ad ca) A N0) (hlink : Cond.fieldLink own idx "TeleStack$Ground" "tries" "I" ∈ Gw) {x : Int32} (d : decode cc pc = .ok (.putfield idx, 3)) (k : J p l e R s m args below meth c D vwCl (wlT ad ca) A nL cells slots Q (pc + 3) loc rest (jup σ 9 6 x)) : J p l e R s m args below meth c D vwCl (wlT ad ca) A nL cells slots Q pc loc (.int x :: .ref (ad 9) :: rest) σ := j_put (ty := .int) X uw_Gr Fy_Gr ty_Gr nm_Gr 9 rfl rfl 6 (by decide) hlink rfl (by decide +kernel) rfl rfl (by show 6 < 14; decide) rfl d k
theorem g_9_7 (X : Cx p s m args c cc nL own Gw D vwCl (tysT ca) (wlT ad ca) A N0) (hlink : Cond.fieldLink own idx "TeleStack$Ground" "timer" "I" ∈ Gw) {v : Int32} (hv : σ 9 7 = v) (d : decode cc pc = .ok (.getfield idx, 3)) (k : J p l e R s m args below meth c D vwCl (wlT ad ca) A nL cells slots Q (pc + 3) loc (.int v :: rest) σ) : J p l e R s m args below meth c D vwCl (wlT ad ca) A nL cells slots Q pc loc (.ref (ad 9) :: rest) σ := by subst hv; exact j_get X uw_Gr 9 rfl rfl 7 (by decide) hlink rfl d k
theorem p_9_7 (X : Cx p s m args c cc nL own Gw D vwCl (tysT ca) (wlT ad ca) A N0) (hlink : Cond.fieldLink own idx "TeleStack$Ground" "timer" "I" ∈ Gw) {x : Int32} (d : decode cc pc = .ok (.putfield idx, 3)) (k : J p l e R s m args below meth c D vwCl (wlT ad ca) A nL cells slots Q (pc + 3) loc rest (jup σ 9 7 x)) : J p l e R s m args below meth c D vwCl (wlT ad ca) A nL cells slots Q pc loc (.int x :: .ref (ad 9) :: rest) σ := j_put (ty := .int) X uw_Gr Fy_Gr ty_Gr nm_Gr 9 rfl rfl 7 (by decide) hlink rfl (by decide +kernel) rfl rfl (by show 7 < 14; decide) rfl d k
theorem g_9_8 (X : Cx p s m args c cc nL own Gw D vwCl (tysT ca) (wlT ad ca) A N0) (hlink : Cond.fieldLink own idx "TeleStack$Ground" "reason" "I" ∈ Gw) {v : Int32} (hv : σ 9 8 = v) (d : decode cc pc = .ok (.getfield idx, 3)) (k : J p l e R s m args below meth c D vwCl (wlT ad ca) A nL cells slots Q (pc + 3) loc (.int v :: rest) σ) : J p l e R s m args below meth c D vwCl (wlT ad ca) A nL cells slots Q pc loc (.ref (ad 9) :: rest) σ := by subst hv; exact j_get X uw_Gr 9 rfl rfl 8 (by decide) hlink rfl d k
theorem p_9_8 (X : Cx p s m args c cc nL own Gw D vwCl (tysT ca) (wlT ad ca) A N0) (hlink : Cond.fieldLink own idx "TeleStack$Ground" "reason" "I" ∈ Gw) {x : Int32} (d : decode cc pc = .ok (.putfield idx, 3)) (k : J p l e R s m args below meth c D vwCl (wlT ad ca) A nL cells slots Q (pc + 3) loc rest (jup σ 9 8 x)) : J p l e R s m args below meth c D vwCl (wlT ad ca) A nL cells slots Q pc loc (.int x :: .ref (ad 9) :: rest) σ := j_put (ty := .int) X uw_Gr Fy_Gr ty_Gr nm_Gr 9 rfl rfl 8 (by decide) hlink rfl (by decide +kernel) rfl rfl (by show 8 < 14; decide) rfl d k
theorem g_9_9 (X : Cx p s m args c cc nL own Gw D vwCl (tysT ca) (wlT ad ca) A N0) (hlink : Cond.fieldLink own idx "TeleStack$Ground" "window" "I" ∈ Gw) {v : Int32} (hv : σ 9 9 = v) (d : decode cc pc = .ok (.getfield idx, 3)) (k : J p l e R s m args below meth c D vwCl (wlT ad ca) A nL cells slots Q (pc + 3) loc (.int v :: rest) σ) : J p l e R s m args below meth c D vwCl (wlT ad ca) A nL cells slots Q pc loc (.ref (ad 9) :: rest) σ := by subst hv; exact j_get X uw_Gr 9 rfl rfl 9 (by decide) hlink rfl d k
theorem p_9_9 (X : Cx p s m args c cc nL own Gw D vwCl (tysT ca) (wlT ad ca) A N0) (hlink : Cond.fieldLink own idx "TeleStack$Ground" "window" "I" ∈ Gw) {x : Int32} (d : decode cc pc = .ok (.putfield idx, 3)) (k : J p l e R s m args below meth c D vwCl (wlT ad ca) A nL cells slots Q (pc + 3) loc rest (jup σ 9 9 x)) : J p l e R s m args below meth c D vwCl (wlT ad ca) A nL cells slots Q pc loc (.int x :: .ref (ad 9) :: rest) σ := j_put (ty := .int) X uw_Gr Fy_Gr ty_Gr nm_Gr 9 rfl rfl 9 (by decide) hlink rfl (by decide +kernel) rfl rfl (by show 9 < 14; decide) rfl d k
theorem g_9_10 (X : Cx p s m args c cc nL own Gw D vwCl (tysT ca) (wlT ad ca) A N0) (hlink : Cond.fieldLink own idx "TeleStack$Ground" "limit" "I" ∈ Gw) {v : Int32} (hv : σ 9 10 = v) (d : decode cc pc = .ok (.getfield idx, 3)) (k : J p l e R s m args below meth c D vwCl (wlT ad ca) A nL cells slots Q (pc + 3) loc (.int v :: rest) σ) : J p l e R s m args below meth c D vwCl (wlT ad ca) A nL cells slots Q pc loc (.ref (ad 9) :: rest) σ := by subst hv; exact j_get X uw_Gr 9 rfl rfl 10 (by decide) hlink rfl d k
theorem p_9_10 (X : Cx p s m args c cc nL own Gw D vwCl (tysT ca) (wlT ad ca) A N0) (hlink : Cond.fieldLink own idx "TeleStack$Ground" "limit" "I" ∈ Gw) {x : Int32} (d : decode cc pc = .ok (.putfield idx, 3)) (k : J p l e R s m args below meth c D vwCl (wlT ad ca) A nL cells slots Q (pc + 3) loc rest (jup σ 9 10 x)) : J p l e R s m args below meth c D vwCl (wlT ad ca) A nL cells slots Q pc loc (.int x :: .ref (ad 9) :: rest) σ := j_put (ty := .int) X uw_Gr Fy_Gr ty_Gr nm_Gr 9 rfl rfl 10 (by decide) hlink rfl (by decide +kernel) rfl rfl (by show 10 < 14; decide) rfl d k
theorem g_9_11 (X : Cx p s m args c cc nL own Gw D vwCl (tysT ca) (wlT ad ca) A N0) (hlink : Cond.fieldLink own idx "TeleStack$Ground" "span" "I" ∈ Gw) {v : Int32} (hv : σ 9 11 = v) (d : decode cc pc = .ok (.getfield idx, 3)) (k : J p l e R s m args below meth c D vwCl (wlT ad ca) A nL cells slots Q (pc + 3) loc (.int v :: rest) σ) : J p l e R s m args below meth c D vwCl (wlT ad ca) A nL cells slots Q pc loc (.ref (ad 9) :: rest) σ := by subst hv; exact j_get X uw_Gr 9 rfl rfl 11 (by decide) hlink rfl d k
theorem p_9_11 (X : Cx p s m args c cc nL own Gw D vwCl (tysT ca) (wlT ad ca) A N0) (hlink : Cond.fieldLink own idx "TeleStack$Ground" "span" "I" ∈ Gw) {x : Int32} (d : decode cc pc = .ok (.putfield idx, 3)) (k : J p l e R s m args below meth c D vwCl (wlT ad ca) A nL cells slots Q (pc + 3) loc rest (jup σ 9 11 x)) : J p l e R s m args below meth c D vwCl (wlT ad ca) A nL cells slots Q pc loc (.int x :: .ref (ad 9) :: rest) σ := j_put (ty := .int) X uw_Gr Fy_Gr ty_Gr nm_Gr 9 rfl rfl 11 (by decide) hlink rfl (by decide +kernel) rfl rfl (by show 11 < 14; decide) rfl d k
theorem g_9_12 (X : Cx p s m args c cc nL own Gw D vwCl (tysT ca) (wlT ad ca) A N0) (hlink : Cond.fieldLink own idx "TeleStack$Ground" "startKind" "I" ∈ Gw) {v : Int32} (hv : σ 9 12 = v) (d : decode cc pc = .ok (.getfield idx, 3)) (k : J p l e R s m args below meth c D vwCl (wlT ad ca) A nL cells slots Q (pc + 3) loc (.int v :: rest) σ) : J p l e R s m args below meth c D vwCl (wlT ad ca) A nL cells slots Q pc loc (.ref (ad 9) :: rest) σ := by subst hv; exact j_get X uw_Gr 9 rfl rfl 12 (by decide) hlink rfl d k
theorem p_9_12 (X : Cx p s m args c cc nL own Gw D vwCl (tysT ca) (wlT ad ca) A N0) (hlink : Cond.fieldLink own idx "TeleStack$Ground" "startKind" "I" ∈ Gw) {x : Int32} (d : decode cc pc = .ok (.putfield idx, 3)) (k : J p l e R s m args below meth c D vwCl (wlT ad ca) A nL cells slots Q (pc + 3) loc rest (jup σ 9 12 x)) : J p l e R s m args below meth c D vwCl (wlT ad ca) A nL cells slots Q pc loc (.int x :: .ref (ad 9) :: rest) σ := j_put (ty := .int) X uw_Gr Fy_Gr ty_Gr nm_Gr 9 rfl rfl 12 (by decide) hlink rfl (by decide +kernel) rfl rfl (by show 12 < 14; decide) rfl d k
theorem g_9_13 (X : Cx p s m args c cc nL own Gw D vwCl (tysT ca) (wlT ad ca) A N0) (hlink : Cond.fieldLink own idx "TeleStack$Ground" "startDue" "Z" ∈ Gw) {v : Int32} (hv : σ 9 13 = v) (d : decode cc pc = .ok (.getfield idx, 3)) (k : J p l e R s m args below meth c D vwCl (wlT ad ca) A nL cells slots Q (pc + 3) loc (.int v :: rest) σ) : J p l e R s m args below meth c D vwCl (wlT ad ca) A nL cells slots Q pc loc (.ref (ad 9) :: rest) σ := by subst hv; exact j_get X uw_Gr 9 rfl rfl 13 (by decide) hlink rfl d k
theorem p_9_13 (X : Cx p s m args c cc nL own Gw D vwCl (tysT ca) (wlT ad ca) A N0) (hlink : Cond.fieldLink own idx "TeleStack$Ground" "startDue" "Z" ∈ Gw) {x : Int32} (hn : narrow .boolean (.int x) = .int x) (hf : fits .boolean (.int x) = true) (d : decode cc pc = .ok (.putfield idx, 3)) (k : J p l e R s m args below meth c D vwCl (wlT ad ca) A nL cells slots Q (pc + 3) loc rest (jup σ 9 13 x)) : J p l e R s m args below meth c D vwCl (wlT ad ca) A nL cells slots Q pc loc (.int x :: .ref (ad 9) :: rest) σ := j_put (ty := .boolean) X uw_Gr Fy_Gr ty_Gr nm_Gr 9 rfl rfl 13 (by decide) hlink rfl (by decide +kernel) hn hf (by show 13 < 14; decide) rfl d k
theorem g_10_0 (X : Cx p s m args c cc nL own Gw D vwCl (tysT ca) (wlT ad ca) A N0) (hlink : Cond.fieldLink own idx "TeleStack$Unacknowledged" "numbers" "[I" ∈ Gw) (d : decode cc pc = .ok (.getfield idx, 3)) (k : J p l e R s m args below meth c D vwCl (wlT ad ca) A nL cells slots Q (pc + 3) loc (.ref (ad 11) :: rest) σ) : J p l e R s m args below meth c D vwCl (wlT ad ca) A nL cells slots Q pc loc (.ref (ad 10) :: rest) σ := j_get X uw_Un 10 rfl rfl 0 (by decide) hlink rfl d k
theorem g_10_1 (X : Cx p s m args c cc nL own Gw D vwCl (tysT ca) (wlT ad ca) A N0) (hlink : Cond.fieldLink own idx "TeleStack$Unacknowledged" "commands" "[I" ∈ Gw) (d : decode cc pc = .ok (.getfield idx, 3)) (k : J p l e R s m args below meth c D vwCl (wlT ad ca) A nL cells slots Q (pc + 3) loc (.ref (ad 12) :: rest) σ) : J p l e R s m args below meth c D vwCl (wlT ad ca) A nL cells slots Q pc loc (.ref (ad 10) :: rest) σ := j_get X uw_Un 10 rfl rfl 1 (by decide) hlink rfl d k
theorem g_10_2 (X : Cx p s m args c cc nL own Gw D vwCl (tysT ca) (wlT ad ca) A N0) (hlink : Cond.fieldLink own idx "TeleStack$Unacknowledged" "marks" "[Z" ∈ Gw) (d : decode cc pc = .ok (.getfield idx, 3)) (k : J p l e R s m args below meth c D vwCl (wlT ad ca) A nL cells slots Q (pc + 3) loc (.ref (ad 13) :: rest) σ) : J p l e R s m args below meth c D vwCl (wlT ad ca) A nL cells slots Q pc loc (.ref (ad 10) :: rest) σ := j_get X uw_Un 10 rfl rfl 2 (by decide) hlink rfl d k
theorem g_10_3 (X : Cx p s m args c cc nL own Gw D vwCl (tysT ca) (wlT ad ca) A N0) (hlink : Cond.fieldLink own idx "TeleStack$Unacknowledged" "size" "I" ∈ Gw) {v : Int32} (hv : σ 10 3 = v) (d : decode cc pc = .ok (.getfield idx, 3)) (k : J p l e R s m args below meth c D vwCl (wlT ad ca) A nL cells slots Q (pc + 3) loc (.int v :: rest) σ) : J p l e R s m args below meth c D vwCl (wlT ad ca) A nL cells slots Q pc loc (.ref (ad 10) :: rest) σ := by subst hv; exact j_get X uw_Un 10 rfl rfl 3 (by decide) hlink rfl d k
theorem p_10_3 (X : Cx p s m args c cc nL own Gw D vwCl (tysT ca) (wlT ad ca) A N0) (hlink : Cond.fieldLink own idx "TeleStack$Unacknowledged" "size" "I" ∈ Gw) {x : Int32} (d : decode cc pc = .ok (.putfield idx, 3)) (k : J p l e R s m args below meth c D vwCl (wlT ad ca) A nL cells slots Q (pc + 3) loc rest (jup σ 10 3 x)) : J p l e R s m args below meth c D vwCl (wlT ad ca) A nL cells slots Q pc loc (.int x :: .ref (ad 10) :: rest) σ := j_put (ty := .int) X uw_Un Fy_Un ty_Un nm_Un 10 rfl rfl 3 (by decide) hlink rfl (by decide +kernel) rfl rfl (by show 3 < 4; decide) rfl d k
theorem ld_11 (X : Cx p s m args c cc nL own Gw D vwCl (tysT ca) (wlT ad ca) A N0) {i v : Int32} (hin : vp_in i 4) (hv : σ 11 i.toNatClampNeg = v) (d : decode cc pc = .ok (.iaload, 1)) (k : J p l e R s m args below meth c D vwCl (wlT ad ca) A nL cells slots Q (pc + 1) loc (.int v :: rest) σ) : J p l e R s m args below meth c D vwCl (wlT ad ca) A nL cells slots Q pc loc (.int i :: .ref (ad 11) :: rest) σ := by subst hv; exact j_iald X 11 6 rfl rfl hin d k
theorem sr_11 (X : Cx p s m args c cc nL own Gw D vwCl (tysT ca) (wlT ad ca) A N0) {i x : Int32} (hin : vp_in i 4) (d : decode cc pc = .ok (.iastore, 1)) (k : J p l e R s m args below meth c D vwCl (wlT ad ca) A nL cells slots Q (pc + 1) loc rest (jup σ 11 i.toNatClampNeg x)) : J p l e R s m args below meth c D vwCl (wlT ad ca) A nL cells slots Q pc loc (.int x :: .int i :: .ref (ad 11) :: rest) σ := j_iast X 11 6 rfl rfl hin rfl d k
theorem ld_12 (X : Cx p s m args c cc nL own Gw D vwCl (tysT ca) (wlT ad ca) A N0) {i v : Int32} (hin : vp_in i 4) (hv : σ 12 i.toNatClampNeg = v) (d : decode cc pc = .ok (.iaload, 1)) (k : J p l e R s m args below meth c D vwCl (wlT ad ca) A nL cells slots Q (pc + 1) loc (.int v :: rest) σ) : J p l e R s m args below meth c D vwCl (wlT ad ca) A nL cells slots Q pc loc (.int i :: .ref (ad 12) :: rest) σ := by subst hv; exact j_iald X 12 7 rfl rfl hin d k
theorem sr_12 (X : Cx p s m args c cc nL own Gw D vwCl (tysT ca) (wlT ad ca) A N0) {i x : Int32} (hin : vp_in i 4) (d : decode cc pc = .ok (.iastore, 1)) (k : J p l e R s m args below meth c D vwCl (wlT ad ca) A nL cells slots Q (pc + 1) loc rest (jup σ 12 i.toNatClampNeg x)) : J p l e R s m args below meth c D vwCl (wlT ad ca) A nL cells slots Q pc loc (.int x :: .int i :: .ref (ad 12) :: rest) σ := j_iast X 12 7 rfl rfl hin rfl d k
theorem ld_13 (X : Cx p s m args c cc nL own Gw D vwCl (tysT ca) (wlT ad ca) A N0) {i v : Int32} (hin : vp_in i 4) (hv : σ 13 i.toNatClampNeg = v) (d : decode cc pc = .ok (.baload, 1)) (k : J p l e R s m args below meth c D vwCl (wlT ad ca) A nL cells slots Q (pc + 1) loc (.int v :: rest) σ) : J p l e R s m args below meth c D vwCl (wlT ad ca) A nL cells slots Q pc loc (.int i :: .ref (ad 13) :: rest) σ := by subst hv; exact j_zald X 13 8 rfl rfl hin d k
theorem sr_13 (X : Cx p s m args c cc nL own Gw D vwCl (tysT ca) (wlT ad ca) A N0) {i x : Int32} (hin : vp_in i 4) (d : decode cc pc = .ok (.bastore, 1)) (k : J p l e R s m args below meth c D vwCl (wlT ad ca) A nL cells slots Q (pc + 1) loc rest (jup σ 13 i.toNatClampNeg (vp_nar .boolean x))) : J p l e R s m args below meth c D vwCl (wlT ad ca) A nL cells slots Q pc loc (.int x :: .int i :: .ref (ad 13) :: rest) σ := j_zast X 13 8 rfl rfl hin rfl d k
theorem g_14_0 (X : Cx p s m args c cc nL own Gw D vwCl (tysT ca) (wlT ad ca) A N0) (hlink : Cond.fieldLink own idx "TeleStack$Craft" "queue" "[I" ∈ Gw) (d : decode cc pc = .ok (.getfield idx, 3)) (k : J p l e R s m args below meth c D vwCl (wlT ad ca) A nL cells slots Q (pc + 3) loc (.ref (ad 15) :: rest) σ) : J p l e R s m args below meth c D vwCl (wlT ad ca) A nL cells slots Q pc loc (.ref (ad 14) :: rest) σ := j_get X uw_Cr 14 rfl rfl 0 (by decide) hlink rfl d k
theorem g_14_1 (X : Cx p s m args c cc nL own Gw D vwCl (tysT ca) (wlT ad ca) A N0) (hlink : Cond.fieldLink own idx "TeleStack$Craft" "queued" "I" ∈ Gw) {v : Int32} (hv : σ 14 1 = v) (d : decode cc pc = .ok (.getfield idx, 3)) (k : J p l e R s m args below meth c D vwCl (wlT ad ca) A nL cells slots Q (pc + 3) loc (.int v :: rest) σ) : J p l e R s m args below meth c D vwCl (wlT ad ca) A nL cells slots Q pc loc (.ref (ad 14) :: rest) σ := by subst hv; exact j_get X uw_Cr 14 rfl rfl 1 (by decide) hlink rfl d k
theorem p_14_1 (X : Cx p s m args c cc nL own Gw D vwCl (tysT ca) (wlT ad ca) A N0) (hlink : Cond.fieldLink own idx "TeleStack$Craft" "queued" "I" ∈ Gw) {x : Int32} (d : decode cc pc = .ok (.putfield idx, 3)) (k : J p l e R s m args below meth c D vwCl (wlT ad ca) A nL cells slots Q (pc + 3) loc rest (jup σ 14 1 x)) : J p l e R s m args below meth c D vwCl (wlT ad ca) A nL cells slots Q pc loc (.int x :: .ref (ad 14) :: rest) σ := j_put (ty := .int) X uw_Cr Fy_Cr ty_Cr nm_Cr 14 rfl rfl 1 (by decide) hlink rfl (by decide +kernel) rfl rfl (by show 1 < 5; decide) rfl d k
theorem g_14_2 (X : Cx p s m args c cc nL own Gw D vwCl (tysT ca) (wlT ad ca) A N0) (hlink : Cond.fieldLink own idx "TeleStack$Craft" "gate" "I" ∈ Gw) {v : Int32} (hv : σ 14 2 = v) (d : decode cc pc = .ok (.getfield idx, 3)) (k : J p l e R s m args below meth c D vwCl (wlT ad ca) A nL cells slots Q (pc + 3) loc (.int v :: rest) σ) : J p l e R s m args below meth c D vwCl (wlT ad ca) A nL cells slots Q pc loc (.ref (ad 14) :: rest) σ := by subst hv; exact j_get X uw_Cr 14 rfl rfl 2 (by decide) hlink rfl d k
theorem p_14_2 (X : Cx p s m args c cc nL own Gw D vwCl (tysT ca) (wlT ad ca) A N0) (hlink : Cond.fieldLink own idx "TeleStack$Craft" "gate" "I" ∈ Gw) {x : Int32} (d : decode cc pc = .ok (.putfield idx, 3)) (k : J p l e R s m args below meth c D vwCl (wlT ad ca) A nL cells slots Q (pc + 3) loc rest (jup σ 14 2 x)) : J p l e R s m args below meth c D vwCl (wlT ad ca) A nL cells slots Q pc loc (.int x :: .ref (ad 14) :: rest) σ := j_put (ty := .int) X uw_Cr Fy_Cr ty_Cr nm_Cr 14 rfl rfl 2 (by decide) hlink rfl (by decide +kernel) rfl rfl (by show 2 < 5; decide) rfl d k
theorem gN_14_2 (X : Cx p s m args c cc nL own Gw D vwCl (tysT ca) (wlT ad ca) A N0) {host : String} (hlink : ∀ s : State, N0 s → va_Nw (.fieldLinkNest own idx "TeleStack$Craft" "gate" "I" host) s) {v : Int32} (hv : σ 14 2 = v) (d : decode cc pc = .ok (.getfield idx, 3)) (k : J p l e R s m args below meth c D vwCl (wlT ad ca) A nL cells slots Q (pc + 3) loc (.int v :: rest) σ) : J p l e R s m args below meth c D vwCl (wlT ad ca) A nL cells slots Q pc loc (.ref (ad 14) :: rest) σ := by subst hv; exact j_getN X uw_Cr 14 rfl rfl 2 (by decide) hlink rfl d k
theorem pN_14_2 (X : Cx p s m args c cc nL own Gw D vwCl (tysT ca) (wlT ad ca) A N0) {host : String} (hlink : ∀ s : State, N0 s → va_Nw (.fieldLinkNest own idx "TeleStack$Craft" "gate" "I" host) s) {x : Int32} (d : decode cc pc = .ok (.putfield idx, 3)) (k : J p l e R s m args below meth c D vwCl (wlT ad ca) A nL cells slots Q (pc + 3) loc rest (jup σ 14 2 x)) : J p l e R s m args below meth c D vwCl (wlT ad ca) A nL cells slots Q pc loc (.int x :: .ref (ad 14) :: rest) σ := j_putN (ty := .int) X uw_Cr Fy_Cr ty_Cr nm_Cr 14 rfl rfl 2 (by decide) hlink rfl (by decide +kernel) rfl rfl (by show 2 < 5; decide) rfl d k
theorem g_14_3 (X : Cx p s m args c cc nL own Gw D vwCl (tysT ca) (wlT ad ca) A N0) (hlink : Cond.fieldLink own idx "TeleStack$Craft" "expected" "I" ∈ Gw) {v : Int32} (hv : σ 14 3 = v) (d : decode cc pc = .ok (.getfield idx, 3)) (k : J p l e R s m args below meth c D vwCl (wlT ad ca) A nL cells slots Q (pc + 3) loc (.int v :: rest) σ) : J p l e R s m args below meth c D vwCl (wlT ad ca) A nL cells slots Q pc loc (.ref (ad 14) :: rest) σ := by subst hv; exact j_get X uw_Cr 14 rfl rfl 3 (by decide) hlink rfl d k
theorem p_14_3 (X : Cx p s m args c cc nL own Gw D vwCl (tysT ca) (wlT ad ca) A N0) (hlink : Cond.fieldLink own idx "TeleStack$Craft" "expected" "I" ∈ Gw) {x : Int32} (d : decode cc pc = .ok (.putfield idx, 3)) (k : J p l e R s m args below meth c D vwCl (wlT ad ca) A nL cells slots Q (pc + 3) loc rest (jup σ 14 3 x)) : J p l e R s m args below meth c D vwCl (wlT ad ca) A nL cells slots Q pc loc (.int x :: .ref (ad 14) :: rest) σ := j_put (ty := .int) X uw_Cr Fy_Cr ty_Cr nm_Cr 14 rfl rfl 3 (by decide) hlink rfl (by decide +kernel) rfl rfl (by show 3 < 5; decide) rfl d k
theorem gN_14_3 (X : Cx p s m args c cc nL own Gw D vwCl (tysT ca) (wlT ad ca) A N0) {host : String} (hlink : ∀ s : State, N0 s → va_Nw (.fieldLinkNest own idx "TeleStack$Craft" "expected" "I" host) s) {v : Int32} (hv : σ 14 3 = v) (d : decode cc pc = .ok (.getfield idx, 3)) (k : J p l e R s m args below meth c D vwCl (wlT ad ca) A nL cells slots Q (pc + 3) loc (.int v :: rest) σ) : J p l e R s m args below meth c D vwCl (wlT ad ca) A nL cells slots Q pc loc (.ref (ad 14) :: rest) σ := by subst hv; exact j_getN X uw_Cr 14 rfl rfl 3 (by decide) hlink rfl d k
theorem pN_14_3 (X : Cx p s m args c cc nL own Gw D vwCl (tysT ca) (wlT ad ca) A N0) {host : String} (hlink : ∀ s : State, N0 s → va_Nw (.fieldLinkNest own idx "TeleStack$Craft" "expected" "I" host) s) {x : Int32} (d : decode cc pc = .ok (.putfield idx, 3)) (k : J p l e R s m args below meth c D vwCl (wlT ad ca) A nL cells slots Q (pc + 3) loc rest (jup σ 14 3 x)) : J p l e R s m args below meth c D vwCl (wlT ad ca) A nL cells slots Q pc loc (.int x :: .ref (ad 14) :: rest) σ := j_putN (ty := .int) X uw_Cr Fy_Cr ty_Cr nm_Cr 14 rfl rfl 3 (by decide) hlink rfl (by decide +kernel) rfl rfl (by show 3 < 5; decide) rfl d k
theorem g_14_4 (X : Cx p s m args c cc nL own Gw D vwCl (tysT ca) (wlT ad ca) A N0) (hlink : Cond.fieldLink own idx "TeleStack$Craft" "again" "Z" ∈ Gw) {v : Int32} (hv : σ 14 4 = v) (d : decode cc pc = .ok (.getfield idx, 3)) (k : J p l e R s m args below meth c D vwCl (wlT ad ca) A nL cells slots Q (pc + 3) loc (.int v :: rest) σ) : J p l e R s m args below meth c D vwCl (wlT ad ca) A nL cells slots Q pc loc (.ref (ad 14) :: rest) σ := by subst hv; exact j_get X uw_Cr 14 rfl rfl 4 (by decide) hlink rfl d k
theorem p_14_4 (X : Cx p s m args c cc nL own Gw D vwCl (tysT ca) (wlT ad ca) A N0) (hlink : Cond.fieldLink own idx "TeleStack$Craft" "again" "Z" ∈ Gw) {x : Int32} (hn : narrow .boolean (.int x) = .int x) (hf : fits .boolean (.int x) = true) (d : decode cc pc = .ok (.putfield idx, 3)) (k : J p l e R s m args below meth c D vwCl (wlT ad ca) A nL cells slots Q (pc + 3) loc rest (jup σ 14 4 x)) : J p l e R s m args below meth c D vwCl (wlT ad ca) A nL cells slots Q pc loc (.int x :: .ref (ad 14) :: rest) σ := j_put (ty := .boolean) X uw_Cr Fy_Cr ty_Cr nm_Cr 14 rfl rfl 4 (by decide) hlink rfl (by decide +kernel) hn hf (by show 4 < 5; decide) rfl d k
theorem gN_14_4 (X : Cx p s m args c cc nL own Gw D vwCl (tysT ca) (wlT ad ca) A N0) {host : String} (hlink : ∀ s : State, N0 s → va_Nw (.fieldLinkNest own idx "TeleStack$Craft" "again" "Z" host) s) {v : Int32} (hv : σ 14 4 = v) (d : decode cc pc = .ok (.getfield idx, 3)) (k : J p l e R s m args below meth c D vwCl (wlT ad ca) A nL cells slots Q (pc + 3) loc (.int v :: rest) σ) : J p l e R s m args below meth c D vwCl (wlT ad ca) A nL cells slots Q pc loc (.ref (ad 14) :: rest) σ := by subst hv; exact j_getN X uw_Cr 14 rfl rfl 4 (by decide) hlink rfl d k
theorem pN_14_4 (X : Cx p s m args c cc nL own Gw D vwCl (tysT ca) (wlT ad ca) A N0) {host : String} (hlink : ∀ s : State, N0 s → va_Nw (.fieldLinkNest own idx "TeleStack$Craft" "again" "Z" host) s) {x : Int32} (hn : narrow .boolean (.int x) = .int x) (hf : fits .boolean (.int x) = true) (d : decode cc pc = .ok (.putfield idx, 3)) (k : J p l e R s m args below meth c D vwCl (wlT ad ca) A nL cells slots Q (pc + 3) loc rest (jup σ 14 4 x)) : J p l e R s m args below meth c D vwCl (wlT ad ca) A nL cells slots Q pc loc (.int x :: .ref (ad 14) :: rest) σ := j_putN (ty := .boolean) X uw_Cr Fy_Cr ty_Cr nm_Cr 14 rfl rfl 4 (by decide) hlink rfl (by decide +kernel) hn hf (by show 4 < 5; decide) rfl d k
theorem ld_15 (X : Cx p s m args c cc nL own Gw D vwCl (tysT ca) (wlT ad ca) A N0) {i v : Int32} (hin : vp_in i 3) (hv : σ 15 i.toNatClampNeg = v) (d : decode cc pc = .ok (.iaload, 1)) (k : J p l e R s m args below meth c D vwCl (wlT ad ca) A nL cells slots Q (pc + 1) loc (.int v :: rest) σ) : J p l e R s m args below meth c D vwCl (wlT ad ca) A nL cells slots Q pc loc (.int i :: .ref (ad 15) :: rest) σ := by subst hv; exact j_iald X 15 9 rfl rfl hin d k
theorem sr_15 (X : Cx p s m args c cc nL own Gw D vwCl (tysT ca) (wlT ad ca) A N0) {i x : Int32} (hin : vp_in i 3) (d : decode cc pc = .ok (.iastore, 1)) (k : J p l e R s m args below meth c D vwCl (wlT ad ca) A nL cells slots Q (pc + 1) loc rest (jup σ 15 i.toNatClampNeg x)) : J p l e R s m args below meth c D vwCl (wlT ad ca) A nL cells slots Q pc loc (.int x :: .int i :: .ref (ad 15) :: rest) σ := j_iast X 15 9 rfl rfl hin rfl d k
theorem la_16_0 (X : Cx p s m args c cc nL own Gw D vwCl (tysT ca) (wlT ad ca) A N0) (d : decode cc pc = .ok (.aaload, 1)) (k : J p l e R s m args below meth c D vwCl (wlT ad ca) A nL cells slots Q (pc + 1) loc (.ref (ad 18) :: rest) σ) : J p l e R s m args below meth c D vwCl (wlT ad ca) A nL cells slots Q pc loc (.int 0 :: .ref (ad 16) :: rest) σ := j_aald X 16 10 rfl rfl (vin_lit 0 2 (by decide)) rfl d k
theorem la_16_1 (X : Cx p s m args c cc nL own Gw D vwCl (tysT ca) (wlT ad ca) A N0) (d : decode cc pc = .ok (.aaload, 1)) (k : J p l e R s m args below meth c D vwCl (wlT ad ca) A nL cells slots Q (pc + 1) loc (.ref (ad 22) :: rest) σ) : J p l e R s m args below meth c D vwCl (wlT ad ca) A nL cells slots Q pc loc (.int 1 :: .ref (ad 16) :: rest) σ := j_aald X 16 10 rfl rfl (vin_lit 1 2 (by decide)) rfl d k
theorem la_16 (X : Cx p s m args c cc nL own Gw D vwCl (tysT ca) (wlT ad ca) A N0) {i : Int32} (d : decode cc pc = .ok (.aaload, 1)) (hin : vp_in i 2) (k0 : i = 0 → J p l e R s m args below meth c D vwCl (wlT ad ca) A nL cells slots Q (pc + 1) loc (.ref (ad 18) :: rest) σ) (k1 : i = 1 → J p l e R s m args below meth c D vwCl (wlT ad ca) A nL cells slots Q (pc + 1) loc (.ref (ad 22) :: rest) σ) : J p l e R s m args below meth c D vwCl (wlT ad ca) A nL cells slots Q pc loc (.int i :: .ref (ad 16) :: rest) σ := by
  obtain ⟨j, hj, rfl⟩ := vp_in_of hin (by decide)
  match j, hj with
  | 0, _ => exact la_16_0 X d (k0 rfl)
  | 1, _ => exact la_16_1 X d (k1 rfl)
theorem la_17_0 (X : Cx p s m args c cc nL own Gw D vwCl (tysT ca) (wlT ad ca) A N0) (d : decode cc pc = .ok (.aaload, 1)) (k : J p l e R s m args below meth c D vwCl (wlT ad ca) A nL cells slots Q (pc + 1) loc (.ref (ad 21) :: rest) σ) : J p l e R s m args below meth c D vwCl (wlT ad ca) A nL cells slots Q pc loc (.int 0 :: .ref (ad 17) :: rest) σ := j_aald X 17 11 rfl rfl (vin_lit 0 2 (by decide)) rfl d k
theorem la_17_1 (X : Cx p s m args c cc nL own Gw D vwCl (tysT ca) (wlT ad ca) A N0) (d : decode cc pc = .ok (.aaload, 1)) (k : J p l e R s m args below meth c D vwCl (wlT ad ca) A nL cells slots Q (pc + 1) loc (.ref (ad 25) :: rest) σ) : J p l e R s m args below meth c D vwCl (wlT ad ca) A nL cells slots Q pc loc (.int 1 :: .ref (ad 17) :: rest) σ := j_aald X 17 11 rfl rfl (vin_lit 1 2 (by decide)) rfl d k
theorem la_17 (X : Cx p s m args c cc nL own Gw D vwCl (tysT ca) (wlT ad ca) A N0) {i : Int32} (d : decode cc pc = .ok (.aaload, 1)) (hin : vp_in i 2) (k0 : i = 0 → J p l e R s m args below meth c D vwCl (wlT ad ca) A nL cells slots Q (pc + 1) loc (.ref (ad 21) :: rest) σ) (k1 : i = 1 → J p l e R s m args below meth c D vwCl (wlT ad ca) A nL cells slots Q (pc + 1) loc (.ref (ad 25) :: rest) σ) : J p l e R s m args below meth c D vwCl (wlT ad ca) A nL cells slots Q pc loc (.int i :: .ref (ad 17) :: rest) σ := by
  obtain ⟨j, hj, rfl⟩ := vp_in_of hin (by decide)
  match j, hj with
  | 0, _ => exact la_17_0 X d (k0 rfl)
  | 1, _ => exact la_17_1 X d (k1 rfl)
theorem g_18_0 (X : Cx p s m args c cc nL own Gw D vwCl (tysT ca) (wlT ad ca) A N0) (hlink : Cond.fieldLink own idx "TeleStack$Stream" "cells" "[I" ∈ Gw) (d : decode cc pc = .ok (.getfield idx, 3)) (k : J p l e R s m args below meth c D vwCl (wlT ad ca) A nL cells slots Q (pc + 3) loc (.ref (ad 19) :: rest) σ) : J p l e R s m args below meth c D vwCl (wlT ad ca) A nL cells slots Q pc loc (.ref (ad 18) :: rest) σ := j_get X uw_St 18 rfl rfl 0 (by decide) hlink rfl d k
theorem g_18_1 (X : Cx p s m args c cc nL own Gw D vwCl (tysT ca) (wlT ad ca) A N0) (hlink : Cond.fieldLink own idx "TeleStack$Stream" "tags" "[Z" ∈ Gw) (d : decode cc pc = .ok (.getfield idx, 3)) (k : J p l e R s m args below meth c D vwCl (wlT ad ca) A nL cells slots Q (pc + 3) loc (.ref (ad 20) :: rest) σ) : J p l e R s m args below meth c D vwCl (wlT ad ca) A nL cells slots Q pc loc (.ref (ad 18) :: rest) σ := j_get X uw_St 18 rfl rfl 1 (by decide) hlink rfl d k
theorem g_18_2 (X : Cx p s m args c cc nL own Gw D vwCl (tysT ca) (wlT ad ca) A N0) (hlink : Cond.fieldLink own idx "TeleStack$Stream" "size" "I" ∈ Gw) {v : Int32} (hv : σ 18 2 = v) (d : decode cc pc = .ok (.getfield idx, 3)) (k : J p l e R s m args below meth c D vwCl (wlT ad ca) A nL cells slots Q (pc + 3) loc (.int v :: rest) σ) : J p l e R s m args below meth c D vwCl (wlT ad ca) A nL cells slots Q pc loc (.ref (ad 18) :: rest) σ := by subst hv; exact j_get X uw_St 18 rfl rfl 2 (by decide) hlink rfl d k
theorem p_18_2 (X : Cx p s m args c cc nL own Gw D vwCl (tysT ca) (wlT ad ca) A N0) (hlink : Cond.fieldLink own idx "TeleStack$Stream" "size" "I" ∈ Gw) {x : Int32} (d : decode cc pc = .ok (.putfield idx, 3)) (k : J p l e R s m args below meth c D vwCl (wlT ad ca) A nL cells slots Q (pc + 3) loc rest (jup σ 18 2 x)) : J p l e R s m args below meth c D vwCl (wlT ad ca) A nL cells slots Q pc loc (.int x :: .ref (ad 18) :: rest) σ := j_put (ty := .int) X uw_St Fy_St ty_St nm_St 18 rfl rfl 2 (by decide) hlink rfl (by decide +kernel) rfl rfl (by show 2 < 4; decide) rfl d k
theorem g_18_3 (X : Cx p s m args c cc nL own Gw D vwCl (tysT ca) (wlT ad ca) A N0) (hlink : Cond.fieldLink own idx "TeleStack$Stream" "count" "I" ∈ Gw) {v : Int32} (hv : σ 18 3 = v) (d : decode cc pc = .ok (.getfield idx, 3)) (k : J p l e R s m args below meth c D vwCl (wlT ad ca) A nL cells slots Q (pc + 3) loc (.int v :: rest) σ) : J p l e R s m args below meth c D vwCl (wlT ad ca) A nL cells slots Q pc loc (.ref (ad 18) :: rest) σ := by subst hv; exact j_get X uw_St 18 rfl rfl 3 (by decide) hlink rfl d k
theorem p_18_3 (X : Cx p s m args c cc nL own Gw D vwCl (tysT ca) (wlT ad ca) A N0) (hlink : Cond.fieldLink own idx "TeleStack$Stream" "count" "I" ∈ Gw) {x : Int32} (d : decode cc pc = .ok (.putfield idx, 3)) (k : J p l e R s m args below meth c D vwCl (wlT ad ca) A nL cells slots Q (pc + 3) loc rest (jup σ 18 3 x)) : J p l e R s m args below meth c D vwCl (wlT ad ca) A nL cells slots Q pc loc (.int x :: .ref (ad 18) :: rest) σ := j_put (ty := .int) X uw_St Fy_St ty_St nm_St 18 rfl rfl 3 (by decide) hlink rfl (by decide +kernel) rfl rfl (by show 3 < 4; decide) rfl d k
theorem ld_19 (X : Cx p s m args c cc nL own Gw D vwCl (tysT ca) (wlT ad ca) A N0) {i v : Int32} (hin : vp_in i 60) (hv : σ 19 i.toNatClampNeg = v) (d : decode cc pc = .ok (.iaload, 1)) (k : J p l e R s m args below meth c D vwCl (wlT ad ca) A nL cells slots Q (pc + 1) loc (.int v :: rest) σ) : J p l e R s m args below meth c D vwCl (wlT ad ca) A nL cells slots Q pc loc (.int i :: .ref (ad 19) :: rest) σ := by subst hv; exact j_iald X 19 12 rfl rfl hin d k
theorem sr_19 (X : Cx p s m args c cc nL own Gw D vwCl (tysT ca) (wlT ad ca) A N0) {i x : Int32} (hin : vp_in i 60) (d : decode cc pc = .ok (.iastore, 1)) (k : J p l e R s m args below meth c D vwCl (wlT ad ca) A nL cells slots Q (pc + 1) loc rest (jup σ 19 i.toNatClampNeg x)) : J p l e R s m args below meth c D vwCl (wlT ad ca) A nL cells slots Q pc loc (.int x :: .int i :: .ref (ad 19) :: rest) σ := j_iast X 19 12 rfl rfl hin rfl d k
theorem ld_20 (X : Cx p s m args c cc nL own Gw D vwCl (tysT ca) (wlT ad ca) A N0) {i v : Int32} (hin : vp_in i 60) (hv : σ 20 i.toNatClampNeg = v) (d : decode cc pc = .ok (.baload, 1)) (k : J p l e R s m args below meth c D vwCl (wlT ad ca) A nL cells slots Q (pc + 1) loc (.int v :: rest) σ) : J p l e R s m args below meth c D vwCl (wlT ad ca) A nL cells slots Q pc loc (.int i :: .ref (ad 20) :: rest) σ := by subst hv; exact j_zald X 20 13 rfl rfl hin d k
theorem sr_20 (X : Cx p s m args c cc nL own Gw D vwCl (tysT ca) (wlT ad ca) A N0) {i x : Int32} (hin : vp_in i 60) (d : decode cc pc = .ok (.bastore, 1)) (k : J p l e R s m args below meth c D vwCl (wlT ad ca) A nL cells slots Q (pc + 1) loc rest (jup σ 20 i.toNatClampNeg (vp_nar .boolean x))) : J p l e R s m args below meth c D vwCl (wlT ad ca) A nL cells slots Q pc loc (.int x :: .int i :: .ref (ad 20) :: rest) σ := j_zast X 20 13 rfl rfl hin rfl d k
theorem g_21_0 (X : Cx p s m args c cc nL own Gw D vwCl (tysT ca) (wlT ad ca) A N0) (hlink : Cond.fieldLink own idx "TeleStack$Assembler" "channel" "I" ∈ Gw) {v : Int32} (hv : σ 21 0 = v) (d : decode cc pc = .ok (.getfield idx, 3)) (k : J p l e R s m args below meth c D vwCl (wlT ad ca) A nL cells slots Q (pc + 3) loc (.int v :: rest) σ) : J p l e R s m args below meth c D vwCl (wlT ad ca) A nL cells slots Q pc loc (.ref (ad 21) :: rest) σ := by subst hv; exact j_get X uw_As 21 rfl rfl 0 (by decide) hlink rfl d k
theorem g_21_1 (X : Cx p s m args c cc nL own Gw D vwCl (tysT ca) (wlT ad ca) A N0) (hlink : Cond.fieldLink own idx "TeleStack$Assembler" "awaited" "I" ∈ Gw) {v : Int32} (hv : σ 21 1 = v) (d : decode cc pc = .ok (.getfield idx, 3)) (k : J p l e R s m args below meth c D vwCl (wlT ad ca) A nL cells slots Q (pc + 3) loc (.int v :: rest) σ) : J p l e R s m args below meth c D vwCl (wlT ad ca) A nL cells slots Q pc loc (.ref (ad 21) :: rest) σ := by subst hv; exact j_get X uw_As 21 rfl rfl 1 (by decide) hlink rfl d k
theorem p_21_1 (X : Cx p s m args c cc nL own Gw D vwCl (tysT ca) (wlT ad ca) A N0) (hlink : Cond.fieldLink own idx "TeleStack$Assembler" "awaited" "I" ∈ Gw) {x : Int32} (d : decode cc pc = .ok (.putfield idx, 3)) (k : J p l e R s m args below meth c D vwCl (wlT ad ca) A nL cells slots Q (pc + 3) loc rest (jup σ 21 1 x)) : J p l e R s m args below meth c D vwCl (wlT ad ca) A nL cells slots Q pc loc (.int x :: .ref (ad 21) :: rest) σ := j_put (ty := .int) X uw_As Fy_As ty_As nm_As 21 rfl rfl 1 (by decide) hlink rfl (by decide +kernel) rfl rfl (by show 1 < 7; decide) rfl d k
theorem g_21_2 (X : Cx p s m args c cc nL own Gw D vwCl (tysT ca) (wlT ad ca) A N0) (hlink : Cond.fieldLink own idx "TeleStack$Assembler" "inStep" "Z" ∈ Gw) {v : Int32} (hv : σ 21 2 = v) (d : decode cc pc = .ok (.getfield idx, 3)) (k : J p l e R s m args below meth c D vwCl (wlT ad ca) A nL cells slots Q (pc + 3) loc (.int v :: rest) σ) : J p l e R s m args below meth c D vwCl (wlT ad ca) A nL cells slots Q pc loc (.ref (ad 21) :: rest) σ := by subst hv; exact j_get X uw_As 21 rfl rfl 2 (by decide) hlink rfl d k
theorem p_21_2 (X : Cx p s m args c cc nL own Gw D vwCl (tysT ca) (wlT ad ca) A N0) (hlink : Cond.fieldLink own idx "TeleStack$Assembler" "inStep" "Z" ∈ Gw) {x : Int32} (hn : narrow .boolean (.int x) = .int x) (hf : fits .boolean (.int x) = true) (d : decode cc pc = .ok (.putfield idx, 3)) (k : J p l e R s m args below meth c D vwCl (wlT ad ca) A nL cells slots Q (pc + 3) loc rest (jup σ 21 2 x)) : J p l e R s m args below meth c D vwCl (wlT ad ca) A nL cells slots Q pc loc (.int x :: .ref (ad 21) :: rest) σ := j_put (ty := .boolean) X uw_As Fy_As ty_As nm_As 21 rfl rfl 2 (by decide) hlink rfl (by decide +kernel) hn hf (by show 2 < 7; decide) rfl d k
theorem g_21_3 (X : Cx p s m args c cc nL own Gw D vwCl (tysT ca) (wlT ad ca) A N0) (hlink : Cond.fieldLink own idx "TeleStack$Assembler" "cellsRead" "I" ∈ Gw) {v : Int32} (hv : σ 21 3 = v) (d : decode cc pc = .ok (.getfield idx, 3)) (k : J p l e R s m args below meth c D vwCl (wlT ad ca) A nL cells slots Q (pc + 3) loc (.int v :: rest) σ) : J p l e R s m args below meth c D vwCl (wlT ad ca) A nL cells slots Q pc loc (.ref (ad 21) :: rest) σ := by subst hv; exact j_get X uw_As 21 rfl rfl 3 (by decide) hlink rfl d k
theorem p_21_3 (X : Cx p s m args c cc nL own Gw D vwCl (tysT ca) (wlT ad ca) A N0) (hlink : Cond.fieldLink own idx "TeleStack$Assembler" "cellsRead" "I" ∈ Gw) {x : Int32} (d : decode cc pc = .ok (.putfield idx, 3)) (k : J p l e R s m args below meth c D vwCl (wlT ad ca) A nL cells slots Q (pc + 3) loc rest (jup σ 21 3 x)) : J p l e R s m args below meth c D vwCl (wlT ad ca) A nL cells slots Q pc loc (.int x :: .ref (ad 21) :: rest) σ := j_put (ty := .int) X uw_As Fy_As ty_As nm_As 21 rfl rfl 3 (by decide) hlink rfl (by decide +kernel) rfl rfl (by show 3 < 7; decide) rfl d k
theorem g_21_4 (X : Cx p s m args c cc nL own Gw D vwCl (tysT ca) (wlT ad ca) A N0) (hlink : Cond.fieldLink own idx "TeleStack$Assembler" "tag" "I" ∈ Gw) {v : Int32} (hv : σ 21 4 = v) (d : decode cc pc = .ok (.getfield idx, 3)) (k : J p l e R s m args below meth c D vwCl (wlT ad ca) A nL cells slots Q (pc + 3) loc (.int v :: rest) σ) : J p l e R s m args below meth c D vwCl (wlT ad ca) A nL cells slots Q pc loc (.ref (ad 21) :: rest) σ := by subst hv; exact j_get X uw_As 21 rfl rfl 4 (by decide) hlink rfl d k
theorem p_21_4 (X : Cx p s m args c cc nL own Gw D vwCl (tysT ca) (wlT ad ca) A N0) (hlink : Cond.fieldLink own idx "TeleStack$Assembler" "tag" "I" ∈ Gw) {x : Int32} (d : decode cc pc = .ok (.putfield idx, 3)) (k : J p l e R s m args below meth c D vwCl (wlT ad ca) A nL cells slots Q (pc + 3) loc rest (jup σ 21 4 x)) : J p l e R s m args below meth c D vwCl (wlT ad ca) A nL cells slots Q pc loc (.int x :: .ref (ad 21) :: rest) σ := j_put (ty := .int) X uw_As Fy_As ty_As nm_As 21 rfl rfl 4 (by decide) hlink rfl (by decide +kernel) rfl rfl (by show 4 < 7; decide) rfl d k
theorem g_21_5 (X : Cx p s m args c cc nL own Gw D vwCl (tysT ca) (wlT ad ca) A N0) (hlink : Cond.fieldLink own idx "TeleStack$Assembler" "length" "I" ∈ Gw) {v : Int32} (hv : σ 21 5 = v) (d : decode cc pc = .ok (.getfield idx, 3)) (k : J p l e R s m args below meth c D vwCl (wlT ad ca) A nL cells slots Q (pc + 3) loc (.int v :: rest) σ) : J p l e R s m args below meth c D vwCl (wlT ad ca) A nL cells slots Q pc loc (.ref (ad 21) :: rest) σ := by subst hv; exact j_get X uw_As 21 rfl rfl 5 (by decide) hlink rfl d k
theorem p_21_5 (X : Cx p s m args c cc nL own Gw D vwCl (tysT ca) (wlT ad ca) A N0) (hlink : Cond.fieldLink own idx "TeleStack$Assembler" "length" "I" ∈ Gw) {x : Int32} (d : decode cc pc = .ok (.putfield idx, 3)) (k : J p l e R s m args below meth c D vwCl (wlT ad ca) A nL cells slots Q (pc + 3) loc rest (jup σ 21 5 x)) : J p l e R s m args below meth c D vwCl (wlT ad ca) A nL cells slots Q pc loc (.int x :: .ref (ad 21) :: rest) σ := j_put (ty := .int) X uw_As Fy_As ty_As nm_As 21 rfl rfl 5 (by decide) hlink rfl (by decide +kernel) rfl rfl (by show 5 < 7; decide) rfl d k
theorem g_21_6 (X : Cx p s m args c cc nL own Gw D vwCl (tysT ca) (wlT ad ca) A N0) (hlink : Cond.fieldLink own idx "TeleStack$Assembler" "sum" "I" ∈ Gw) {v : Int32} (hv : σ 21 6 = v) (d : decode cc pc = .ok (.getfield idx, 3)) (k : J p l e R s m args below meth c D vwCl (wlT ad ca) A nL cells slots Q (pc + 3) loc (.int v :: rest) σ) : J p l e R s m args below meth c D vwCl (wlT ad ca) A nL cells slots Q pc loc (.ref (ad 21) :: rest) σ := by subst hv; exact j_get X uw_As 21 rfl rfl 6 (by decide) hlink rfl d k
theorem p_21_6 (X : Cx p s m args c cc nL own Gw D vwCl (tysT ca) (wlT ad ca) A N0) (hlink : Cond.fieldLink own idx "TeleStack$Assembler" "sum" "I" ∈ Gw) {x : Int32} (d : decode cc pc = .ok (.putfield idx, 3)) (k : J p l e R s m args below meth c D vwCl (wlT ad ca) A nL cells slots Q (pc + 3) loc rest (jup σ 21 6 x)) : J p l e R s m args below meth c D vwCl (wlT ad ca) A nL cells slots Q pc loc (.int x :: .ref (ad 21) :: rest) σ := j_put (ty := .int) X uw_As Fy_As ty_As nm_As 21 rfl rfl 6 (by decide) hlink rfl (by decide +kernel) rfl rfl (by show 6 < 7; decide) rfl d k
theorem g_22_0 (X : Cx p s m args c cc nL own Gw D vwCl (tysT ca) (wlT ad ca) A N0) (hlink : Cond.fieldLink own idx "TeleStack$Stream" "cells" "[I" ∈ Gw) (d : decode cc pc = .ok (.getfield idx, 3)) (k : J p l e R s m args below meth c D vwCl (wlT ad ca) A nL cells slots Q (pc + 3) loc (.ref (ad 23) :: rest) σ) : J p l e R s m args below meth c D vwCl (wlT ad ca) A nL cells slots Q pc loc (.ref (ad 22) :: rest) σ := j_get X uw_St 22 rfl rfl 0 (by decide) hlink rfl d k
theorem g_22_1 (X : Cx p s m args c cc nL own Gw D vwCl (tysT ca) (wlT ad ca) A N0) (hlink : Cond.fieldLink own idx "TeleStack$Stream" "tags" "[Z" ∈ Gw) (d : decode cc pc = .ok (.getfield idx, 3)) (k : J p l e R s m args below meth c D vwCl (wlT ad ca) A nL cells slots Q (pc + 3) loc (.ref (ad 24) :: rest) σ) : J p l e R s m args below meth c D vwCl (wlT ad ca) A nL cells slots Q pc loc (.ref (ad 22) :: rest) σ := j_get X uw_St 22 rfl rfl 1 (by decide) hlink rfl d k
theorem g_22_2 (X : Cx p s m args c cc nL own Gw D vwCl (tysT ca) (wlT ad ca) A N0) (hlink : Cond.fieldLink own idx "TeleStack$Stream" "size" "I" ∈ Gw) {v : Int32} (hv : σ 22 2 = v) (d : decode cc pc = .ok (.getfield idx, 3)) (k : J p l e R s m args below meth c D vwCl (wlT ad ca) A nL cells slots Q (pc + 3) loc (.int v :: rest) σ) : J p l e R s m args below meth c D vwCl (wlT ad ca) A nL cells slots Q pc loc (.ref (ad 22) :: rest) σ := by subst hv; exact j_get X uw_St 22 rfl rfl 2 (by decide) hlink rfl d k
theorem p_22_2 (X : Cx p s m args c cc nL own Gw D vwCl (tysT ca) (wlT ad ca) A N0) (hlink : Cond.fieldLink own idx "TeleStack$Stream" "size" "I" ∈ Gw) {x : Int32} (d : decode cc pc = .ok (.putfield idx, 3)) (k : J p l e R s m args below meth c D vwCl (wlT ad ca) A nL cells slots Q (pc + 3) loc rest (jup σ 22 2 x)) : J p l e R s m args below meth c D vwCl (wlT ad ca) A nL cells slots Q pc loc (.int x :: .ref (ad 22) :: rest) σ := j_put (ty := .int) X uw_St Fy_St ty_St nm_St 22 rfl rfl 2 (by decide) hlink rfl (by decide +kernel) rfl rfl (by show 2 < 4; decide) rfl d k
theorem g_22_3 (X : Cx p s m args c cc nL own Gw D vwCl (tysT ca) (wlT ad ca) A N0) (hlink : Cond.fieldLink own idx "TeleStack$Stream" "count" "I" ∈ Gw) {v : Int32} (hv : σ 22 3 = v) (d : decode cc pc = .ok (.getfield idx, 3)) (k : J p l e R s m args below meth c D vwCl (wlT ad ca) A nL cells slots Q (pc + 3) loc (.int v :: rest) σ) : J p l e R s m args below meth c D vwCl (wlT ad ca) A nL cells slots Q pc loc (.ref (ad 22) :: rest) σ := by subst hv; exact j_get X uw_St 22 rfl rfl 3 (by decide) hlink rfl d k
theorem p_22_3 (X : Cx p s m args c cc nL own Gw D vwCl (tysT ca) (wlT ad ca) A N0) (hlink : Cond.fieldLink own idx "TeleStack$Stream" "count" "I" ∈ Gw) {x : Int32} (d : decode cc pc = .ok (.putfield idx, 3)) (k : J p l e R s m args below meth c D vwCl (wlT ad ca) A nL cells slots Q (pc + 3) loc rest (jup σ 22 3 x)) : J p l e R s m args below meth c D vwCl (wlT ad ca) A nL cells slots Q pc loc (.int x :: .ref (ad 22) :: rest) σ := j_put (ty := .int) X uw_St Fy_St ty_St nm_St 22 rfl rfl 3 (by decide) hlink rfl (by decide +kernel) rfl rfl (by show 3 < 4; decide) rfl d k
theorem ld_23 (X : Cx p s m args c cc nL own Gw D vwCl (tysT ca) (wlT ad ca) A N0) {i v : Int32} (hin : vp_in i 60) (hv : σ 23 i.toNatClampNeg = v) (d : decode cc pc = .ok (.iaload, 1)) (k : J p l e R s m args below meth c D vwCl (wlT ad ca) A nL cells slots Q (pc + 1) loc (.int v :: rest) σ) : J p l e R s m args below meth c D vwCl (wlT ad ca) A nL cells slots Q pc loc (.int i :: .ref (ad 23) :: rest) σ := by subst hv; exact j_iald X 23 14 rfl rfl hin d k
theorem sr_23 (X : Cx p s m args c cc nL own Gw D vwCl (tysT ca) (wlT ad ca) A N0) {i x : Int32} (hin : vp_in i 60) (d : decode cc pc = .ok (.iastore, 1)) (k : J p l e R s m args below meth c D vwCl (wlT ad ca) A nL cells slots Q (pc + 1) loc rest (jup σ 23 i.toNatClampNeg x)) : J p l e R s m args below meth c D vwCl (wlT ad ca) A nL cells slots Q pc loc (.int x :: .int i :: .ref (ad 23) :: rest) σ := j_iast X 23 14 rfl rfl hin rfl d k
theorem ld_24 (X : Cx p s m args c cc nL own Gw D vwCl (tysT ca) (wlT ad ca) A N0) {i v : Int32} (hin : vp_in i 60) (hv : σ 24 i.toNatClampNeg = v) (d : decode cc pc = .ok (.baload, 1)) (k : J p l e R s m args below meth c D vwCl (wlT ad ca) A nL cells slots Q (pc + 1) loc (.int v :: rest) σ) : J p l e R s m args below meth c D vwCl (wlT ad ca) A nL cells slots Q pc loc (.int i :: .ref (ad 24) :: rest) σ := by subst hv; exact j_zald X 24 15 rfl rfl hin d k
theorem sr_24 (X : Cx p s m args c cc nL own Gw D vwCl (tysT ca) (wlT ad ca) A N0) {i x : Int32} (hin : vp_in i 60) (d : decode cc pc = .ok (.bastore, 1)) (k : J p l e R s m args below meth c D vwCl (wlT ad ca) A nL cells slots Q (pc + 1) loc rest (jup σ 24 i.toNatClampNeg (vp_nar .boolean x))) : J p l e R s m args below meth c D vwCl (wlT ad ca) A nL cells slots Q pc loc (.int x :: .int i :: .ref (ad 24) :: rest) σ := j_zast X 24 15 rfl rfl hin rfl d k
theorem g_25_0 (X : Cx p s m args c cc nL own Gw D vwCl (tysT ca) (wlT ad ca) A N0) (hlink : Cond.fieldLink own idx "TeleStack$Assembler" "channel" "I" ∈ Gw) {v : Int32} (hv : σ 25 0 = v) (d : decode cc pc = .ok (.getfield idx, 3)) (k : J p l e R s m args below meth c D vwCl (wlT ad ca) A nL cells slots Q (pc + 3) loc (.int v :: rest) σ) : J p l e R s m args below meth c D vwCl (wlT ad ca) A nL cells slots Q pc loc (.ref (ad 25) :: rest) σ := by subst hv; exact j_get X uw_As 25 rfl rfl 0 (by decide) hlink rfl d k
theorem g_25_1 (X : Cx p s m args c cc nL own Gw D vwCl (tysT ca) (wlT ad ca) A N0) (hlink : Cond.fieldLink own idx "TeleStack$Assembler" "awaited" "I" ∈ Gw) {v : Int32} (hv : σ 25 1 = v) (d : decode cc pc = .ok (.getfield idx, 3)) (k : J p l e R s m args below meth c D vwCl (wlT ad ca) A nL cells slots Q (pc + 3) loc (.int v :: rest) σ) : J p l e R s m args below meth c D vwCl (wlT ad ca) A nL cells slots Q pc loc (.ref (ad 25) :: rest) σ := by subst hv; exact j_get X uw_As 25 rfl rfl 1 (by decide) hlink rfl d k
theorem p_25_1 (X : Cx p s m args c cc nL own Gw D vwCl (tysT ca) (wlT ad ca) A N0) (hlink : Cond.fieldLink own idx "TeleStack$Assembler" "awaited" "I" ∈ Gw) {x : Int32} (d : decode cc pc = .ok (.putfield idx, 3)) (k : J p l e R s m args below meth c D vwCl (wlT ad ca) A nL cells slots Q (pc + 3) loc rest (jup σ 25 1 x)) : J p l e R s m args below meth c D vwCl (wlT ad ca) A nL cells slots Q pc loc (.int x :: .ref (ad 25) :: rest) σ := j_put (ty := .int) X uw_As Fy_As ty_As nm_As 25 rfl rfl 1 (by decide) hlink rfl (by decide +kernel) rfl rfl (by show 1 < 7; decide) rfl d k
theorem g_25_2 (X : Cx p s m args c cc nL own Gw D vwCl (tysT ca) (wlT ad ca) A N0) (hlink : Cond.fieldLink own idx "TeleStack$Assembler" "inStep" "Z" ∈ Gw) {v : Int32} (hv : σ 25 2 = v) (d : decode cc pc = .ok (.getfield idx, 3)) (k : J p l e R s m args below meth c D vwCl (wlT ad ca) A nL cells slots Q (pc + 3) loc (.int v :: rest) σ) : J p l e R s m args below meth c D vwCl (wlT ad ca) A nL cells slots Q pc loc (.ref (ad 25) :: rest) σ := by subst hv; exact j_get X uw_As 25 rfl rfl 2 (by decide) hlink rfl d k
theorem p_25_2 (X : Cx p s m args c cc nL own Gw D vwCl (tysT ca) (wlT ad ca) A N0) (hlink : Cond.fieldLink own idx "TeleStack$Assembler" "inStep" "Z" ∈ Gw) {x : Int32} (hn : narrow .boolean (.int x) = .int x) (hf : fits .boolean (.int x) = true) (d : decode cc pc = .ok (.putfield idx, 3)) (k : J p l e R s m args below meth c D vwCl (wlT ad ca) A nL cells slots Q (pc + 3) loc rest (jup σ 25 2 x)) : J p l e R s m args below meth c D vwCl (wlT ad ca) A nL cells slots Q pc loc (.int x :: .ref (ad 25) :: rest) σ := j_put (ty := .boolean) X uw_As Fy_As ty_As nm_As 25 rfl rfl 2 (by decide) hlink rfl (by decide +kernel) hn hf (by show 2 < 7; decide) rfl d k
theorem g_25_3 (X : Cx p s m args c cc nL own Gw D vwCl (tysT ca) (wlT ad ca) A N0) (hlink : Cond.fieldLink own idx "TeleStack$Assembler" "cellsRead" "I" ∈ Gw) {v : Int32} (hv : σ 25 3 = v) (d : decode cc pc = .ok (.getfield idx, 3)) (k : J p l e R s m args below meth c D vwCl (wlT ad ca) A nL cells slots Q (pc + 3) loc (.int v :: rest) σ) : J p l e R s m args below meth c D vwCl (wlT ad ca) A nL cells slots Q pc loc (.ref (ad 25) :: rest) σ := by subst hv; exact j_get X uw_As 25 rfl rfl 3 (by decide) hlink rfl d k
theorem p_25_3 (X : Cx p s m args c cc nL own Gw D vwCl (tysT ca) (wlT ad ca) A N0) (hlink : Cond.fieldLink own idx "TeleStack$Assembler" "cellsRead" "I" ∈ Gw) {x : Int32} (d : decode cc pc = .ok (.putfield idx, 3)) (k : J p l e R s m args below meth c D vwCl (wlT ad ca) A nL cells slots Q (pc + 3) loc rest (jup σ 25 3 x)) : J p l e R s m args below meth c D vwCl (wlT ad ca) A nL cells slots Q pc loc (.int x :: .ref (ad 25) :: rest) σ := j_put (ty := .int) X uw_As Fy_As ty_As nm_As 25 rfl rfl 3 (by decide) hlink rfl (by decide +kernel) rfl rfl (by show 3 < 7; decide) rfl d k
theorem g_25_4 (X : Cx p s m args c cc nL own Gw D vwCl (tysT ca) (wlT ad ca) A N0) (hlink : Cond.fieldLink own idx "TeleStack$Assembler" "tag" "I" ∈ Gw) {v : Int32} (hv : σ 25 4 = v) (d : decode cc pc = .ok (.getfield idx, 3)) (k : J p l e R s m args below meth c D vwCl (wlT ad ca) A nL cells slots Q (pc + 3) loc (.int v :: rest) σ) : J p l e R s m args below meth c D vwCl (wlT ad ca) A nL cells slots Q pc loc (.ref (ad 25) :: rest) σ := by subst hv; exact j_get X uw_As 25 rfl rfl 4 (by decide) hlink rfl d k
theorem p_25_4 (X : Cx p s m args c cc nL own Gw D vwCl (tysT ca) (wlT ad ca) A N0) (hlink : Cond.fieldLink own idx "TeleStack$Assembler" "tag" "I" ∈ Gw) {x : Int32} (d : decode cc pc = .ok (.putfield idx, 3)) (k : J p l e R s m args below meth c D vwCl (wlT ad ca) A nL cells slots Q (pc + 3) loc rest (jup σ 25 4 x)) : J p l e R s m args below meth c D vwCl (wlT ad ca) A nL cells slots Q pc loc (.int x :: .ref (ad 25) :: rest) σ := j_put (ty := .int) X uw_As Fy_As ty_As nm_As 25 rfl rfl 4 (by decide) hlink rfl (by decide +kernel) rfl rfl (by show 4 < 7; decide) rfl d k
theorem g_25_5 (X : Cx p s m args c cc nL own Gw D vwCl (tysT ca) (wlT ad ca) A N0) (hlink : Cond.fieldLink own idx "TeleStack$Assembler" "length" "I" ∈ Gw) {v : Int32} (hv : σ 25 5 = v) (d : decode cc pc = .ok (.getfield idx, 3)) (k : J p l e R s m args below meth c D vwCl (wlT ad ca) A nL cells slots Q (pc + 3) loc (.int v :: rest) σ) : J p l e R s m args below meth c D vwCl (wlT ad ca) A nL cells slots Q pc loc (.ref (ad 25) :: rest) σ := by subst hv; exact j_get X uw_As 25 rfl rfl 5 (by decide) hlink rfl d k
theorem p_25_5 (X : Cx p s m args c cc nL own Gw D vwCl (tysT ca) (wlT ad ca) A N0) (hlink : Cond.fieldLink own idx "TeleStack$Assembler" "length" "I" ∈ Gw) {x : Int32} (d : decode cc pc = .ok (.putfield idx, 3)) (k : J p l e R s m args below meth c D vwCl (wlT ad ca) A nL cells slots Q (pc + 3) loc rest (jup σ 25 5 x)) : J p l e R s m args below meth c D vwCl (wlT ad ca) A nL cells slots Q pc loc (.int x :: .ref (ad 25) :: rest) σ := j_put (ty := .int) X uw_As Fy_As ty_As nm_As 25 rfl rfl 5 (by decide) hlink rfl (by decide +kernel) rfl rfl (by show 5 < 7; decide) rfl d k
theorem g_25_6 (X : Cx p s m args c cc nL own Gw D vwCl (tysT ca) (wlT ad ca) A N0) (hlink : Cond.fieldLink own idx "TeleStack$Assembler" "sum" "I" ∈ Gw) {v : Int32} (hv : σ 25 6 = v) (d : decode cc pc = .ok (.getfield idx, 3)) (k : J p l e R s m args below meth c D vwCl (wlT ad ca) A nL cells slots Q (pc + 3) loc (.int v :: rest) σ) : J p l e R s m args below meth c D vwCl (wlT ad ca) A nL cells slots Q pc loc (.ref (ad 25) :: rest) σ := by subst hv; exact j_get X uw_As 25 rfl rfl 6 (by decide) hlink rfl d k
theorem p_25_6 (X : Cx p s m args c cc nL own Gw D vwCl (tysT ca) (wlT ad ca) A N0) (hlink : Cond.fieldLink own idx "TeleStack$Assembler" "sum" "I" ∈ Gw) {x : Int32} (d : decode cc pc = .ok (.putfield idx, 3)) (k : J p l e R s m args below meth c D vwCl (wlT ad ca) A nL cells slots Q (pc + 3) loc rest (jup σ 25 6 x)) : J p l e R s m args below meth c D vwCl (wlT ad ca) A nL cells slots Q pc loc (.int x :: .ref (ad 25) :: rest) σ := j_put (ty := .int) X uw_As Fy_As ty_As nm_As 25 rfl rfl 6 (by decide) hlink rfl (by decide +kernel) rfl rfl (by show 6 < 7; decide) rfl d k
theorem g_26_0 (X : Cx p s m args c cc nL own Gw D vwCl (tysT ca) (wlT ad ca) A N0) (hlink : Cond.fieldLink own idx "TeleStack$DownFrame" "cells" "[I" ∈ Gw) (d : decode cc pc = .ok (.getfield idx, 3)) (k : J p l e R s m args below meth c D vwCl (wlT ad ca) A nL cells slots Q (pc + 3) loc (.ref (ad 27) :: rest) σ) : J p l e R s m args below meth c D vwCl (wlT ad ca) A nL cells slots Q pc loc (.ref (ad 26) :: rest) σ := j_get X uw_Df 26 rfl rfl 0 (by decide) hlink rfl d k
theorem gN_26_0 (X : Cx p s m args c cc nL own Gw D vwCl (tysT ca) (wlT ad ca) A N0) {host : String} (hlink : ∀ s : State, N0 s → va_Nw (.fieldLinkNest own idx "TeleStack$DownFrame" "cells" "[I" host) s) (d : decode cc pc = .ok (.getfield idx, 3)) (k : J p l e R s m args below meth c D vwCl (wlT ad ca) A nL cells slots Q (pc + 3) loc (.ref (ad 27) :: rest) σ) : J p l e R s m args below meth c D vwCl (wlT ad ca) A nL cells slots Q pc loc (.ref (ad 26) :: rest) σ := j_getN X uw_Df 26 rfl rfl 0 (by decide) hlink rfl d k
theorem g_26_1 (X : Cx p s m args c cc nL own Gw D vwCl (tysT ca) (wlT ad ca) A N0) (hlink : Cond.fieldLink own idx "TeleStack$DownFrame" "count" "I" ∈ Gw) {v : Int32} (hv : σ 26 1 = v) (d : decode cc pc = .ok (.getfield idx, 3)) (k : J p l e R s m args below meth c D vwCl (wlT ad ca) A nL cells slots Q (pc + 3) loc (.int v :: rest) σ) : J p l e R s m args below meth c D vwCl (wlT ad ca) A nL cells slots Q pc loc (.ref (ad 26) :: rest) σ := by subst hv; exact j_get X uw_Df 26 rfl rfl 1 (by decide) hlink rfl d k
theorem p_26_1 (X : Cx p s m args c cc nL own Gw D vwCl (tysT ca) (wlT ad ca) A N0) (hlink : Cond.fieldLink own idx "TeleStack$DownFrame" "count" "I" ∈ Gw) {x : Int32} (d : decode cc pc = .ok (.putfield idx, 3)) (k : J p l e R s m args below meth c D vwCl (wlT ad ca) A nL cells slots Q (pc + 3) loc rest (jup σ 26 1 x)) : J p l e R s m args below meth c D vwCl (wlT ad ca) A nL cells slots Q pc loc (.int x :: .ref (ad 26) :: rest) σ := j_put (ty := .int) X uw_Df Fy_Df ty_Df nm_Df 26 rfl rfl 1 (by decide) hlink rfl (by decide +kernel) rfl rfl (by show 1 < 3; decide) rfl d k
theorem gN_26_1 (X : Cx p s m args c cc nL own Gw D vwCl (tysT ca) (wlT ad ca) A N0) {host : String} (hlink : ∀ s : State, N0 s → va_Nw (.fieldLinkNest own idx "TeleStack$DownFrame" "count" "I" host) s) {v : Int32} (hv : σ 26 1 = v) (d : decode cc pc = .ok (.getfield idx, 3)) (k : J p l e R s m args below meth c D vwCl (wlT ad ca) A nL cells slots Q (pc + 3) loc (.int v :: rest) σ) : J p l e R s m args below meth c D vwCl (wlT ad ca) A nL cells slots Q pc loc (.ref (ad 26) :: rest) σ := by subst hv; exact j_getN X uw_Df 26 rfl rfl 1 (by decide) hlink rfl d k
theorem pN_26_1 (X : Cx p s m args c cc nL own Gw D vwCl (tysT ca) (wlT ad ca) A N0) {host : String} (hlink : ∀ s : State, N0 s → va_Nw (.fieldLinkNest own idx "TeleStack$DownFrame" "count" "I" host) s) {x : Int32} (d : decode cc pc = .ok (.putfield idx, 3)) (k : J p l e R s m args below meth c D vwCl (wlT ad ca) A nL cells slots Q (pc + 3) loc rest (jup σ 26 1 x)) : J p l e R s m args below meth c D vwCl (wlT ad ca) A nL cells slots Q pc loc (.int x :: .ref (ad 26) :: rest) σ := j_putN (ty := .int) X uw_Df Fy_Df ty_Df nm_Df 26 rfl rfl 1 (by decide) hlink rfl (by decide +kernel) rfl rfl (by show 1 < 3; decide) rfl d k
theorem g_26_2 (X : Cx p s m args c cc nL own Gw D vwCl (tysT ca) (wlT ad ca) A N0) (hlink : Cond.fieldLink own idx "TeleStack$DownFrame" "pointer" "I" ∈ Gw) {v : Int32} (hv : σ 26 2 = v) (d : decode cc pc = .ok (.getfield idx, 3)) (k : J p l e R s m args below meth c D vwCl (wlT ad ca) A nL cells slots Q (pc + 3) loc (.int v :: rest) σ) : J p l e R s m args below meth c D vwCl (wlT ad ca) A nL cells slots Q pc loc (.ref (ad 26) :: rest) σ := by subst hv; exact j_get X uw_Df 26 rfl rfl 2 (by decide) hlink rfl d k
theorem p_26_2 (X : Cx p s m args c cc nL own Gw D vwCl (tysT ca) (wlT ad ca) A N0) (hlink : Cond.fieldLink own idx "TeleStack$DownFrame" "pointer" "I" ∈ Gw) {x : Int32} (d : decode cc pc = .ok (.putfield idx, 3)) (k : J p l e R s m args below meth c D vwCl (wlT ad ca) A nL cells slots Q (pc + 3) loc rest (jup σ 26 2 x)) : J p l e R s m args below meth c D vwCl (wlT ad ca) A nL cells slots Q pc loc (.int x :: .ref (ad 26) :: rest) σ := j_put (ty := .int) X uw_Df Fy_Df ty_Df nm_Df 26 rfl rfl 2 (by decide) hlink rfl (by decide +kernel) rfl rfl (by show 2 < 3; decide) rfl d k
theorem gN_26_2 (X : Cx p s m args c cc nL own Gw D vwCl (tysT ca) (wlT ad ca) A N0) {host : String} (hlink : ∀ s : State, N0 s → va_Nw (.fieldLinkNest own idx "TeleStack$DownFrame" "pointer" "I" host) s) {v : Int32} (hv : σ 26 2 = v) (d : decode cc pc = .ok (.getfield idx, 3)) (k : J p l e R s m args below meth c D vwCl (wlT ad ca) A nL cells slots Q (pc + 3) loc (.int v :: rest) σ) : J p l e R s m args below meth c D vwCl (wlT ad ca) A nL cells slots Q pc loc (.ref (ad 26) :: rest) σ := by subst hv; exact j_getN X uw_Df 26 rfl rfl 2 (by decide) hlink rfl d k
theorem pN_26_2 (X : Cx p s m args c cc nL own Gw D vwCl (tysT ca) (wlT ad ca) A N0) {host : String} (hlink : ∀ s : State, N0 s → va_Nw (.fieldLinkNest own idx "TeleStack$DownFrame" "pointer" "I" host) s) {x : Int32} (d : decode cc pc = .ok (.putfield idx, 3)) (k : J p l e R s m args below meth c D vwCl (wlT ad ca) A nL cells slots Q (pc + 3) loc rest (jup σ 26 2 x)) : J p l e R s m args below meth c D vwCl (wlT ad ca) A nL cells slots Q pc loc (.int x :: .ref (ad 26) :: rest) σ := j_putN (ty := .int) X uw_Df Fy_Df ty_Df nm_Df 26 rfl rfl 2 (by decide) hlink rfl (by decide +kernel) rfl rfl (by show 2 < 3; decide) rfl d k
theorem ld_27 (X : Cx p s m args c cc nL own Gw D vwCl (tysT ca) (wlT ad ca) A N0) {i v : Int32} (hin : vp_in i 6) (hv : σ 27 i.toNatClampNeg = v) (d : decode cc pc = .ok (.iaload, 1)) (k : J p l e R s m args below meth c D vwCl (wlT ad ca) A nL cells slots Q (pc + 1) loc (.int v :: rest) σ) : J p l e R s m args below meth c D vwCl (wlT ad ca) A nL cells slots Q pc loc (.int i :: .ref (ad 27) :: rest) σ := by subst hv; exact j_iald X 27 16 rfl rfl hin d k
theorem sr_27 (X : Cx p s m args c cc nL own Gw D vwCl (tysT ca) (wlT ad ca) A N0) {i x : Int32} (hin : vp_in i 6) (d : decode cc pc = .ok (.iastore, 1)) (k : J p l e R s m args below meth c D vwCl (wlT ad ca) A nL cells slots Q (pc + 1) loc rest (jup σ 27 i.toNatClampNeg x)) : J p l e R s m args below meth c D vwCl (wlT ad ca) A nL cells slots Q pc loc (.int x :: .int i :: .ref (ad 27) :: rest) σ := j_iast X 27 16 rfl rfl hin rfl d k
theorem g_28_0 (X : Cx p s m args c cc nL own Gw D vwCl (tysT ca) (wlT ad ca) A N0) (hlink : Cond.fieldLink own idx "TeleStack$Received" "channels" "[I" ∈ Gw) (d : decode cc pc = .ok (.getfield idx, 3)) (k : J p l e R s m args below meth c D vwCl (wlT ad ca) A nL cells slots Q (pc + 3) loc (.ref (ad 29) :: rest) σ) : J p l e R s m args below meth c D vwCl (wlT ad ca) A nL cells slots Q pc loc (.ref (ad 28) :: rest) σ := j_get X uw_Rc 28 rfl rfl 0 (by decide) hlink rfl d k
theorem g_28_1 (X : Cx p s m args c cc nL own Gw D vwCl (tysT ca) (wlT ad ca) A N0) (hlink : Cond.fieldLink own idx "TeleStack$Received" "tags" "[I" ∈ Gw) (d : decode cc pc = .ok (.getfield idx, 3)) (k : J p l e R s m args below meth c D vwCl (wlT ad ca) A nL cells slots Q (pc + 3) loc (.ref (ad 30) :: rest) σ) : J p l e R s m args below meth c D vwCl (wlT ad ca) A nL cells slots Q pc loc (.ref (ad 28) :: rest) σ := j_get X uw_Rc 28 rfl rfl 1 (by decide) hlink rfl d k
theorem g_28_2 (X : Cx p s m args c cc nL own Gw D vwCl (tysT ca) (wlT ad ca) A N0) (hlink : Cond.fieldLink own idx "TeleStack$Received" "lengths" "[I" ∈ Gw) (d : decode cc pc = .ok (.getfield idx, 3)) (k : J p l e R s m args below meth c D vwCl (wlT ad ca) A nL cells slots Q (pc + 3) loc (.ref (ad 31) :: rest) σ) : J p l e R s m args below meth c D vwCl (wlT ad ca) A nL cells slots Q pc loc (.ref (ad 28) :: rest) σ := j_get X uw_Rc 28 rfl rfl 2 (by decide) hlink rfl d k
theorem g_28_3 (X : Cx p s m args c cc nL own Gw D vwCl (tysT ca) (wlT ad ca) A N0) (hlink : Cond.fieldLink own idx "TeleStack$Received" "sums" "[I" ∈ Gw) (d : decode cc pc = .ok (.getfield idx, 3)) (k : J p l e R s m args below meth c D vwCl (wlT ad ca) A nL cells slots Q (pc + 3) loc (.ref (ad 32) :: rest) σ) : J p l e R s m args below meth c D vwCl (wlT ad ca) A nL cells slots Q pc loc (.ref (ad 28) :: rest) σ := j_get X uw_Rc 28 rfl rfl 3 (by decide) hlink rfl d k
theorem g_28_4 (X : Cx p s m args c cc nL own Gw D vwCl (tysT ca) (wlT ad ca) A N0) (hlink : Cond.fieldLink own idx "TeleStack$Received" "size" "I" ∈ Gw) {v : Int32} (hv : σ 28 4 = v) (d : decode cc pc = .ok (.getfield idx, 3)) (k : J p l e R s m args below meth c D vwCl (wlT ad ca) A nL cells slots Q (pc + 3) loc (.int v :: rest) σ) : J p l e R s m args below meth c D vwCl (wlT ad ca) A nL cells slots Q pc loc (.ref (ad 28) :: rest) σ := by subst hv; exact j_get X uw_Rc 28 rfl rfl 4 (by decide) hlink rfl d k
theorem p_28_4 (X : Cx p s m args c cc nL own Gw D vwCl (tysT ca) (wlT ad ca) A N0) (hlink : Cond.fieldLink own idx "TeleStack$Received" "size" "I" ∈ Gw) {x : Int32} (d : decode cc pc = .ok (.putfield idx, 3)) (k : J p l e R s m args below meth c D vwCl (wlT ad ca) A nL cells slots Q (pc + 3) loc rest (jup σ 28 4 x)) : J p l e R s m args below meth c D vwCl (wlT ad ca) A nL cells slots Q pc loc (.int x :: .ref (ad 28) :: rest) σ := j_put (ty := .int) X uw_Rc Fy_Rc ty_Rc nm_Rc 28 rfl rfl 4 (by decide) hlink rfl (by decide +kernel) rfl rfl (by show 4 < 5; decide) rfl d k
theorem ld_29 (X : Cx p s m args c cc nL own Gw D vwCl (tysT ca) (wlT ad ca) A N0) {i v : Int32} (hin : vp_in i 40) (hv : σ 29 i.toNatClampNeg = v) (d : decode cc pc = .ok (.iaload, 1)) (k : J p l e R s m args below meth c D vwCl (wlT ad ca) A nL cells slots Q (pc + 1) loc (.int v :: rest) σ) : J p l e R s m args below meth c D vwCl (wlT ad ca) A nL cells slots Q pc loc (.int i :: .ref (ad 29) :: rest) σ := by subst hv; exact j_iald X 29 17 rfl rfl hin d k
theorem sr_29 (X : Cx p s m args c cc nL own Gw D vwCl (tysT ca) (wlT ad ca) A N0) {i x : Int32} (hin : vp_in i 40) (d : decode cc pc = .ok (.iastore, 1)) (k : J p l e R s m args below meth c D vwCl (wlT ad ca) A nL cells slots Q (pc + 1) loc rest (jup σ 29 i.toNatClampNeg x)) : J p l e R s m args below meth c D vwCl (wlT ad ca) A nL cells slots Q pc loc (.int x :: .int i :: .ref (ad 29) :: rest) σ := j_iast X 29 17 rfl rfl hin rfl d k
theorem ld_30 (X : Cx p s m args c cc nL own Gw D vwCl (tysT ca) (wlT ad ca) A N0) {i v : Int32} (hin : vp_in i 40) (hv : σ 30 i.toNatClampNeg = v) (d : decode cc pc = .ok (.iaload, 1)) (k : J p l e R s m args below meth c D vwCl (wlT ad ca) A nL cells slots Q (pc + 1) loc (.int v :: rest) σ) : J p l e R s m args below meth c D vwCl (wlT ad ca) A nL cells slots Q pc loc (.int i :: .ref (ad 30) :: rest) σ := by subst hv; exact j_iald X 30 18 rfl rfl hin d k
theorem sr_30 (X : Cx p s m args c cc nL own Gw D vwCl (tysT ca) (wlT ad ca) A N0) {i x : Int32} (hin : vp_in i 40) (d : decode cc pc = .ok (.iastore, 1)) (k : J p l e R s m args below meth c D vwCl (wlT ad ca) A nL cells slots Q (pc + 1) loc rest (jup σ 30 i.toNatClampNeg x)) : J p l e R s m args below meth c D vwCl (wlT ad ca) A nL cells slots Q pc loc (.int x :: .int i :: .ref (ad 30) :: rest) σ := j_iast X 30 18 rfl rfl hin rfl d k
theorem ld_31 (X : Cx p s m args c cc nL own Gw D vwCl (tysT ca) (wlT ad ca) A N0) {i v : Int32} (hin : vp_in i 40) (hv : σ 31 i.toNatClampNeg = v) (d : decode cc pc = .ok (.iaload, 1)) (k : J p l e R s m args below meth c D vwCl (wlT ad ca) A nL cells slots Q (pc + 1) loc (.int v :: rest) σ) : J p l e R s m args below meth c D vwCl (wlT ad ca) A nL cells slots Q pc loc (.int i :: .ref (ad 31) :: rest) σ := by subst hv; exact j_iald X 31 19 rfl rfl hin d k
theorem sr_31 (X : Cx p s m args c cc nL own Gw D vwCl (tysT ca) (wlT ad ca) A N0) {i x : Int32} (hin : vp_in i 40) (d : decode cc pc = .ok (.iastore, 1)) (k : J p l e R s m args below meth c D vwCl (wlT ad ca) A nL cells slots Q (pc + 1) loc rest (jup σ 31 i.toNatClampNeg x)) : J p l e R s m args below meth c D vwCl (wlT ad ca) A nL cells slots Q pc loc (.int x :: .int i :: .ref (ad 31) :: rest) σ := j_iast X 31 19 rfl rfl hin rfl d k
theorem ld_32 (X : Cx p s m args c cc nL own Gw D vwCl (tysT ca) (wlT ad ca) A N0) {i v : Int32} (hin : vp_in i 40) (hv : σ 32 i.toNatClampNeg = v) (d : decode cc pc = .ok (.iaload, 1)) (k : J p l e R s m args below meth c D vwCl (wlT ad ca) A nL cells slots Q (pc + 1) loc (.int v :: rest) σ) : J p l e R s m args below meth c D vwCl (wlT ad ca) A nL cells slots Q pc loc (.int i :: .ref (ad 32) :: rest) σ := by subst hv; exact j_iald X 32 20 rfl rfl hin d k
theorem sr_32 (X : Cx p s m args c cc nL own Gw D vwCl (tysT ca) (wlT ad ca) A N0) {i x : Int32} (hin : vp_in i 40) (d : decode cc pc = .ok (.iastore, 1)) (k : J p l e R s m args below meth c D vwCl (wlT ad ca) A nL cells slots Q (pc + 1) loc rest (jup σ 32 i.toNatClampNeg x)) : J p l e R s m args below meth c D vwCl (wlT ad ca) A nL cells slots Q pc loc (.int x :: .int i :: .ref (ad 32) :: rest) σ := j_iast X 32 20 rfl rfl hin rfl d k
theorem g_33_0 (X : Cx p s m args c cc nL own Gw D vwCl (tysT ca) (wlT ad ca) A N0) (hlink : Cond.fieldLink own idx "TeleStackModel" "thrown" "I" ∈ Gw) {v : Int32} (hv : σ 33 0 = v) (d : decode cc pc = .ok (.getfield idx, 3)) (k : J p l e R s m args below meth c D vwCl (wlT ad ca) A nL cells slots Q (pc + 3) loc (.int v :: rest) σ) : J p l e R s m args below meth c D vwCl (wlT ad ca) A nL cells slots Q pc loc (.ref (ad 33) :: rest) σ := by subst hv; exact j_get X uw_M 33 rfl rfl 0 (by decide) hlink rfl d k
theorem p_33_0 (X : Cx p s m args c cc nL own Gw D vwCl (tysT ca) (wlT ad ca) A N0) (hlink : Cond.fieldLink own idx "TeleStackModel" "thrown" "I" ∈ Gw) {x : Int32} (d : decode cc pc = .ok (.putfield idx, 3)) (k : J p l e R s m args below meth c D vwCl (wlT ad ca) A nL cells slots Q (pc + 3) loc rest (jup σ 33 0 x)) : J p l e R s m args below meth c D vwCl (wlT ad ca) A nL cells slots Q pc loc (.int x :: .ref (ad 33) :: rest) σ := j_put (ty := .int) X uw_M Fy_M ty_M nm_M 33 rfl rfl 0 (by decide) hlink rfl (by decide +kernel) rfl rfl (by show 0 < 41; decide) rfl d k
theorem g_33_1 (X : Cx p s m args c cc nL own Gw D vwCl (tysT ca) (wlT ad ca) A N0) (hlink : Cond.fieldLink own idx "TeleStackModel" "mode" "I" ∈ Gw) {v : Int32} (hv : σ 33 1 = v) (d : decode cc pc = .ok (.getfield idx, 3)) (k : J p l e R s m args below meth c D vwCl (wlT ad ca) A nL cells slots Q (pc + 3) loc (.int v :: rest) σ) : J p l e R s m args below meth c D vwCl (wlT ad ca) A nL cells slots Q pc loc (.ref (ad 33) :: rest) σ := by subst hv; exact j_get X uw_M 33 rfl rfl 1 (by decide) hlink rfl d k
theorem p_33_1 (X : Cx p s m args c cc nL own Gw D vwCl (tysT ca) (wlT ad ca) A N0) (hlink : Cond.fieldLink own idx "TeleStackModel" "mode" "I" ∈ Gw) {x : Int32} (d : decode cc pc = .ok (.putfield idx, 3)) (k : J p l e R s m args below meth c D vwCl (wlT ad ca) A nL cells slots Q (pc + 3) loc rest (jup σ 33 1 x)) : J p l e R s m args below meth c D vwCl (wlT ad ca) A nL cells slots Q pc loc (.int x :: .ref (ad 33) :: rest) σ := j_put (ty := .int) X uw_M Fy_M ty_M nm_M 33 rfl rfl 1 (by decide) hlink rfl (by decide +kernel) rfl rfl (by show 1 < 41; decide) rfl d k
theorem g_33_2 (X : Cx p s m args c cc nL own Gw D vwCl (tysT ca) (wlT ad ca) A N0) (hlink : Cond.fieldLink own idx "TeleStackModel" "next" "I" ∈ Gw) {v : Int32} (hv : σ 33 2 = v) (d : decode cc pc = .ok (.getfield idx, 3)) (k : J p l e R s m args below meth c D vwCl (wlT ad ca) A nL cells slots Q (pc + 3) loc (.int v :: rest) σ) : J p l e R s m args below meth c D vwCl (wlT ad ca) A nL cells slots Q pc loc (.ref (ad 33) :: rest) σ := by subst hv; exact j_get X uw_M 33 rfl rfl 2 (by decide) hlink rfl d k
theorem p_33_2 (X : Cx p s m args c cc nL own Gw D vwCl (tysT ca) (wlT ad ca) A N0) (hlink : Cond.fieldLink own idx "TeleStackModel" "next" "I" ∈ Gw) {x : Int32} (d : decode cc pc = .ok (.putfield idx, 3)) (k : J p l e R s m args below meth c D vwCl (wlT ad ca) A nL cells slots Q (pc + 3) loc rest (jup σ 33 2 x)) : J p l e R s m args below meth c D vwCl (wlT ad ca) A nL cells slots Q pc loc (.int x :: .ref (ad 33) :: rest) σ := j_put (ty := .int) X uw_M Fy_M ty_M nm_M 33 rfl rfl 2 (by decide) hlink rfl (by decide +kernel) rfl rfl (by show 2 < 41; decide) rfl d k
theorem g_33_3 (X : Cx p s m args c cc nL own Gw D vwCl (tysT ca) (wlT ad ca) A N0) (hlink : Cond.fieldLink own idx "TeleStackModel" "oldest" "I" ∈ Gw) {v : Int32} (hv : σ 33 3 = v) (d : decode cc pc = .ok (.getfield idx, 3)) (k : J p l e R s m args below meth c D vwCl (wlT ad ca) A nL cells slots Q (pc + 3) loc (.int v :: rest) σ) : J p l e R s m args below meth c D vwCl (wlT ad ca) A nL cells slots Q pc loc (.ref (ad 33) :: rest) σ := by subst hv; exact j_get X uw_M 33 rfl rfl 3 (by decide) hlink rfl d k
theorem p_33_3 (X : Cx p s m args c cc nL own Gw D vwCl (tysT ca) (wlT ad ca) A N0) (hlink : Cond.fieldLink own idx "TeleStackModel" "oldest" "I" ∈ Gw) {x : Int32} (d : decode cc pc = .ok (.putfield idx, 3)) (k : J p l e R s m args below meth c D vwCl (wlT ad ca) A nL cells slots Q (pc + 3) loc rest (jup σ 33 3 x)) : J p l e R s m args below meth c D vwCl (wlT ad ca) A nL cells slots Q pc loc (.int x :: .ref (ad 33) :: rest) σ := j_put (ty := .int) X uw_M Fy_M ty_M nm_M 33 rfl rfl 3 (by decide) hlink rfl (by decide +kernel) rfl rfl (by show 3 < 41; decide) rfl d k
theorem g_33_4 (X : Cx p s m args c cc nL own Gw D vwCl (tysT ca) (wlT ad ca) A N0) (hlink : Cond.fieldLink own idx "TeleStackModel" "tries" "I" ∈ Gw) {v : Int32} (hv : σ 33 4 = v) (d : decode cc pc = .ok (.getfield idx, 3)) (k : J p l e R s m args below meth c D vwCl (wlT ad ca) A nL cells slots Q (pc + 3) loc (.int v :: rest) σ) : J p l e R s m args below meth c D vwCl (wlT ad ca) A nL cells slots Q pc loc (.ref (ad 33) :: rest) σ := by subst hv; exact j_get X uw_M 33 rfl rfl 4 (by decide) hlink rfl d k
theorem p_33_4 (X : Cx p s m args c cc nL own Gw D vwCl (tysT ca) (wlT ad ca) A N0) (hlink : Cond.fieldLink own idx "TeleStackModel" "tries" "I" ∈ Gw) {x : Int32} (d : decode cc pc = .ok (.putfield idx, 3)) (k : J p l e R s m args below meth c D vwCl (wlT ad ca) A nL cells slots Q (pc + 3) loc rest (jup σ 33 4 x)) : J p l e R s m args below meth c D vwCl (wlT ad ca) A nL cells slots Q pc loc (.int x :: .ref (ad 33) :: rest) σ := j_put (ty := .int) X uw_M Fy_M ty_M nm_M 33 rfl rfl 4 (by decide) hlink rfl (by decide +kernel) rfl rfl (by show 4 < 41; decide) rfl d k
theorem g_33_5 (X : Cx p s m args c cc nL own Gw D vwCl (tysT ca) (wlT ad ca) A N0) (hlink : Cond.fieldLink own idx "TeleStackModel" "timer" "I" ∈ Gw) {v : Int32} (hv : σ 33 5 = v) (d : decode cc pc = .ok (.getfield idx, 3)) (k : J p l e R s m args below meth c D vwCl (wlT ad ca) A nL cells slots Q (pc + 3) loc (.int v :: rest) σ) : J p l e R s m args below meth c D vwCl (wlT ad ca) A nL cells slots Q pc loc (.ref (ad 33) :: rest) σ := by subst hv; exact j_get X uw_M 33 rfl rfl 5 (by decide) hlink rfl d k
theorem p_33_5 (X : Cx p s m args c cc nL own Gw D vwCl (tysT ca) (wlT ad ca) A N0) (hlink : Cond.fieldLink own idx "TeleStackModel" "timer" "I" ∈ Gw) {x : Int32} (d : decode cc pc = .ok (.putfield idx, 3)) (k : J p l e R s m args below meth c D vwCl (wlT ad ca) A nL cells slots Q (pc + 3) loc rest (jup σ 33 5 x)) : J p l e R s m args below meth c D vwCl (wlT ad ca) A nL cells slots Q pc loc (.int x :: .ref (ad 33) :: rest) σ := j_put (ty := .int) X uw_M Fy_M ty_M nm_M 33 rfl rfl 5 (by decide) hlink rfl (by decide +kernel) rfl rfl (by show 5 < 41; decide) rfl d k
theorem g_33_6 (X : Cx p s m args c cc nL own Gw D vwCl (tysT ca) (wlT ad ca) A N0) (hlink : Cond.fieldLink own idx "TeleStackModel" "reason" "I" ∈ Gw) {v : Int32} (hv : σ 33 6 = v) (d : decode cc pc = .ok (.getfield idx, 3)) (k : J p l e R s m args below meth c D vwCl (wlT ad ca) A nL cells slots Q (pc + 3) loc (.int v :: rest) σ) : J p l e R s m args below meth c D vwCl (wlT ad ca) A nL cells slots Q pc loc (.ref (ad 33) :: rest) σ := by subst hv; exact j_get X uw_M 33 rfl rfl 6 (by decide) hlink rfl d k
theorem p_33_6 (X : Cx p s m args c cc nL own Gw D vwCl (tysT ca) (wlT ad ca) A N0) (hlink : Cond.fieldLink own idx "TeleStackModel" "reason" "I" ∈ Gw) {x : Int32} (d : decode cc pc = .ok (.putfield idx, 3)) (k : J p l e R s m args below meth c D vwCl (wlT ad ca) A nL cells slots Q (pc + 3) loc rest (jup σ 33 6 x)) : J p l e R s m args below meth c D vwCl (wlT ad ca) A nL cells slots Q pc loc (.int x :: .ref (ad 33) :: rest) σ := j_put (ty := .int) X uw_M Fy_M ty_M nm_M 33 rfl rfl 6 (by decide) hlink rfl (by decide +kernel) rfl rfl (by show 6 < 41; decide) rfl d k
theorem g_33_7 (X : Cx p s m args c cc nL own Gw D vwCl (tysT ca) (wlT ad ca) A N0) (hlink : Cond.fieldLink own idx "TeleStackModel" "window" "I" ∈ Gw) {v : Int32} (hv : σ 33 7 = v) (d : decode cc pc = .ok (.getfield idx, 3)) (k : J p l e R s m args below meth c D vwCl (wlT ad ca) A nL cells slots Q (pc + 3) loc (.int v :: rest) σ) : J p l e R s m args below meth c D vwCl (wlT ad ca) A nL cells slots Q pc loc (.ref (ad 33) :: rest) σ := by subst hv; exact j_get X uw_M 33 rfl rfl 7 (by decide) hlink rfl d k
theorem p_33_7 (X : Cx p s m args c cc nL own Gw D vwCl (tysT ca) (wlT ad ca) A N0) (hlink : Cond.fieldLink own idx "TeleStackModel" "window" "I" ∈ Gw) {x : Int32} (d : decode cc pc = .ok (.putfield idx, 3)) (k : J p l e R s m args below meth c D vwCl (wlT ad ca) A nL cells slots Q (pc + 3) loc rest (jup σ 33 7 x)) : J p l e R s m args below meth c D vwCl (wlT ad ca) A nL cells slots Q pc loc (.int x :: .ref (ad 33) :: rest) σ := j_put (ty := .int) X uw_M Fy_M ty_M nm_M 33 rfl rfl 7 (by decide) hlink rfl (by decide +kernel) rfl rfl (by show 7 < 41; decide) rfl d k
theorem g_33_8 (X : Cx p s m args c cc nL own Gw D vwCl (tysT ca) (wlT ad ca) A N0) (hlink : Cond.fieldLink own idx "TeleStackModel" "limit" "I" ∈ Gw) {v : Int32} (hv : σ 33 8 = v) (d : decode cc pc = .ok (.getfield idx, 3)) (k : J p l e R s m args below meth c D vwCl (wlT ad ca) A nL cells slots Q (pc + 3) loc (.int v :: rest) σ) : J p l e R s m args below meth c D vwCl (wlT ad ca) A nL cells slots Q pc loc (.ref (ad 33) :: rest) σ := by subst hv; exact j_get X uw_M 33 rfl rfl 8 (by decide) hlink rfl d k
theorem p_33_8 (X : Cx p s m args c cc nL own Gw D vwCl (tysT ca) (wlT ad ca) A N0) (hlink : Cond.fieldLink own idx "TeleStackModel" "limit" "I" ∈ Gw) {x : Int32} (d : decode cc pc = .ok (.putfield idx, 3)) (k : J p l e R s m args below meth c D vwCl (wlT ad ca) A nL cells slots Q (pc + 3) loc rest (jup σ 33 8 x)) : J p l e R s m args below meth c D vwCl (wlT ad ca) A nL cells slots Q pc loc (.int x :: .ref (ad 33) :: rest) σ := j_put (ty := .int) X uw_M Fy_M ty_M nm_M 33 rfl rfl 8 (by decide) hlink rfl (by decide +kernel) rfl rfl (by show 8 < 41; decide) rfl d k
theorem g_33_9 (X : Cx p s m args c cc nL own Gw D vwCl (tysT ca) (wlT ad ca) A N0) (hlink : Cond.fieldLink own idx "TeleStackModel" "span" "I" ∈ Gw) {v : Int32} (hv : σ 33 9 = v) (d : decode cc pc = .ok (.getfield idx, 3)) (k : J p l e R s m args below meth c D vwCl (wlT ad ca) A nL cells slots Q (pc + 3) loc (.int v :: rest) σ) : J p l e R s m args below meth c D vwCl (wlT ad ca) A nL cells slots Q pc loc (.ref (ad 33) :: rest) σ := by subst hv; exact j_get X uw_M 33 rfl rfl 9 (by decide) hlink rfl d k
theorem p_33_9 (X : Cx p s m args c cc nL own Gw D vwCl (tysT ca) (wlT ad ca) A N0) (hlink : Cond.fieldLink own idx "TeleStackModel" "span" "I" ∈ Gw) {x : Int32} (d : decode cc pc = .ok (.putfield idx, 3)) (k : J p l e R s m args below meth c D vwCl (wlT ad ca) A nL cells slots Q (pc + 3) loc rest (jup σ 33 9 x)) : J p l e R s m args below meth c D vwCl (wlT ad ca) A nL cells slots Q pc loc (.int x :: .ref (ad 33) :: rest) σ := j_put (ty := .int) X uw_M Fy_M ty_M nm_M 33 rfl rfl 9 (by decide) hlink rfl (by decide +kernel) rfl rfl (by show 9 < 41; decide) rfl d k
theorem g_33_10 (X : Cx p s m args c cc nL own Gw D vwCl (tysT ca) (wlT ad ca) A N0) (hlink : Cond.fieldLink own idx "TeleStackModel" "full" "Z" ∈ Gw) {v : Int32} (hv : σ 33 10 = v) (d : decode cc pc = .ok (.getfield idx, 3)) (k : J p l e R s m args below meth c D vwCl (wlT ad ca) A nL cells slots Q (pc + 3) loc (.int v :: rest) σ) : J p l e R s m args below meth c D vwCl (wlT ad ca) A nL cells slots Q pc loc (.ref (ad 33) :: rest) σ := by subst hv; exact j_get X uw_M 33 rfl rfl 10 (by decide) hlink rfl d k
theorem p_33_10 (X : Cx p s m args c cc nL own Gw D vwCl (tysT ca) (wlT ad ca) A N0) (hlink : Cond.fieldLink own idx "TeleStackModel" "full" "Z" ∈ Gw) {x : Int32} (hn : narrow .boolean (.int x) = .int x) (hf : fits .boolean (.int x) = true) (d : decode cc pc = .ok (.putfield idx, 3)) (k : J p l e R s m args below meth c D vwCl (wlT ad ca) A nL cells slots Q (pc + 3) loc rest (jup σ 33 10 x)) : J p l e R s m args below meth c D vwCl (wlT ad ca) A nL cells slots Q pc loc (.int x :: .ref (ad 33) :: rest) σ := j_put (ty := .boolean) X uw_M Fy_M ty_M nm_M 33 rfl rfl 10 (by decide) hlink rfl (by decide +kernel) hn hf (by show 10 < 41; decide) rfl d k
theorem g_33_11 (X : Cx p s m args c cc nL own Gw D vwCl (tysT ca) (wlT ad ca) A N0) (hlink : Cond.fieldLink own idx "TeleStackModel" "slot" "I" ∈ Gw) {v : Int32} (hv : σ 33 11 = v) (d : decode cc pc = .ok (.getfield idx, 3)) (k : J p l e R s m args below meth c D vwCl (wlT ad ca) A nL cells slots Q (pc + 3) loc (.int v :: rest) σ) : J p l e R s m args below meth c D vwCl (wlT ad ca) A nL cells slots Q pc loc (.ref (ad 33) :: rest) σ := by subst hv; exact j_get X uw_M 33 rfl rfl 11 (by decide) hlink rfl d k
theorem p_33_11 (X : Cx p s m args c cc nL own Gw D vwCl (tysT ca) (wlT ad ca) A N0) (hlink : Cond.fieldLink own idx "TeleStackModel" "slot" "I" ∈ Gw) {x : Int32} (d : decode cc pc = .ok (.putfield idx, 3)) (k : J p l e R s m args below meth c D vwCl (wlT ad ca) A nL cells slots Q (pc + 3) loc rest (jup σ 33 11 x)) : J p l e R s m args below meth c D vwCl (wlT ad ca) A nL cells slots Q pc loc (.int x :: .ref (ad 33) :: rest) σ := j_put (ty := .int) X uw_M Fy_M ty_M nm_M 33 rfl rfl 11 (by decide) hlink rfl (by decide +kernel) rfl rfl (by show 11 < 41; decide) rfl d k
theorem g_33_12 (X : Cx p s m args c cc nL own Gw D vwCl (tysT ca) (wlT ad ca) A N0) (hlink : Cond.fieldLink own idx "TeleStackModel" "due" "Z" ∈ Gw) {v : Int32} (hv : σ 33 12 = v) (d : decode cc pc = .ok (.getfield idx, 3)) (k : J p l e R s m args below meth c D vwCl (wlT ad ca) A nL cells slots Q (pc + 3) loc (.int v :: rest) σ) : J p l e R s m args below meth c D vwCl (wlT ad ca) A nL cells slots Q pc loc (.ref (ad 33) :: rest) σ := by subst hv; exact j_get X uw_M 33 rfl rfl 12 (by decide) hlink rfl d k
theorem p_33_12 (X : Cx p s m args c cc nL own Gw D vwCl (tysT ca) (wlT ad ca) A N0) (hlink : Cond.fieldLink own idx "TeleStackModel" "due" "Z" ∈ Gw) {x : Int32} (hn : narrow .boolean (.int x) = .int x) (hf : fits .boolean (.int x) = true) (d : decode cc pc = .ok (.putfield idx, 3)) (k : J p l e R s m args below meth c D vwCl (wlT ad ca) A nL cells slots Q (pc + 3) loc rest (jup σ 33 12 x)) : J p l e R s m args below meth c D vwCl (wlT ad ca) A nL cells slots Q pc loc (.int x :: .ref (ad 33) :: rest) σ := j_put (ty := .boolean) X uw_M Fy_M ty_M nm_M 33 rfl rfl 12 (by decide) hlink rfl (by decide +kernel) hn hf (by show 12 < 41; decide) rfl d k
theorem g_33_13 (X : Cx p s m args c cc nL own Gw D vwCl (tysT ca) (wlT ad ca) A N0) (hlink : Cond.fieldLink own idx "TeleStackModel" "begins" "I" ∈ Gw) {v : Int32} (hv : σ 33 13 = v) (d : decode cc pc = .ok (.getfield idx, 3)) (k : J p l e R s m args below meth c D vwCl (wlT ad ca) A nL cells slots Q (pc + 3) loc (.int v :: rest) σ) : J p l e R s m args below meth c D vwCl (wlT ad ca) A nL cells slots Q pc loc (.ref (ad 33) :: rest) σ := by subst hv; exact j_get X uw_M 33 rfl rfl 13 (by decide) hlink rfl d k
theorem p_33_13 (X : Cx p s m args c cc nL own Gw D vwCl (tysT ca) (wlT ad ca) A N0) (hlink : Cond.fieldLink own idx "TeleStackModel" "begins" "I" ∈ Gw) {x : Int32} (d : decode cc pc = .ok (.putfield idx, 3)) (k : J p l e R s m args below meth c D vwCl (wlT ad ca) A nL cells slots Q (pc + 3) loc rest (jup σ 33 13 x)) : J p l e R s m args below meth c D vwCl (wlT ad ca) A nL cells slots Q pc loc (.int x :: .ref (ad 33) :: rest) σ := j_put (ty := .int) X uw_M Fy_M ty_M nm_M 33 rfl rfl 13 (by decide) hlink rfl (by decide +kernel) rfl rfl (by show 13 < 41; decide) rfl d k
theorem g_33_14 (X : Cx p s m args c cc nL own Gw D vwCl (tysT ca) (wlT ad ca) A N0) (hlink : Cond.fieldLink own idx "TeleStackModel" "open" "I" ∈ Gw) {v : Int32} (hv : σ 33 14 = v) (d : decode cc pc = .ok (.getfield idx, 3)) (k : J p l e R s m args below meth c D vwCl (wlT ad ca) A nL cells slots Q (pc + 3) loc (.int v :: rest) σ) : J p l e R s m args below meth c D vwCl (wlT ad ca) A nL cells slots Q pc loc (.ref (ad 33) :: rest) σ := by subst hv; exact j_get X uw_M 33 rfl rfl 14 (by decide) hlink rfl d k
theorem p_33_14 (X : Cx p s m args c cc nL own Gw D vwCl (tysT ca) (wlT ad ca) A N0) (hlink : Cond.fieldLink own idx "TeleStackModel" "open" "I" ∈ Gw) {x : Int32} (d : decode cc pc = .ok (.putfield idx, 3)) (k : J p l e R s m args below meth c D vwCl (wlT ad ca) A nL cells slots Q (pc + 3) loc rest (jup σ 33 14 x)) : J p l e R s m args below meth c D vwCl (wlT ad ca) A nL cells slots Q pc loc (.int x :: .ref (ad 33) :: rest) σ := j_put (ty := .int) X uw_M Fy_M ty_M nm_M 33 rfl rfl 14 (by decide) hlink rfl (by decide +kernel) rfl rfl (by show 14 < 41; decide) rfl d k
theorem g_33_15 (X : Cx p s m args c cc nL own Gw D vwCl (tysT ca) (wlT ad ca) A N0) (hlink : Cond.fieldLink own idx "TeleStackModel" "commands" "[I" ∈ Gw) (d : decode cc pc = .ok (.getfield idx, 3)) (k : J p l e R s m args below meth c D vwCl (wlT ad ca) A nL cells slots Q (pc + 3) loc (.ref (ad 34) :: rest) σ) : J p l e R s m args below meth c D vwCl (wlT ad ca) A nL cells slots Q pc loc (.ref (ad 33) :: rest) σ := j_get X uw_M 33 rfl rfl 15 (by decide) hlink rfl d k
theorem g_33_16 (X : Cx p s m args c cc nL own Gw D vwCl (tysT ca) (wlT ad ca) A N0) (hlink : Cond.fieldLink own idx "TeleStackModel" "marked" "[Z" ∈ Gw) (d : decode cc pc = .ok (.getfield idx, 3)) (k : J p l e R s m args below meth c D vwCl (wlT ad ca) A nL cells slots Q (pc + 3) loc (.ref (ad 35) :: rest) σ) : J p l e R s m args below meth c D vwCl (wlT ad ca) A nL cells slots Q pc loc (.ref (ad 33) :: rest) σ := j_get X uw_M 33 rfl rfl 16 (by decide) hlink rfl d k
theorem g_33_17 (X : Cx p s m args c cc nL own Gw D vwCl (tysT ca) (wlT ad ca) A N0) (hlink : Cond.fieldLink own idx "TeleStackModel" "flights" "I" ∈ Gw) {v : Int32} (hv : σ 33 17 = v) (d : decode cc pc = .ok (.getfield idx, 3)) (k : J p l e R s m args below meth c D vwCl (wlT ad ca) A nL cells slots Q (pc + 3) loc (.int v :: rest) σ) : J p l e R s m args below meth c D vwCl (wlT ad ca) A nL cells slots Q pc loc (.ref (ad 33) :: rest) σ := by subst hv; exact j_get X uw_M 33 rfl rfl 17 (by decide) hlink rfl d k
theorem p_33_17 (X : Cx p s m args c cc nL own Gw D vwCl (tysT ca) (wlT ad ca) A N0) (hlink : Cond.fieldLink own idx "TeleStackModel" "flights" "I" ∈ Gw) {x : Int32} (d : decode cc pc = .ok (.putfield idx, 3)) (k : J p l e R s m args below meth c D vwCl (wlT ad ca) A nL cells slots Q (pc + 3) loc rest (jup σ 33 17 x)) : J p l e R s m args below meth c D vwCl (wlT ad ca) A nL cells slots Q pc loc (.int x :: .ref (ad 33) :: rest) σ := j_put (ty := .int) X uw_M Fy_M ty_M nm_M 33 rfl rfl 17 (by decide) hlink rfl (by decide +kernel) rfl rfl (by show 17 < 41; decide) rfl d k
theorem g_33_18 (X : Cx p s m args c cc nL own Gw D vwCl (tysT ca) (wlT ad ca) A N0) (hlink : Cond.fieldLink own idx "TeleStackModel" "kind" "[I" ∈ Gw) (d : decode cc pc = .ok (.getfield idx, 3)) (k : J p l e R s m args below meth c D vwCl (wlT ad ca) A nL cells slots Q (pc + 3) loc (.ref (ad 36) :: rest) σ) : J p l e R s m args below meth c D vwCl (wlT ad ca) A nL cells slots Q pc loc (.ref (ad 33) :: rest) σ := j_get X uw_M 33 rfl rfl 18 (by decide) hlink rfl d k
theorem g_33_19 (X : Cx p s m args c cc nL own Gw D vwCl (tysT ca) (wlT ad ca) A N0) (hlink : Cond.fieldLink own idx "TeleStackModel" "number" "[I" ∈ Gw) (d : decode cc pc = .ok (.getfield idx, 3)) (k : J p l e R s m args below meth c D vwCl (wlT ad ca) A nL cells slots Q (pc + 3) loc (.ref (ad 37) :: rest) σ) : J p l e R s m args below meth c D vwCl (wlT ad ca) A nL cells slots Q pc loc (.ref (ad 33) :: rest) σ := j_get X uw_M 33 rfl rfl 19 (by decide) hlink rfl d k
theorem g_33_20 (X : Cx p s m args c cc nL own Gw D vwCl (tysT ca) (wlT ad ca) A N0) (hlink : Cond.fieldLink own idx "TeleStackModel" "word" "[I" ∈ Gw) (d : decode cc pc = .ok (.getfield idx, 3)) (k : J p l e R s m args below meth c D vwCl (wlT ad ca) A nL cells slots Q (pc + 3) loc (.ref (ad 38) :: rest) σ) : J p l e R s m args below meth c D vwCl (wlT ad ca) A nL cells slots Q pc loc (.ref (ad 33) :: rest) σ := j_get X uw_M 33 rfl rfl 20 (by decide) hlink rfl d k
theorem g_33_21 (X : Cx p s m args c cc nL own Gw D vwCl (tysT ca) (wlT ad ca) A N0) (hlink : Cond.fieldLink own idx "TeleStackModel" "gate" "I" ∈ Gw) {v : Int32} (hv : σ 33 21 = v) (d : decode cc pc = .ok (.getfield idx, 3)) (k : J p l e R s m args below meth c D vwCl (wlT ad ca) A nL cells slots Q (pc + 3) loc (.int v :: rest) σ) : J p l e R s m args below meth c D vwCl (wlT ad ca) A nL cells slots Q pc loc (.ref (ad 33) :: rest) σ := by subst hv; exact j_get X uw_M 33 rfl rfl 21 (by decide) hlink rfl d k
theorem p_33_21 (X : Cx p s m args c cc nL own Gw D vwCl (tysT ca) (wlT ad ca) A N0) (hlink : Cond.fieldLink own idx "TeleStackModel" "gate" "I" ∈ Gw) {x : Int32} (d : decode cc pc = .ok (.putfield idx, 3)) (k : J p l e R s m args below meth c D vwCl (wlT ad ca) A nL cells slots Q (pc + 3) loc rest (jup σ 33 21 x)) : J p l e R s m args below meth c D vwCl (wlT ad ca) A nL cells slots Q pc loc (.int x :: .ref (ad 33) :: rest) σ := j_put (ty := .int) X uw_M Fy_M ty_M nm_M 33 rfl rfl 21 (by decide) hlink rfl (by decide +kernel) rfl rfl (by show 21 < 41; decide) rfl d k
theorem g_33_22 (X : Cx p s m args c cc nL own Gw D vwCl (tysT ca) (wlT ad ca) A N0) (hlink : Cond.fieldLink own idx "TeleStackModel" "expected" "I" ∈ Gw) {v : Int32} (hv : σ 33 22 = v) (d : decode cc pc = .ok (.getfield idx, 3)) (k : J p l e R s m args below meth c D vwCl (wlT ad ca) A nL cells slots Q (pc + 3) loc (.int v :: rest) σ) : J p l e R s m args below meth c D vwCl (wlT ad ca) A nL cells slots Q pc loc (.ref (ad 33) :: rest) σ := by subst hv; exact j_get X uw_M 33 rfl rfl 22 (by decide) hlink rfl d k
theorem p_33_22 (X : Cx p s m args c cc nL own Gw D vwCl (tysT ca) (wlT ad ca) A N0) (hlink : Cond.fieldLink own idx "TeleStackModel" "expected" "I" ∈ Gw) {x : Int32} (d : decode cc pc = .ok (.putfield idx, 3)) (k : J p l e R s m args below meth c D vwCl (wlT ad ca) A nL cells slots Q (pc + 3) loc rest (jup σ 33 22 x)) : J p l e R s m args below meth c D vwCl (wlT ad ca) A nL cells slots Q pc loc (.int x :: .ref (ad 33) :: rest) σ := j_put (ty := .int) X uw_M Fy_M ty_M nm_M 33 rfl rfl 22 (by decide) hlink rfl (by decide +kernel) rfl rfl (by show 22 < 41; decide) rfl d k
theorem g_33_23 (X : Cx p s m args c cc nL own Gw D vwCl (tysT ca) (wlT ad ca) A N0) (hlink : Cond.fieldLink own idx "TeleStackModel" "again" "Z" ∈ Gw) {v : Int32} (hv : σ 33 23 = v) (d : decode cc pc = .ok (.getfield idx, 3)) (k : J p l e R s m args below meth c D vwCl (wlT ad ca) A nL cells slots Q (pc + 3) loc (.int v :: rest) σ) : J p l e R s m args below meth c D vwCl (wlT ad ca) A nL cells slots Q pc loc (.ref (ad 33) :: rest) σ := by subst hv; exact j_get X uw_M 33 rfl rfl 23 (by decide) hlink rfl d k
theorem p_33_23 (X : Cx p s m args c cc nL own Gw D vwCl (tysT ca) (wlT ad ca) A N0) (hlink : Cond.fieldLink own idx "TeleStackModel" "again" "Z" ∈ Gw) {x : Int32} (hn : narrow .boolean (.int x) = .int x) (hf : fits .boolean (.int x) = true) (d : decode cc pc = .ok (.putfield idx, 3)) (k : J p l e R s m args below meth c D vwCl (wlT ad ca) A nL cells slots Q (pc + 3) loc rest (jup σ 33 23 x)) : J p l e R s m args below meth c D vwCl (wlT ad ca) A nL cells slots Q pc loc (.int x :: .ref (ad 33) :: rest) σ := j_put (ty := .boolean) X uw_M Fy_M ty_M nm_M 33 rfl rfl 23 (by decide) hlink rfl (by decide +kernel) hn hf (by show 23 < 41; decide) rfl d k
theorem g_33_24 (X : Cx p s m args c cc nL own Gw D vwCl (tysT ca) (wlT ad ca) A N0) (hlink : Cond.fieldLink own idx "TeleStackModel" "queued" "I" ∈ Gw) {v : Int32} (hv : σ 33 24 = v) (d : decode cc pc = .ok (.getfield idx, 3)) (k : J p l e R s m args below meth c D vwCl (wlT ad ca) A nL cells slots Q (pc + 3) loc (.int v :: rest) σ) : J p l e R s m args below meth c D vwCl (wlT ad ca) A nL cells slots Q pc loc (.ref (ad 33) :: rest) σ := by subst hv; exact j_get X uw_M 33 rfl rfl 24 (by decide) hlink rfl d k
theorem p_33_24 (X : Cx p s m args c cc nL own Gw D vwCl (tysT ca) (wlT ad ca) A N0) (hlink : Cond.fieldLink own idx "TeleStackModel" "queued" "I" ∈ Gw) {x : Int32} (d : decode cc pc = .ok (.putfield idx, 3)) (k : J p l e R s m args below meth c D vwCl (wlT ad ca) A nL cells slots Q (pc + 3) loc rest (jup σ 33 24 x)) : J p l e R s m args below meth c D vwCl (wlT ad ca) A nL cells slots Q pc loc (.int x :: .ref (ad 33) :: rest) σ := j_put (ty := .int) X uw_M Fy_M ty_M nm_M 33 rfl rfl 24 (by decide) hlink rfl (by decide +kernel) rfl rfl (by show 24 < 41; decide) rfl d k
theorem g_33_25 (X : Cx p s m args c cc nL own Gw D vwCl (tysT ca) (wlT ad ca) A N0) (hlink : Cond.fieldLink own idx "TeleStackModel" "queue" "[I" ∈ Gw) (d : decode cc pc = .ok (.getfield idx, 3)) (k : J p l e R s m args below meth c D vwCl (wlT ad ca) A nL cells slots Q (pc + 3) loc (.ref (ad 39) :: rest) σ) : J p l e R s m args below meth c D vwCl (wlT ad ca) A nL cells slots Q pc loc (.ref (ad 33) :: rest) σ := j_get X uw_M 33 rfl rfl 25 (by decide) hlink rfl d k
theorem g_33_26 (X : Cx p s m args c cc nL own Gw D vwCl (tysT ca) (wlT ad ca) A N0) (hlink : Cond.fieldLink own idx "TeleStackModel" "reports" "I" ∈ Gw) {v : Int32} (hv : σ 33 26 = v) (d : decode cc pc = .ok (.getfield idx, 3)) (k : J p l e R s m args below meth c D vwCl (wlT ad ca) A nL cells slots Q (pc + 3) loc (.int v :: rest) σ) : J p l e R s m args below meth c D vwCl (wlT ad ca) A nL cells slots Q pc loc (.ref (ad 33) :: rest) σ := by subst hv; exact j_get X uw_M 33 rfl rfl 26 (by decide) hlink rfl d k
theorem p_33_26 (X : Cx p s m args c cc nL own Gw D vwCl (tysT ca) (wlT ad ca) A N0) (hlink : Cond.fieldLink own idx "TeleStackModel" "reports" "I" ∈ Gw) {x : Int32} (d : decode cc pc = .ok (.putfield idx, 3)) (k : J p l e R s m args below meth c D vwCl (wlT ad ca) A nL cells slots Q (pc + 3) loc rest (jup σ 33 26 x)) : J p l e R s m args below meth c D vwCl (wlT ad ca) A nL cells slots Q pc loc (.int x :: .ref (ad 33) :: rest) σ := j_put (ty := .int) X uw_M Fy_M ty_M nm_M 33 rfl rfl 26 (by decide) hlink rfl (by decide +kernel) rfl rfl (by show 26 < 41; decide) rfl d k
theorem g_33_27 (X : Cx p s m args c cc nL own Gw D vwCl (tysT ca) (wlT ad ca) A N0) (hlink : Cond.fieldLink own idx "TeleStackModel" "report" "[I" ∈ Gw) (d : decode cc pc = .ok (.getfield idx, 3)) (k : J p l e R s m args below meth c D vwCl (wlT ad ca) A nL cells slots Q (pc + 3) loc (.ref (ad 40) :: rest) σ) : J p l e R s m args below meth c D vwCl (wlT ad ca) A nL cells slots Q pc loc (.ref (ad 33) :: rest) σ := j_get X uw_M 33 rfl rfl 27 (by decide) hlink rfl d k
theorem g_33_28 (X : Cx p s m args c cc nL own Gw D vwCl (tysT ca) (wlT ad ca) A N0) (hlink : Cond.fieldLink own idx "TeleStackModel" "from" "[I" ∈ Gw) (d : decode cc pc = .ok (.getfield idx, 3)) (k : J p l e R s m args below meth c D vwCl (wlT ad ca) A nL cells slots Q (pc + 3) loc (.ref (ad 41) :: rest) σ) : J p l e R s m args below meth c D vwCl (wlT ad ca) A nL cells slots Q pc loc (.ref (ad 33) :: rest) σ := j_get X uw_M 33 rfl rfl 28 (by decide) hlink rfl d k
theorem g_33_29 (X : Cx p s m args c cc nL own Gw D vwCl (tysT ca) (wlT ad ca) A N0) (hlink : Cond.fieldLink own idx "TeleStackModel" "cells" "[I" ∈ Gw) (d : decode cc pc = .ok (.getfield idx, 3)) (k : J p l e R s m args below meth c D vwCl (wlT ad ca) A nL cells slots Q (pc + 3) loc (.ref (ad 42) :: rest) σ) : J p l e R s m args below meth c D vwCl (wlT ad ca) A nL cells slots Q pc loc (.ref (ad 33) :: rest) σ := j_get X uw_M 33 rfl rfl 29 (by decide) hlink rfl d k
theorem g_33_30 (X : Cx p s m args c cc nL own Gw D vwCl (tysT ca) (wlT ad ca) A N0) (hlink : Cond.fieldLink own idx "TeleStackModel" "stream" "[I" ∈ Gw) (d : decode cc pc = .ok (.getfield idx, 3)) (k : J p l e R s m args below meth c D vwCl (wlT ad ca) A nL cells slots Q (pc + 3) loc (.ref (ad 43) :: rest) σ) : J p l e R s m args below meth c D vwCl (wlT ad ca) A nL cells slots Q pc loc (.ref (ad 33) :: rest) σ := j_get X uw_M 33 rfl rfl 30 (by decide) hlink rfl d k
theorem g_33_31 (X : Cx p s m args c cc nL own Gw D vwCl (tysT ca) (wlT ad ca) A N0) (hlink : Cond.fieldLink own idx "TeleStackModel" "made" "[I" ∈ Gw) (d : decode cc pc = .ok (.getfield idx, 3)) (k : J p l e R s m args below meth c D vwCl (wlT ad ca) A nL cells slots Q (pc + 3) loc (.ref (ad 44) :: rest) σ) : J p l e R s m args below meth c D vwCl (wlT ad ca) A nL cells slots Q pc loc (.ref (ad 33) :: rest) σ := j_get X uw_M 33 rfl rfl 31 (by decide) hlink rfl d k
theorem g_33_32 (X : Cx p s m args c cc nL own Gw D vwCl (tysT ca) (wlT ad ca) A N0) (hlink : Cond.fieldLink own idx "TeleStackModel" "awaits" "[I" ∈ Gw) (d : decode cc pc = .ok (.getfield idx, 3)) (k : J p l e R s m args below meth c D vwCl (wlT ad ca) A nL cells slots Q (pc + 3) loc (.ref (ad 45) :: rest) σ) : J p l e R s m args below meth c D vwCl (wlT ad ca) A nL cells slots Q pc loc (.ref (ad 33) :: rest) σ := j_get X uw_M 33 rfl rfl 32 (by decide) hlink rfl d k
theorem g_33_33 (X : Cx p s m args c cc nL own Gw D vwCl (tysT ca) (wlT ad ca) A N0) (hlink : Cond.fieldLink own idx "TeleStackModel" "lostStep" "[Z" ∈ Gw) (d : decode cc pc = .ok (.getfield idx, 3)) (k : J p l e R s m args below meth c D vwCl (wlT ad ca) A nL cells slots Q (pc + 3) loc (.ref (ad 46) :: rest) σ) : J p l e R s m args below meth c D vwCl (wlT ad ca) A nL cells slots Q pc loc (.ref (ad 33) :: rest) σ := j_get X uw_M 33 rfl rfl 33 (by decide) hlink rfl d k
theorem g_33_34 (X : Cx p s m args c cc nL own Gw D vwCl (tysT ca) (wlT ad ca) A N0) (hlink : Cond.fieldLink own idx "TeleStackModel" "has" "[I" ∈ Gw) (d : decode cc pc = .ok (.getfield idx, 3)) (k : J p l e R s m args below meth c D vwCl (wlT ad ca) A nL cells slots Q (pc + 3) loc (.ref (ad 47) :: rest) σ) : J p l e R s m args below meth c D vwCl (wlT ad ca) A nL cells slots Q pc loc (.ref (ad 33) :: rest) σ := j_get X uw_M 33 rfl rfl 34 (by decide) hlink rfl d k
theorem g_33_35 (X : Cx p s m args c cc nL own Gw D vwCl (tysT ca) (wlT ad ca) A N0) (hlink : Cond.fieldLink own idx "TeleStackModel" "tag" "[I" ∈ Gw) (d : decode cc pc = .ok (.getfield idx, 3)) (k : J p l e R s m args below meth c D vwCl (wlT ad ca) A nL cells slots Q (pc + 3) loc (.ref (ad 48) :: rest) σ) : J p l e R s m args below meth c D vwCl (wlT ad ca) A nL cells slots Q pc loc (.ref (ad 33) :: rest) σ := j_get X uw_M 33 rfl rfl 35 (by decide) hlink rfl d k
theorem g_33_36 (X : Cx p s m args c cc nL own Gw D vwCl (tysT ca) (wlT ad ca) A N0) (hlink : Cond.fieldLink own idx "TeleStackModel" "size" "[I" ∈ Gw) (d : decode cc pc = .ok (.getfield idx, 3)) (k : J p l e R s m args below meth c D vwCl (wlT ad ca) A nL cells slots Q (pc + 3) loc (.ref (ad 49) :: rest) σ) : J p l e R s m args below meth c D vwCl (wlT ad ca) A nL cells slots Q pc loc (.ref (ad 33) :: rest) σ := j_get X uw_M 33 rfl rfl 36 (by decide) hlink rfl d k
theorem g_33_37 (X : Cx p s m args c cc nL own Gw D vwCl (tysT ca) (wlT ad ca) A N0) (hlink : Cond.fieldLink own idx "TeleStackModel" "sum" "[I" ∈ Gw) (d : decode cc pc = .ok (.getfield idx, 3)) (k : J p l e R s m args below meth c D vwCl (wlT ad ca) A nL cells slots Q (pc + 3) loc (.ref (ad 50) :: rest) σ) : J p l e R s m args below meth c D vwCl (wlT ad ca) A nL cells slots Q pc loc (.ref (ad 33) :: rest) σ := j_get X uw_M 33 rfl rfl 37 (by decide) hlink rfl d k
theorem g_33_38 (X : Cx p s m args c cc nL own Gw D vwCl (tysT ca) (wlT ad ca) A N0) (hlink : Cond.fieldLink own idx "TeleStackModel" "frame" "[I" ∈ Gw) (d : decode cc pc = .ok (.getfield idx, 3)) (k : J p l e R s m args below meth c D vwCl (wlT ad ca) A nL cells slots Q (pc + 3) loc (.ref (ad 51) :: rest) σ) : J p l e R s m args below meth c D vwCl (wlT ad ca) A nL cells slots Q pc loc (.ref (ad 33) :: rest) σ := j_get X uw_M 33 rfl rfl 38 (by decide) hlink rfl d k
theorem g_33_39 (X : Cx p s m args c cc nL own Gw D vwCl (tysT ca) (wlT ad ca) A N0) (hlink : Cond.fieldLink own idx "TeleStackModel" "packets" "I" ∈ Gw) {v : Int32} (hv : σ 33 39 = v) (d : decode cc pc = .ok (.getfield idx, 3)) (k : J p l e R s m args below meth c D vwCl (wlT ad ca) A nL cells slots Q (pc + 3) loc (.int v :: rest) σ) : J p l e R s m args below meth c D vwCl (wlT ad ca) A nL cells slots Q pc loc (.ref (ad 33) :: rest) σ := by subst hv; exact j_get X uw_M 33 rfl rfl 39 (by decide) hlink rfl d k
theorem p_33_39 (X : Cx p s m args c cc nL own Gw D vwCl (tysT ca) (wlT ad ca) A N0) (hlink : Cond.fieldLink own idx "TeleStackModel" "packets" "I" ∈ Gw) {x : Int32} (d : decode cc pc = .ok (.putfield idx, 3)) (k : J p l e R s m args below meth c D vwCl (wlT ad ca) A nL cells slots Q (pc + 3) loc rest (jup σ 33 39 x)) : J p l e R s m args below meth c D vwCl (wlT ad ca) A nL cells slots Q pc loc (.int x :: .ref (ad 33) :: rest) σ := j_put (ty := .int) X uw_M Fy_M ty_M nm_M 33 rfl rfl 39 (by decide) hlink rfl (by decide +kernel) rfl rfl (by show 39 < 41; decide) rfl d k
theorem g_33_40 (X : Cx p s m args c cc nL own Gw D vwCl (tysT ca) (wlT ad ca) A N0) (hlink : Cond.fieldLink own idx "TeleStackModel" "got" "[I" ∈ Gw) (d : decode cc pc = .ok (.getfield idx, 3)) (k : J p l e R s m args below meth c D vwCl (wlT ad ca) A nL cells slots Q (pc + 3) loc (.ref (ad 52) :: rest) σ) : J p l e R s m args below meth c D vwCl (wlT ad ca) A nL cells slots Q pc loc (.ref (ad 33) :: rest) σ := j_get X uw_M 33 rfl rfl 40 (by decide) hlink rfl d k
theorem ld_34 (X : Cx p s m args c cc nL own Gw D vwCl (tysT ca) (wlT ad ca) A N0) {i v : Int32} (hin : vp_in i 4) (hv : σ 34 i.toNatClampNeg = v) (d : decode cc pc = .ok (.iaload, 1)) (k : J p l e R s m args below meth c D vwCl (wlT ad ca) A nL cells slots Q (pc + 1) loc (.int v :: rest) σ) : J p l e R s m args below meth c D vwCl (wlT ad ca) A nL cells slots Q pc loc (.int i :: .ref (ad 34) :: rest) σ := by subst hv; exact j_iald X 34 21 rfl rfl hin d k
theorem sr_34 (X : Cx p s m args c cc nL own Gw D vwCl (tysT ca) (wlT ad ca) A N0) {i x : Int32} (hin : vp_in i 4) (d : decode cc pc = .ok (.iastore, 1)) (k : J p l e R s m args below meth c D vwCl (wlT ad ca) A nL cells slots Q (pc + 1) loc rest (jup σ 34 i.toNatClampNeg x)) : J p l e R s m args below meth c D vwCl (wlT ad ca) A nL cells slots Q pc loc (.int x :: .int i :: .ref (ad 34) :: rest) σ := j_iast X 34 21 rfl rfl hin rfl d k
theorem ld_35 (X : Cx p s m args c cc nL own Gw D vwCl (tysT ca) (wlT ad ca) A N0) {i v : Int32} (hin : vp_in i 4) (hv : σ 35 i.toNatClampNeg = v) (d : decode cc pc = .ok (.baload, 1)) (k : J p l e R s m args below meth c D vwCl (wlT ad ca) A nL cells slots Q (pc + 1) loc (.int v :: rest) σ) : J p l e R s m args below meth c D vwCl (wlT ad ca) A nL cells slots Q pc loc (.int i :: .ref (ad 35) :: rest) σ := by subst hv; exact j_zald X 35 22 rfl rfl hin d k
theorem sr_35 (X : Cx p s m args c cc nL own Gw D vwCl (tysT ca) (wlT ad ca) A N0) {i x : Int32} (hin : vp_in i 4) (d : decode cc pc = .ok (.bastore, 1)) (k : J p l e R s m args below meth c D vwCl (wlT ad ca) A nL cells slots Q (pc + 1) loc rest (jup σ 35 i.toNatClampNeg (vp_nar .boolean x))) : J p l e R s m args below meth c D vwCl (wlT ad ca) A nL cells slots Q pc loc (.int x :: .int i :: .ref (ad 35) :: rest) σ := j_zast X 35 22 rfl rfl hin rfl d k
theorem ld_36 (X : Cx p s m args c cc nL own Gw D vwCl (tysT ca) (wlT ad ca) A N0) {i v : Int32} (hin : vp_in i 20) (hv : σ 36 i.toNatClampNeg = v) (d : decode cc pc = .ok (.iaload, 1)) (k : J p l e R s m args below meth c D vwCl (wlT ad ca) A nL cells slots Q (pc + 1) loc (.int v :: rest) σ) : J p l e R s m args below meth c D vwCl (wlT ad ca) A nL cells slots Q pc loc (.int i :: .ref (ad 36) :: rest) σ := by subst hv; exact j_iald X 36 23 rfl rfl hin d k
theorem sr_36 (X : Cx p s m args c cc nL own Gw D vwCl (tysT ca) (wlT ad ca) A N0) {i x : Int32} (hin : vp_in i 20) (d : decode cc pc = .ok (.iastore, 1)) (k : J p l e R s m args below meth c D vwCl (wlT ad ca) A nL cells slots Q (pc + 1) loc rest (jup σ 36 i.toNatClampNeg x)) : J p l e R s m args below meth c D vwCl (wlT ad ca) A nL cells slots Q pc loc (.int x :: .int i :: .ref (ad 36) :: rest) σ := j_iast X 36 23 rfl rfl hin rfl d k
theorem ld_37 (X : Cx p s m args c cc nL own Gw D vwCl (tysT ca) (wlT ad ca) A N0) {i v : Int32} (hin : vp_in i 20) (hv : σ 37 i.toNatClampNeg = v) (d : decode cc pc = .ok (.iaload, 1)) (k : J p l e R s m args below meth c D vwCl (wlT ad ca) A nL cells slots Q (pc + 1) loc (.int v :: rest) σ) : J p l e R s m args below meth c D vwCl (wlT ad ca) A nL cells slots Q pc loc (.int i :: .ref (ad 37) :: rest) σ := by subst hv; exact j_iald X 37 24 rfl rfl hin d k
theorem sr_37 (X : Cx p s m args c cc nL own Gw D vwCl (tysT ca) (wlT ad ca) A N0) {i x : Int32} (hin : vp_in i 20) (d : decode cc pc = .ok (.iastore, 1)) (k : J p l e R s m args below meth c D vwCl (wlT ad ca) A nL cells slots Q (pc + 1) loc rest (jup σ 37 i.toNatClampNeg x)) : J p l e R s m args below meth c D vwCl (wlT ad ca) A nL cells slots Q pc loc (.int x :: .int i :: .ref (ad 37) :: rest) σ := j_iast X 37 24 rfl rfl hin rfl d k
theorem ld_38 (X : Cx p s m args c cc nL own Gw D vwCl (tysT ca) (wlT ad ca) A N0) {i v : Int32} (hin : vp_in i 20) (hv : σ 38 i.toNatClampNeg = v) (d : decode cc pc = .ok (.iaload, 1)) (k : J p l e R s m args below meth c D vwCl (wlT ad ca) A nL cells slots Q (pc + 1) loc (.int v :: rest) σ) : J p l e R s m args below meth c D vwCl (wlT ad ca) A nL cells slots Q pc loc (.int i :: .ref (ad 38) :: rest) σ := by subst hv; exact j_iald X 38 25 rfl rfl hin d k
theorem sr_38 (X : Cx p s m args c cc nL own Gw D vwCl (tysT ca) (wlT ad ca) A N0) {i x : Int32} (hin : vp_in i 20) (d : decode cc pc = .ok (.iastore, 1)) (k : J p l e R s m args below meth c D vwCl (wlT ad ca) A nL cells slots Q (pc + 1) loc rest (jup σ 38 i.toNatClampNeg x)) : J p l e R s m args below meth c D vwCl (wlT ad ca) A nL cells slots Q pc loc (.int x :: .int i :: .ref (ad 38) :: rest) σ := j_iast X 38 25 rfl rfl hin rfl d k
theorem ld_39 (X : Cx p s m args c cc nL own Gw D vwCl (tysT ca) (wlT ad ca) A N0) {i v : Int32} (hin : vp_in i 3) (hv : σ 39 i.toNatClampNeg = v) (d : decode cc pc = .ok (.iaload, 1)) (k : J p l e R s m args below meth c D vwCl (wlT ad ca) A nL cells slots Q (pc + 1) loc (.int v :: rest) σ) : J p l e R s m args below meth c D vwCl (wlT ad ca) A nL cells slots Q pc loc (.int i :: .ref (ad 39) :: rest) σ := by subst hv; exact j_iald X 39 26 rfl rfl hin d k
theorem sr_39 (X : Cx p s m args c cc nL own Gw D vwCl (tysT ca) (wlT ad ca) A N0) {i x : Int32} (hin : vp_in i 3) (d : decode cc pc = .ok (.iastore, 1)) (k : J p l e R s m args below meth c D vwCl (wlT ad ca) A nL cells slots Q (pc + 1) loc rest (jup σ 39 i.toNatClampNeg x)) : J p l e R s m args below meth c D vwCl (wlT ad ca) A nL cells slots Q pc loc (.int x :: .int i :: .ref (ad 39) :: rest) σ := j_iast X 39 26 rfl rfl hin rfl d k
theorem ld_40 (X : Cx p s m args c cc nL own Gw D vwCl (tysT ca) (wlT ad ca) A N0) {i v : Int32} (hin : vp_in i 20) (hv : σ 40 i.toNatClampNeg = v) (d : decode cc pc = .ok (.iaload, 1)) (k : J p l e R s m args below meth c D vwCl (wlT ad ca) A nL cells slots Q (pc + 1) loc (.int v :: rest) σ) : J p l e R s m args below meth c D vwCl (wlT ad ca) A nL cells slots Q pc loc (.int i :: .ref (ad 40) :: rest) σ := by subst hv; exact j_iald X 40 27 rfl rfl hin d k
theorem sr_40 (X : Cx p s m args c cc nL own Gw D vwCl (tysT ca) (wlT ad ca) A N0) {i x : Int32} (hin : vp_in i 20) (d : decode cc pc = .ok (.iastore, 1)) (k : J p l e R s m args below meth c D vwCl (wlT ad ca) A nL cells slots Q (pc + 1) loc rest (jup σ 40 i.toNatClampNeg x)) : J p l e R s m args below meth c D vwCl (wlT ad ca) A nL cells slots Q pc loc (.int x :: .int i :: .ref (ad 40) :: rest) σ := j_iast X 40 27 rfl rfl hin rfl d k
theorem ld_41 (X : Cx p s m args c cc nL own Gw D vwCl (tysT ca) (wlT ad ca) A N0) {i v : Int32} (hin : vp_in i 2) (hv : σ 41 i.toNatClampNeg = v) (d : decode cc pc = .ok (.iaload, 1)) (k : J p l e R s m args below meth c D vwCl (wlT ad ca) A nL cells slots Q (pc + 1) loc (.int v :: rest) σ) : J p l e R s m args below meth c D vwCl (wlT ad ca) A nL cells slots Q pc loc (.int i :: .ref (ad 41) :: rest) σ := by subst hv; exact j_iald X 41 28 rfl rfl hin d k
theorem sr_41 (X : Cx p s m args c cc nL own Gw D vwCl (tysT ca) (wlT ad ca) A N0) {i x : Int32} (hin : vp_in i 2) (d : decode cc pc = .ok (.iastore, 1)) (k : J p l e R s m args below meth c D vwCl (wlT ad ca) A nL cells slots Q (pc + 1) loc rest (jup σ 41 i.toNatClampNeg x)) : J p l e R s m args below meth c D vwCl (wlT ad ca) A nL cells slots Q pc loc (.int x :: .int i :: .ref (ad 41) :: rest) σ := j_iast X 41 28 rfl rfl hin rfl d k
theorem ld_42 (X : Cx p s m args c cc nL own Gw D vwCl (tysT ca) (wlT ad ca) A N0) {i v : Int32} (hin : vp_in i 2) (hv : σ 42 i.toNatClampNeg = v) (d : decode cc pc = .ok (.iaload, 1)) (k : J p l e R s m args below meth c D vwCl (wlT ad ca) A nL cells slots Q (pc + 1) loc (.int v :: rest) σ) : J p l e R s m args below meth c D vwCl (wlT ad ca) A nL cells slots Q pc loc (.int i :: .ref (ad 42) :: rest) σ := by subst hv; exact j_iald X 42 29 rfl rfl hin d k
theorem sr_42 (X : Cx p s m args c cc nL own Gw D vwCl (tysT ca) (wlT ad ca) A N0) {i x : Int32} (hin : vp_in i 2) (d : decode cc pc = .ok (.iastore, 1)) (k : J p l e R s m args below meth c D vwCl (wlT ad ca) A nL cells slots Q (pc + 1) loc rest (jup σ 42 i.toNatClampNeg x)) : J p l e R s m args below meth c D vwCl (wlT ad ca) A nL cells slots Q pc loc (.int x :: .int i :: .ref (ad 42) :: rest) σ := j_iast X 42 29 rfl rfl hin rfl d k
theorem ld_43 (X : Cx p s m args c cc nL own Gw D vwCl (tysT ca) (wlT ad ca) A N0) {i v : Int32} (hin : vp_in i 128) (hv : σ 43 i.toNatClampNeg = v) (d : decode cc pc = .ok (.iaload, 1)) (k : J p l e R s m args below meth c D vwCl (wlT ad ca) A nL cells slots Q (pc + 1) loc (.int v :: rest) σ) : J p l e R s m args below meth c D vwCl (wlT ad ca) A nL cells slots Q pc loc (.int i :: .ref (ad 43) :: rest) σ := by subst hv; exact j_iald X 43 30 rfl rfl hin d k
theorem sr_43 (X : Cx p s m args c cc nL own Gw D vwCl (tysT ca) (wlT ad ca) A N0) {i x : Int32} (hin : vp_in i 128) (d : decode cc pc = .ok (.iastore, 1)) (k : J p l e R s m args below meth c D vwCl (wlT ad ca) A nL cells slots Q (pc + 1) loc rest (jup σ 43 i.toNatClampNeg x)) : J p l e R s m args below meth c D vwCl (wlT ad ca) A nL cells slots Q pc loc (.int x :: .int i :: .ref (ad 43) :: rest) σ := j_iast X 43 30 rfl rfl hin rfl d k
theorem ld_44 (X : Cx p s m args c cc nL own Gw D vwCl (tysT ca) (wlT ad ca) A N0) {i v : Int32} (hin : vp_in i 2) (hv : σ 44 i.toNatClampNeg = v) (d : decode cc pc = .ok (.iaload, 1)) (k : J p l e R s m args below meth c D vwCl (wlT ad ca) A nL cells slots Q (pc + 1) loc (.int v :: rest) σ) : J p l e R s m args below meth c D vwCl (wlT ad ca) A nL cells slots Q pc loc (.int i :: .ref (ad 44) :: rest) σ := by subst hv; exact j_iald X 44 31 rfl rfl hin d k
theorem sr_44 (X : Cx p s m args c cc nL own Gw D vwCl (tysT ca) (wlT ad ca) A N0) {i x : Int32} (hin : vp_in i 2) (d : decode cc pc = .ok (.iastore, 1)) (k : J p l e R s m args below meth c D vwCl (wlT ad ca) A nL cells slots Q (pc + 1) loc rest (jup σ 44 i.toNatClampNeg x)) : J p l e R s m args below meth c D vwCl (wlT ad ca) A nL cells slots Q pc loc (.int x :: .int i :: .ref (ad 44) :: rest) σ := j_iast X 44 31 rfl rfl hin rfl d k
theorem ld_45 (X : Cx p s m args c cc nL own Gw D vwCl (tysT ca) (wlT ad ca) A N0) {i v : Int32} (hin : vp_in i 2) (hv : σ 45 i.toNatClampNeg = v) (d : decode cc pc = .ok (.iaload, 1)) (k : J p l e R s m args below meth c D vwCl (wlT ad ca) A nL cells slots Q (pc + 1) loc (.int v :: rest) σ) : J p l e R s m args below meth c D vwCl (wlT ad ca) A nL cells slots Q pc loc (.int i :: .ref (ad 45) :: rest) σ := by subst hv; exact j_iald X 45 32 rfl rfl hin d k
theorem sr_45 (X : Cx p s m args c cc nL own Gw D vwCl (tysT ca) (wlT ad ca) A N0) {i x : Int32} (hin : vp_in i 2) (d : decode cc pc = .ok (.iastore, 1)) (k : J p l e R s m args below meth c D vwCl (wlT ad ca) A nL cells slots Q (pc + 1) loc rest (jup σ 45 i.toNatClampNeg x)) : J p l e R s m args below meth c D vwCl (wlT ad ca) A nL cells slots Q pc loc (.int x :: .int i :: .ref (ad 45) :: rest) σ := j_iast X 45 32 rfl rfl hin rfl d k
theorem ld_46 (X : Cx p s m args c cc nL own Gw D vwCl (tysT ca) (wlT ad ca) A N0) {i v : Int32} (hin : vp_in i 2) (hv : σ 46 i.toNatClampNeg = v) (d : decode cc pc = .ok (.baload, 1)) (k : J p l e R s m args below meth c D vwCl (wlT ad ca) A nL cells slots Q (pc + 1) loc (.int v :: rest) σ) : J p l e R s m args below meth c D vwCl (wlT ad ca) A nL cells slots Q pc loc (.int i :: .ref (ad 46) :: rest) σ := by subst hv; exact j_zald X 46 33 rfl rfl hin d k
theorem sr_46 (X : Cx p s m args c cc nL own Gw D vwCl (tysT ca) (wlT ad ca) A N0) {i x : Int32} (hin : vp_in i 2) (d : decode cc pc = .ok (.bastore, 1)) (k : J p l e R s m args below meth c D vwCl (wlT ad ca) A nL cells slots Q (pc + 1) loc rest (jup σ 46 i.toNatClampNeg (vp_nar .boolean x))) : J p l e R s m args below meth c D vwCl (wlT ad ca) A nL cells slots Q pc loc (.int x :: .int i :: .ref (ad 46) :: rest) σ := j_zast X 46 33 rfl rfl hin rfl d k
theorem ld_47 (X : Cx p s m args c cc nL own Gw D vwCl (tysT ca) (wlT ad ca) A N0) {i v : Int32} (hin : vp_in i 2) (hv : σ 47 i.toNatClampNeg = v) (d : decode cc pc = .ok (.iaload, 1)) (k : J p l e R s m args below meth c D vwCl (wlT ad ca) A nL cells slots Q (pc + 1) loc (.int v :: rest) σ) : J p l e R s m args below meth c D vwCl (wlT ad ca) A nL cells slots Q pc loc (.int i :: .ref (ad 47) :: rest) σ := by subst hv; exact j_iald X 47 34 rfl rfl hin d k
theorem sr_47 (X : Cx p s m args c cc nL own Gw D vwCl (tysT ca) (wlT ad ca) A N0) {i x : Int32} (hin : vp_in i 2) (d : decode cc pc = .ok (.iastore, 1)) (k : J p l e R s m args below meth c D vwCl (wlT ad ca) A nL cells slots Q (pc + 1) loc rest (jup σ 47 i.toNatClampNeg x)) : J p l e R s m args below meth c D vwCl (wlT ad ca) A nL cells slots Q pc loc (.int x :: .int i :: .ref (ad 47) :: rest) σ := j_iast X 47 34 rfl rfl hin rfl d k
theorem ld_48 (X : Cx p s m args c cc nL own Gw D vwCl (tysT ca) (wlT ad ca) A N0) {i v : Int32} (hin : vp_in i 2) (hv : σ 48 i.toNatClampNeg = v) (d : decode cc pc = .ok (.iaload, 1)) (k : J p l e R s m args below meth c D vwCl (wlT ad ca) A nL cells slots Q (pc + 1) loc (.int v :: rest) σ) : J p l e R s m args below meth c D vwCl (wlT ad ca) A nL cells slots Q pc loc (.int i :: .ref (ad 48) :: rest) σ := by subst hv; exact j_iald X 48 35 rfl rfl hin d k
theorem sr_48 (X : Cx p s m args c cc nL own Gw D vwCl (tysT ca) (wlT ad ca) A N0) {i x : Int32} (hin : vp_in i 2) (d : decode cc pc = .ok (.iastore, 1)) (k : J p l e R s m args below meth c D vwCl (wlT ad ca) A nL cells slots Q (pc + 1) loc rest (jup σ 48 i.toNatClampNeg x)) : J p l e R s m args below meth c D vwCl (wlT ad ca) A nL cells slots Q pc loc (.int x :: .int i :: .ref (ad 48) :: rest) σ := j_iast X 48 35 rfl rfl hin rfl d k
theorem ld_49 (X : Cx p s m args c cc nL own Gw D vwCl (tysT ca) (wlT ad ca) A N0) {i v : Int32} (hin : vp_in i 2) (hv : σ 49 i.toNatClampNeg = v) (d : decode cc pc = .ok (.iaload, 1)) (k : J p l e R s m args below meth c D vwCl (wlT ad ca) A nL cells slots Q (pc + 1) loc (.int v :: rest) σ) : J p l e R s m args below meth c D vwCl (wlT ad ca) A nL cells slots Q pc loc (.int i :: .ref (ad 49) :: rest) σ := by subst hv; exact j_iald X 49 36 rfl rfl hin d k
theorem sr_49 (X : Cx p s m args c cc nL own Gw D vwCl (tysT ca) (wlT ad ca) A N0) {i x : Int32} (hin : vp_in i 2) (d : decode cc pc = .ok (.iastore, 1)) (k : J p l e R s m args below meth c D vwCl (wlT ad ca) A nL cells slots Q (pc + 1) loc rest (jup σ 49 i.toNatClampNeg x)) : J p l e R s m args below meth c D vwCl (wlT ad ca) A nL cells slots Q pc loc (.int x :: .int i :: .ref (ad 49) :: rest) σ := j_iast X 49 36 rfl rfl hin rfl d k
theorem ld_50 (X : Cx p s m args c cc nL own Gw D vwCl (tysT ca) (wlT ad ca) A N0) {i v : Int32} (hin : vp_in i 2) (hv : σ 50 i.toNatClampNeg = v) (d : decode cc pc = .ok (.iaload, 1)) (k : J p l e R s m args below meth c D vwCl (wlT ad ca) A nL cells slots Q (pc + 1) loc (.int v :: rest) σ) : J p l e R s m args below meth c D vwCl (wlT ad ca) A nL cells slots Q pc loc (.int i :: .ref (ad 50) :: rest) σ := by subst hv; exact j_iald X 50 37 rfl rfl hin d k
theorem sr_50 (X : Cx p s m args c cc nL own Gw D vwCl (tysT ca) (wlT ad ca) A N0) {i x : Int32} (hin : vp_in i 2) (d : decode cc pc = .ok (.iastore, 1)) (k : J p l e R s m args below meth c D vwCl (wlT ad ca) A nL cells slots Q (pc + 1) loc rest (jup σ 50 i.toNatClampNeg x)) : J p l e R s m args below meth c D vwCl (wlT ad ca) A nL cells slots Q pc loc (.int x :: .int i :: .ref (ad 50) :: rest) σ := j_iast X 50 37 rfl rfl hin rfl d k
theorem ld_51 (X : Cx p s m args c cc nL own Gw D vwCl (tysT ca) (wlT ad ca) A N0) {i v : Int32} (hin : vp_in i 6) (hv : σ 51 i.toNatClampNeg = v) (d : decode cc pc = .ok (.iaload, 1)) (k : J p l e R s m args below meth c D vwCl (wlT ad ca) A nL cells slots Q (pc + 1) loc (.int v :: rest) σ) : J p l e R s m args below meth c D vwCl (wlT ad ca) A nL cells slots Q pc loc (.int i :: .ref (ad 51) :: rest) σ := by subst hv; exact j_iald X 51 38 rfl rfl hin d k
theorem sr_51 (X : Cx p s m args c cc nL own Gw D vwCl (tysT ca) (wlT ad ca) A N0) {i x : Int32} (hin : vp_in i 6) (d : decode cc pc = .ok (.iastore, 1)) (k : J p l e R s m args below meth c D vwCl (wlT ad ca) A nL cells slots Q (pc + 1) loc rest (jup σ 51 i.toNatClampNeg x)) : J p l e R s m args below meth c D vwCl (wlT ad ca) A nL cells slots Q pc loc (.int x :: .int i :: .ref (ad 51) :: rest) σ := j_iast X 51 38 rfl rfl hin rfl d k
theorem ld_52 (X : Cx p s m args c cc nL own Gw D vwCl (tysT ca) (wlT ad ca) A N0) {i v : Int32} (hin : vp_in i 160) (hv : σ 52 i.toNatClampNeg = v) (d : decode cc pc = .ok (.iaload, 1)) (k : J p l e R s m args below meth c D vwCl (wlT ad ca) A nL cells slots Q (pc + 1) loc (.int v :: rest) σ) : J p l e R s m args below meth c D vwCl (wlT ad ca) A nL cells slots Q pc loc (.int i :: .ref (ad 52) :: rest) σ := by subst hv; exact j_iald X 52 39 rfl rfl hin d k
theorem sr_52 (X : Cx p s m args c cc nL own Gw D vwCl (tysT ca) (wlT ad ca) A N0) {i x : Int32} (hin : vp_in i 160) (d : decode cc pc = .ok (.iastore, 1)) (k : J p l e R s m args below meth c D vwCl (wlT ad ca) A nL cells slots Q (pc + 1) loc rest (jup σ 52 i.toNatClampNeg x)) : J p l e R s m args below meth c D vwCl (wlT ad ca) A nL cells slots Q pc loc (.int x :: .int i :: .ref (ad 52) :: rest) σ := j_iast X 52 39 rfl rfl hin rfl d k
end WT
end
section
/-! methods that may throw: how they end, how they throw, how a caller with a table of handlers goes on -/
/-- the end of a call that returned (K) or threw an object of class E (KX E) -/
def XQ (D : va_G) (cl : List vw_C) (wl : Jst → va_W) (A : Nat → Prop) (K : Option Int32 → Jst → Prop) (KX : String → Jst → Prop) (mc ms : Nat) : Array Value → State → Outcome → State → Prop := fun _ st o t =>
  st.WarmedH t.vm ∧ (∃ L, st.sameButNew ({ t with vm := st.vm } : State) L mc ms ∧ ∀ q ∈ L, A q.base) ∧ va_F A st t ∧
  ((∃ (r : Option Int32) (u : Jst), o = .returned (r.map Value.int) ∧ K r u ∧ va_P D cl (wl u) t.heap) ∨
   (∃ (q : Addr) (E : String) (ce : Cell) (u : Jst), o = .threw q ∧ KX E u ∧ va_P D cl (wl u) t.heap ∧ t.heap[q]? = some ce ∧ ce.vm = .none ∧ st.vm.findClass E = some ce.cls))
def XMet (l : Launch) (y : MethodName) (ws : List Cond) (rm : Room) (Pc : Array Value → State → Prop) (D : va_G) (cl : List vw_C) (wl : Jst → va_W) (A : Nat → Prop) (K : Option Int32 → Jst → Prop) (KX : String → Jst → Prop) (mc ms : Nat) : Prop :=
  MetFree l y (headSpec ws rm) Pc (fun _ _ _ _ _ => True) (XQ D cl wl A K KX mc ms)
def XE (below : List Frame) (D : va_G) (cl : List vw_C) (wl : Jst → va_W) (A : Nat → Prop) (K : Option Int32 → Jst → Prop) (KX : String → Jst → Prop) (args : Array Value) (s : State) (mc ms : Nat) : State → Prop := fun t =>
  ∃ o, t.status = .running ∧ Ended t below o ∧ XQ D cl wl A K KX mc ms args s o t
section XX
variable {p : Program} {l : Launch} {e : Env} {R : Room} {s : State} {m : MethodId} {args : Array Value} {below : List Frame} {meth : Method} {c : Code} {cells slots : Nat} {Q : State → Prop}
variable {cc : ByteArray} {pc nL : Nat} {rest : List Value} {loc loc' : List (Nat × Value)} {wl : Jst → va_W} {D : va_G} {cl : List vw_C} {tys : List (ClassId × FieldType)} {A : Nat → Prop} {N0 : State → Prop} {σ : Jst} {own : String} {Ts : List Cond}
variable {K : Option Int32 → Jst → Prop} {KX : String → Jst → Prop} {mc ms : Nat}
theorem x_iret (X : Cx p s m args c cc nL own Ts D cl tys wl A N0) (hlk : meth.locks = false) (hr : meth.sig.returnType = some .int) {v : Int32} (hc : cells ≤ mc) (hs : slots ≤ ms) (d : decode cc pc = .ok (.ireturn, 1)) (h : K (some v) σ) : J p l e R s m args below meth c D cl wl A nL cells slots (XE below D cl wl A K KX args s mc ms) pc loc [.int v] σ := by
  intro H locs ls hl hP hS T hT XT
  obtain ⟨t, st, o, h1, h2, h3, L, hF, hL⟩ := j_iret (K := fun r u => K (some r) u) (R := R) (l := l) (e := e) (below := below) (cells := cells) (slots := slots) (loc := loc) X hlk hr d h H locs ls hl hP hS T hT XT
  obtain ⟨⟨r, u, ho, hk, hp⟩, hf⟩ := h3
  exact ⟨t, st, o, h1, h2, hF.2.1, ⟨L, hF.2.2.mono hc hs, hL⟩, hf, Or.inl ⟨some r, u, ho, hk, hp⟩⟩
theorem x_zret (X : Cx p s m args c cc nL own Ts D cl tys wl A N0) (hlk : meth.locks = false) (hr : meth.sig.returnType = some .boolean) {v : Int32} (hc : cells ≤ mc) (hs : slots ≤ ms) (hn : narrow .boolean (.int v) = .int v) (d : decode cc pc = .ok (.ireturn, 1)) (h : K (some v) σ) : J p l e R s m args below meth c D cl wl A nL cells slots (XE below D cl wl A K KX args s mc ms) pc loc [.int v] σ := by
  intro H locs ls hl hP hS T hT XT
  obtain ⟨t, st, o, h1, h2, h3, L, hF, hL⟩ := j_zret (K := fun r u => K (some r) u) (R := R) (l := l) (e := e) (below := below) (cells := cells) (slots := slots) (loc := loc) X hlk hr hn d h H locs ls hl hP hS T hT XT
  obtain ⟨⟨r, u, ho, hk, hp⟩, hf⟩ := h3
  exact ⟨t, st, o, h1, h2, hF.2.1, ⟨L, hF.2.2.mono hc hs, hL⟩, hf, Or.inl ⟨some r, u, ho, hk, hp⟩⟩
theorem x_vret (X : Cx p s m args c cc nL own Ts D cl tys wl A N0) (hlk : meth.locks = false) (hr : meth.sig.returnType = none) (hc : cells ≤ mc) (hs : slots ≤ ms) (d : decode cc pc = .ok (.return_, 1)) (h : K none σ) : J p l e R s m args below meth c D cl wl A nL cells slots (XE below D cl wl A K KX args s mc ms) pc loc [] σ := by
  intro H locs ls hl hP hS T hT XT
  obtain ⟨t, st, o, h1, h2, h3, L, hF, hL⟩ := j_vret (K := fun u => K none u) (R := R) (l := l) (e := e) (below := below) (cells := cells) (slots := slots) (loc := loc) X hlk hr d h H locs ls hl hP hS T hT XT
  obtain ⟨⟨u, ho, hk, hp⟩, hf⟩ := h3
  exact ⟨t, st, o, h1, h2, hF.2.1, ⟨L, hF.2.2.mono hc hs, hL⟩, hf, Or.inl ⟨none, u, ho, hk, hp⟩⟩
theorem x_met {y : MethodName} {ws ws' : List Cond} {rm : Room} {maxL : Nat} {ret : Option FieldType} {vs : List Value} (hy : plainName y.cls = true) (hw : ws = Cond.code y cc maxL ret :: ws') (hn : (lg_sl vs).length ≤ maxL) (ho : own = y.cls) (hD : ∀ σ, va_D A (wl σ)) (hN : Jk A N0)
    (body : ∀ (p : Program) (e : Env) (s : State) (m : MethodId) (args : Array Value) (below : List Frame) (meth : Method) (c : Code), Cx p s m args c cc maxL own ws' D cl tys wl A N0 → meth.locks = false → meth.sig.returnType = ret → c.exceptionTable.isEmpty = true → J p l e rm s m args below meth c D cl wl A maxL 0 0 (XE below D cl wl A K KX args s mc ms) 0 (lv_args 0 vs) [] σ) :
    XMet l y ws rm (va_Pc vs (Jw D cl tys wl N0 σ)) D cl wl A K KX mc ms := by
  refine MetFree.of_bodyS (code := cc) (maxLocals := maxL) (ret := ret) hy ?_ ?_
  · intro args s m h hn
    obtain ⟨meth, c, h1, h2, h3, h4, h5, h6, -, -⟩ := Cond.code_spec hn (atoms_spec (ws := ws) h _ (by rw [hw]; exact List.mem_cons_self))
    exact ⟨meth, c, h1, h2, h3, h4, h5, h6⟩
  · intro p e s m args below meth c s₁ B hml hv _
    obtain ⟨rfl, hP, hK, hN1⟩ := hv
    have hts := atoms_spec (ws := ws) B.pre
    have hown : s.vm.findClass own = some m.cls := by rw [ho]; exact findClass_of_methodNamed B.named
    have hh0 : s₁.heap = s.heap := by rw [B.state]; rfl
    have hE := B.noHandlers (hts _ (by rw [hw]; exact List.mem_cons_self))
    have hb := body p e s m _ below meth c ⟨B.exec, B.bytes, hml, hown, fun w h => hts w (by rw [hw]; exact List.mem_cons_of_mem _ h), hK, hD, hN1, hN⟩ B.notSynchronized B.returns hE s.heap [] _ (lv_entry vs hn) hP va_S.rf
    rw [← lg_entry_eq] at hb
    obtain ⟨t, a1, o, b1, b2, b3⟩ := hb s₁ hh0 (Stand.of_body B)
    exact ⟨t, o, a1, b1, b2, b3⟩
/-- the walk's own state is taken as a start -/
theorem x_rebase {T : State} {locs : List Loc} (X : Stand p l e R s m args below meth c T locs cells slots) (hc : cells + 1 ≤ R.cells) (hs : slots + 6 ≤ R.slots) :
    Stand p l e { frames := R.frames, locals := R.locals, cells := 1, slots := 6 } ((T.setVm s.vm).setFrames (.invoking m args :: below)) m args below meth c T [] 0 0 := by
  have htop : (T.setVm s.vm).topJava?.isSome := X.here.top
  have hF : ((T.setVm s.vm).setFrames (.invoking m args :: below)).frames = .invoking m args :: below := State.frames_setFrames _ (State.cur_lt_of_top htop)
  obtain ⟨g0, hg0⟩ := Option.isSome_iff_exists.mp htop
  obtain ⟨r, hr⟩ := State.topJava?_eq_some.mp hg0
  obtain ⟨th, hth, -⟩ := State.frames_cons hr
  have hl9 : e.platform.stackLimits (T.setVm s.vm).me = e.platform.stackLimits s.me := X.limits
  have hb9 : (T.setVm s.vm).me.stackBytes = s.me.stackBytes := X.bytes
  have hdrop : (T.heap.toList.drop T.heap.size).map (fun z : Cell => z.slots.size) = [] := by
    rw [List.drop_eq_nil_of_le (Nat.le_of_eq Array.length_toList)]; rfl
  have hU : ((T.setVm s.vm).setFrames (.invoking m args :: below)).localsInUse = s.localsInUse := by
    rw [State.localsInUse_invoking hF (meth := meth) (c := c) X.method X.code, State.localsInUse_invoking X.frames X.method X.code]
  have hroom := X.room
  have q1 := X.heapSize
  have q2 := X.used
  refine ⟨X.admits, X.cas, X.clock, hF, ?_, X.hears, X.method, X.code, X.here, X.tail, X.warmed, ?_, ?_, ?_⟩
  · simp only [State.hasRoom, Bool.and_eq_true, decide_eq_true_eq] at hroom ⊢
    obtain ⟨⟨⟨⟨h1, h2, h3, h4, h5, h6⟩, h7⟩, h8⟩, h9⟩ := hroom
    rw [X.frames, List.length_cons] at h2 h3
    simp only [hF, hU, List.length_cons, State.stackLimits_setFrames, State.stackBytes_setFrames, hl9, hb9]
    refine ⟨⟨⟨⟨by omega, by omega, by omega, by omega, by omega, h6⟩, ?_⟩, ?_⟩, X.book⟩
    · show T.heap.size + 1 ≤ e.platform.maxCells
      omega
    · show T.slotsUsed + 6 ≤ e.platform.maxSlots
      omega
  · rw [State.stackLimits_setFrames]; rfl
  · rw [State.stackBytes_setFrames]; rfl
  · refine ⟨?_, Nat.le_refl _, Nat.le_refl _, ?_, ?_, fun a z h => ⟨z, h, rfl, rfl, fun _ _ => rfl⟩⟩
    · show T.setVm s.vm = { ((T.setVm s.vm).setFrames (.invoking m args :: below)).setFrames (T.setVm s.vm).frames with heap := T.heap, slotsUsed := T.slotsUsed }
      rw [State.setFrames_setFrames, State.setFrames_self hth]
      rfl
    · show T.slotsUsed = T.slotsUsed + ((T.heap.toList.drop T.heap.size).map (fun z : Cell => z.slots.size)).sum
      rw [hdrop]; rfl
    · show ((T.heap.toList.drop T.heap.size).map (fun z : Cell => z.slots.size)).sum ≤ 0
      rw [hdrop]; exact Nat.le_refl _
/-- nothing old was written: the old cells stand -/
theorem x_old {s U : State} {k n : Nat} (h : s.sameButNew ({ U with vm := s.vm } : State) [] k n) : s.heap.size ≤ U.heap.size ∧ ∀ q : Nat, q < s.heap.size → U.heap[q]? = s.heap[q]? := by
  obtain ⟨-, h2, -, -, -, h6⟩ := h
  refine ⟨h2, fun q hq => ?_⟩
  obtain ⟨z, e1, e2, -, e4⟩ := h6 q _ (Array.getElem?_eq_getElem hq)
  have e1' : U.heap[q]? = some z := e1
  have hs : z.slots = (s.heap[q]).slots := Array.ext_getElem? fun i => e4 i (fun hm => nomatch hm)
  rw [hs] at e2
  rw [e1', e2, Array.getElem?_eq_getElem hq]
set_option maxHeartbeats 2000000 in
/-- throw new E("text") -/
theorem x_throw (X : Cx p s m args c cc nL own Gw D cl tys wl A N0) (hlt : l.stackTraces = false) (hlk : meth.locks = false) (hE : c.exceptionTable.isEmpty = true) {cls text : String} {names : List String} {ik is ic : Nat} (hcls : Bundle.fit cls = true) (hnm : ∀ n ∈ names, Bundle.fit n = true)
    (hat : ∀ s' : State, N0 s' → (∀ w ∈ Gw, w.before args s' = true) → (∀ w ∈ Bundle.ownAtoms own ic cls names, w.before args s' = true) ∧ (Cond.classLink own ik cls).before args s' = true ∧ (Cond.initialized cls).before args s' = true ∧ ∃ sa, (Cond.stringRef own is text).before args s' = true ∧ (Term.string own is).eval args s' none [] s' = some (.ref sa))
    (d0 : decode cc pc = .ok (.new ik, 3)) (d3 : decode cc (pc + 3) = .ok (.dup, 1)) (d4 : decode cc (pc + 4) = .ok (.ldc is, 2)) (d6 : decode cc (pc + 6) = .ok (.invokespecial ic, 3)) (d9 : decode cc (pc + 9) = .ok (.athrow, 1))
    (hf : names.length + 3 < R.frames) (hlo : (rest.map fun v => v.category).sum + (13 * (names.length + 1) + 43) ≤ R.locals) (hc : cells + 1 ≤ R.cells) (hs : slots + 6 ≤ R.slots) (hmc : cells + 1 ≤ mc) (hms : slots + 6 ≤ ms) (h : KX cls σ) :
    J p l e R s m args below meth c D cl wl A nL cells slots (XE below D cl wl A K KX args s mc ms) pc loc rest σ := by
  intro H locs ls hl hP hS T hT XT
  obtain ⟨hx, hb, hml, hown, hts, hK, hD, hN, hJk⟩ := X
  have htr : e.platform.stackTraces = false := (show e.platform.stackTraces = l.stackTraces by rw [XT.admits.platform]).trans hlt
  have Y := x_rebase XT hc hs
  obtain ⟨s', hA⟩ : ∃ z, z = (T.setVm s.vm).setFrames (.invoking m args :: below) := ⟨_, rfl⟩
  rw [← hA] at Y
  have hvm : s'.vm = s.vm := by rw [hA]; rfl
  have hhp : s'.heap = H := by rw [hA]; exact hT
  have hW0 : s.WarmedH s'.vm := by rw [hvm]; exact State.WarmedH.refl s
  have hN' : N0 s' := hJk s s' hW0 (by rw [hhp]; exact hS.1) (by rw [hhp]; exact hS.2.1) hN
  have hts' : ∀ w ∈ Gw, w.before args s' = true := fun w hw => word_at hW0 (gw_good hw) (hts w hw)
  obtain ⟨hatoms, hk', hini', sa, hstr1, hstr2⟩ := hat s' hN' hts'
  have hown' : s'.vm.findClass own = some m.cls := by rw [hvm]; exact hown
  have hins : (Cond.instantiable cls 6).before args s' = true := hatoms _ (by simp [Bundle.ownAtoms])
  have hout : ∀ x ∈ c.exceptionTable.toList, covers x (pc + 9) = false := by
    intro x hx
    have : c.exceptionTable.toList = [] := by simpa using hE
    rw [this] at hx
    cases hx
  obtain ⟨vm1, cX, kX, hfX, hkX, -, -, X1, st1⟩ := Y.newCold hx (own := own) (C := cls) (index := ik) (n := 6) hown' hk' hins hini' (g := F0 m pc ls rest) rfl (by rw [hb]; exact d0) (Nat.le_refl _) (Nat.le_refl _)
  generalize hT1 : (T.setVm vm1).pushCell { cls := cX, slots := kX.instanceTypes.map defaultValue, vm := .none } = T1 at X1 st1
  have hcat : (Value.ref T.heap.size).category = 1 := rfl
  have hcellA : T1.heap[T.heap.size]? = some (freshCell cX kX) := by rw [← hT1]; exact State.heap_pushCell_size _ _
  have d3' : decode c.code (pc + 3) = .ok (.dup, 1) := by rw [hb]; exact d3
  have d4' : decode c.code (pc + 4) = .ok (.ldc is, 2) := by rw [hb]; exact d4
  obtain ⟨U, hsteps, hrun, hend, hW, hsame, ce, hce, hO⟩ := X1.ctorThrowS hx htr (own := own) (cls := cls) (names := names) (ic := ic) hown' hcls hnm hatoms (fun x hx => nomatch hx) hfX hkX hcellA (by rw [hhp, hT]; exact Nat.le_refl _) (msg := .ref sa) rfl
    (g := { method := m, pc := pc + 6, locals := ls, stack := .ref sa :: .ref T.heap.size :: .ref T.heap.size :: rest, locked := none }) rfl (hl.1.trans hml.symm) rfl rfl (rest := rest) rfl
    (by rw [hb]; exact d6) (by rw [hb]; exact d9) hout hf (by show 2 * 0 + _ + _ ≤ R.locals; simp only [List.map_cons, List.sum_cons, hcat]; omega) hlk
  obtain ⟨f1, f2⟩ := x_old hsame
  rw [hhp] at f1 f2
  have hWs : s.WarmedH U.vm := State.WarmedH.trans hW0 hW
  have hcl : s.vm.findClass cls = some ce.cls := by
    have h9 := hO.cls
    rw [hvm] at h9
    exact h9
  have hall : s.sameButNew ({ U with vm := s.vm } : State) locs mc ms := by
    subst hA
    obtain ⟨e1, e2⟩ := hsame
    rw [State.setFrames_setFrames] at e1
    have h2 : (T.setVm s.vm).sameButNew ({ U with vm := s.vm } : State) [] (0 + 1) (0 + 6) := ⟨e1, e2⟩
    have h3 := XT.same.trans h2
    rw [List.append_nil] at h3
    exact h3.mono hmc hms
  refine ⟨U, ?_, .threw T.heap.size, hrun, hend, hWs, ⟨locs, hall, hS.2.2⟩, ⟨Nat.le_trans hS.1 f1, fun q h1 h2 => (f2 q (Nat.lt_of_lt_of_le h1 hS.1)).trans (hS.2.1 q h1 h2)⟩, Or.inr ⟨T.heap.size, cls, ce, σ, rfl, h, hP.kept (fun k q hk => f2 q.1 ((hP k q hk).lt)), hce, hO.vm, hcl⟩⟩
  refine st1 _ ?_
  show Steps p.tables e below (T1.setTop { method := m, pc := pc + 3, locals := ls, stack := .ref T.heap.size :: rest, locked := none }) _
  jvm_step X1.here [X1.here.top, hx, d3', Value.category]
  exact X1.ldcString hx (own := own) (text := text) (index := is) (a := sa) hown' hstr1 hstr2
    (g := { method := m, pc := pc + 4, locals := ls, stack := .ref T.heap.size :: .ref T.heap.size :: rest, locked := none }) rfl d4' _ hsteps
end XX
end
section
/-! a call of a method that may throw, from a method with a table of handlers -/
section XC
variable {p : Program} {l : Launch} {e : Env} {R : Room} {s : State} {m : MethodId} {args : Array Value} {below : List Frame} {meth : Method} {c : Code} {cells slots : Nat} {Q : State → Prop}
variable {cc : ByteArray} {pc nL : Nat} {rest : List Value} {loc loc' : List (Nat × Value)} {wl : Jst → va_W} {D : va_G} {cl : List vw_C} {tys : List (ClassId × FieldType)} {A : Nat → Prop} {N0 : State → Prop} {σ : Jst} {own : String} {Ts : List Cond}
variable {K : Option Int32 → Jst → Prop} {KX : String → Jst → Prop} {mc ms : Nat}
set_option maxHeartbeats 2000000 in
theorem x_callV (X : Cx p s m args c cc nL own Ts D cl tys wl A N0) {y : MethodName} {ws : List Cond} {rm : Room} {bytes : ByteArray} {maxL idx n : Nat} {ret : Option FieldType} {As st0 : List Value} {b ci q0 : Nat} {C : String} {T0 : u_T} {N : Nat} {fs : List Value}
    (hM : XMet l y ws rm (va_Pc (.ref b :: As) (Jw D cl tys wl N0 σ)) D cl wl A K KX mc ms) (cw : CallW R s args own C idx y bytes maxL ret ws rm mc ms n) (he : (wl σ)[q0]? = some (b, .inr (ci, fs))) (hc : cl[ci]? = some (C, T0, N)) (hst : st0 = As.reverse ++ .ref b :: rest) (hn : As.length = n) (hro : (rest.map fun v => v.category).sum ≤ 8) (hcs : cells + mc ≤ R.cells ∧ slots + ms ≤ R.slots) (d : decode cc pc = .ok (.invokevirtual idx, 3))
    (k : ∀ (r : Option Int32) (σ1 : Jst), K r σ1 → J p l e R s m args below meth c D cl wl A nL (cells + mc) (slots + ms) Q (pc + 3) loc ((r.map Value.int).toList ++ rest) σ1)
    (kx : ∀ (E : String) (σ1 : Jst), KX E σ1 → ∃ (pre : List ExceptionTableEntry) (x : ExceptionTableEntry) (suf : List ExceptionTableEntry), c.exceptionTable.toList = pre ++ x :: suf ∧ (∀ z ∈ pre, z.catchType ≠ 0 ∧ ∃ nm : String, (Cond.classLink own z.catchType nm).before args s = true ∧ va_Nc E nm s) ∧ covers x pc = true ∧ x.catchType ≠ 0 ∧
      (∃ nm : String, (Cond.classLink own x.catchType nm).before args s = true ∧ va_Nw (.castable E nm) s) ∧ ∀ q : Addr, J p l e R s m args below meth c D cl wl A nL (cells + mc) (slots + ms) Q x.handlerPc loc [.ref q] σ1) :
    J p l e R s m args below meth c D cl wl A nL cells slots Q pc loc st0 σ := by
  intro H locs ls hl hP hS T hT XT
  obtain ⟨hx, hb, hml, hown, hts, hK, hD, hN, hJk⟩ := X
  obtain ⟨⟨hrc, hrs, hfr, hlo, hws, hcw, hcode, hini, hyy, hlen, hlink⟩, hin, hse⟩ := cw
  obtain ⟨cellB, hcB, hoB, hclB⟩ := va_recv hK hP hc he
  obtain ⟨mk, methM, hnamed, hmethM, hstM, habM⟩ := Cond.instanceMethod_spec hin
  obtain ⟨methM', cM, hmethM', hcM, -, hlM, -, -, -, hsigM⟩ := Cond.code_spec hnamed hcode
  cases hmethM.symm.trans hmethM'
  obtain ⟨c2, r2, m2, q1, q2, q3, q4, kP, hkP, hkPi⟩ := Cond.selects_spec hse
  cases hclB.symm.trans q1
  cases (State.methodFound?_of_named hnamed hyy).symm.trans q2
  cases hnamed.symm.trans q3
  have hselP : selectMethod e.platform s.vm cellB.cls mk = .method mk := by rw [Launch.admits_selectMethod XT.admits]; exact q4
  have dg : decode c.code pc = .ok (.invokevirtual idx, 3) := by rw [hb]; exact d
  obtain ⟨vm1, X1, hstep1⟩ := XT.invokevirtual hx hown hlink hnamed hmethM hstM hkP hkPi hyy (a := b) (cell := cellB) (by rw [hT]; exact hcB)
    (fun z h => by rw [h] at hoB; cases hoB) hselP hmethM habM hkP hkPi (g := F0 m pc ls st0) rfl (argsL := As) (rest := rest) (hn.trans (hlen _ hsigM)) hst dg
  have hn1 := X1.named hnamed
  obtain ⟨methY, cY, hmY, hcY, -, hlY, -, -, -, -⟩ := Cond.code_spec (args := args) hn1 (hws _ hcw args _ X1.warmed)
  obtain ⟨kY, hkY, -⟩ := className_of_methodNamed hn1
  have hinitY : kY.init = .initialized := Cond.initialized_spec (args := args) (findClass_of_methodNamed hn1) hkY (word_at X1.warmed (Or.inl (by first | rfl | simp [Cond.onTables, Cond.keeps, Cond.steady])) hini)
  have hAt : At (T.setVm vm1) m c below := X1.here
  have hsz : (F0 m pc ls rest).locals.size = c.maxLocals := hl.1.trans hml.symm
  have hcat : 2 * (F0 m pc ls rest).monitorRoom + ((F0 m pc ls rest).stack.map fun v => v.category).sum ≤ 8 := lv_room hro
  have happ : (headSpec ws rm).appliesLoose y e.platform ((T.setVm vm1).calling (F0 m pc ls rest) mk (Value.ref b :: As).toArray) = true :=
    Spec.appliesLoose_calling (g := F0 m pc ls rest) hAt dg hn1 hkY hinitY
      (X1.room_calling (g := F0 m pc ls rest) (R' := rm) hsz hmY hcY hfr (by rw [hlY]; omega) (by rw [hrc]; exact hcs.1) (by rw [hrs]; exact hcs.2)) (atoms_intro fun w hw => hws w hw _ _ X1.warmed)
  obtain ⟨mid, hmid⟩ := hAt.above
  have hfr9 : ((T.setVm vm1).setTop (F0 m pc ls rest)).frames = (.java (F0 m pc ls rest) :: mid) ++ below := by rw [State.frames_setTop' _ hAt.top, hmid]; rfl
  have hJw : Jw D cl tys wl N0 σ (T.setVm vm1) := ⟨by show va_P D cl (wl σ) T.heap; rw [hT]; exact hP, va_K.moved X1.warmed.alike hK, hJk s _ X1.warmed (by show s.heap.size ≤ T.heap.size; rw [hT]; exact hS.1) (by show ∀ q : Nat, q < s.heap.size → ¬ A q → T.heap[q]? = s.heap[q]?; rw [hT]; exact hS.2.1) hN⟩
  obtain ⟨o, s2, hsteps, -, hend, hq⟩ := Steps.callFree hM p X1.admits X1.cas X1.clock (acts := []) hfr9 happ (j_blind hJk _ _ _ _ ⟨rfl, hJw⟩) trivial
  have hq' : XQ D cl wl A K KX mc ms (Value.ref b :: As).toArray ((T.setVm vm1).calling (F0 m pc ls rest) mk (Value.ref b :: As).toArray) o s2 := hq
  rw [State.frames_setTop' _ hAt.top, X1.tail] at hend
  obtain ⟨hW2, ⟨L, hsame, hL⟩, hF, hcase⟩ := hq'
  have hF1 : H.size ≤ s2.heap.size := by have := hF.1; rw [show ((T.setVm vm1).calling (F0 m pc ls rest) mk (Value.ref b :: As).toArray).heap = T.heap from rfl, hT] at this; exact this
  have hF2 : ∀ q : Nat, q < H.size → ¬ A q → s2.heap[q]? = H[q]? := by have := hF.2; rw [show ((T.setVm vm1).calling (F0 m pc ls rest) mk (Value.ref b :: As).toArray).heap = T.heap from rfl, hT] at this; exact this
  have hS2 : va_S A s.heap s2.heap (locs ++ L) := ⟨Nat.le_trans hS.1 hF1, fun q h1 h2 => (hF2 q (Nat.lt_of_lt_of_le h1 hS.1) h2).trans (hS.2.1 q h1 h2), fun q hq => (List.mem_append.mp hq).elim (hS.2.2 q) (hL q)⟩
  rcases hcase with ⟨r, u, rfl, hk, hP2⟩ | ⟨q, E, ce, u, rfl, hk, hP2, hce, hcv, hcl⟩
  · obtain ⟨T2, X2, -, -, ht⟩ := X1.outOf (g := F0 m pc ls rest) rfl dg hend hW2 hsame
    have hh2 : T2.heap = s2.heap := by rw [ht]; rfl
    obtain ⟨t, a1, b1⟩ := k r u hk T2.heap (locs ++ L) ls hl (by rw [hh2]; exact hP2) (by rw [hh2]; exact hS2) T2 rfl X2
    refine ⟨t, hstep1 _ fun acts => ?_, b1⟩
    rw [doInvoke_state]
    refine hsteps.trans ?_
    rw [ht]
    exact a1
  · obtain ⟨T2, X2, -, -, ht⟩ := X1.outOfThrown (g := F0 m pc ls rest) rfl hend hW2 hsame
    have hh2 : T2.heap = s2.heap := by rw [ht, throwing_heap]
    obtain ⟨pre, x, suf, hsplit, hpass, hcov, h0, ⟨nm, hl1, hca⟩, kk⟩ := kx E u hk
    have hpl : e.platform.magicAccessors = ({} : Platform).magicAccessors := by rw [XT.admits.platform]
    have hcl' : s.vm.findClass E = some ce.cls := by
      have h9 : (T.setVm vm1).vm.findClass E = some ce.cls := hcl
      rw [X1.warmed.alike.findClass] at h9
      exact h9
    obtain ⟨c3, c4, hc3, hc4, hasg⟩ := Cond.castable_spec (va_Nw.use (A := args) rfl hca)
    cases Option.some.inj (hc3.symm.trans hcl')
    obtain ⟨c5, hc5, hcl5⟩ := Cond.classLink_spec hown hl1 e.platform hpl
    cases Option.some.inj (hc4.symm.trans hc5)
    obtain ⟨vm3, X3, st3⟩ := X2.thenCaughtThrough q (g := F0 m pc ls rest) rfl (Steps.refl _) (by rw [hh2]; exact hce) (by rw [hcv]; rfl) (by obtain ⟨k9, h9, -⟩ := Vm.findClass_spec hcl'; exact ⟨k9, h9⟩) pre x suf hsplit
      (fun z hz => by
        obtain ⟨hz0, nm2, hl2, hn2⟩ := hpass z hz
        obtain ⟨c6, hc6, hcl6⟩ := Cond.classLink_spec hown hl2 e.platform hpl
        obtain ⟨a8, b8, g1, g2, g3⟩ := hn2
        cases Option.some.inj (g1.symm.trans hcl')
        cases Option.some.inj (g2.symm.trans hc6)
        exact Or.inr ⟨hz0, _, hcl6, g3⟩) hcov (Or.inr ⟨h0, c4, hcl5, hasg⟩)
    obtain ⟨t, a1, b1⟩ := kk q (T2.setVm vm3).heap (locs ++ L) ls hl (by show va_P D cl (wl u) T2.heap; rw [hh2]; exact hP2) (by show va_S A s.heap T2.heap _; rw [hh2]; exact hS2) (T2.setVm vm3) rfl X3
    refine ⟨t, hstep1 _ fun acts => ?_, b1⟩
    rw [doInvoke_state]
    refine hsteps.trans ?_
    rw [ht]
    exact st3.trans a1
/-- a method with a table of handlers -/
theorem x_metW {y : MethodName} {ws ws' : List Cond} {rm : Room} {maxL : Nat} {ret : Option FieldType} {hh : List (Nat × Nat × Nat × Nat)} {vs : List Value} {Qc : Array Value → State → Outcome → State → Prop} {free : Addr → Prop} (hy : plainName y.cls = true) (hw : ws = Cond.codeWith y cc maxL ret hh :: ws') (hn : (lg_sl vs).length ≤ maxL) (ho : own = y.cls) (hD : ∀ σ, va_D A (wl σ)) (hN : Jk A N0)
    (body : ∀ (p : Program) (e : Env) (s : State) (m : MethodId) (args : Array Value) (below : List Frame) (meth : Method) (c : Code), Cx p s m args c cc maxL own ws' D cl tys wl A N0 → meth.locks = false → meth.sig.returnType = ret → c.exceptionTable.toList.map (fun h => (h.startPc, h.endPc, h.handlerPc, h.catchType)) = hh → J p l e rm s m args below meth c D cl wl A maxL 0 0 (MQ below Qc args s mc ms free) 0 (lv_args 0 vs) [] σ) :
    Met l y ws rm (va_Pc vs (Jw D cl tys wl N0 σ)) Qc mc ms free := by
  refine va_MetW hy hw ?_
  intro p e s m args below meth c s₁ B hml hv
  obtain ⟨rfl, hP, hK, hN1⟩ := hv
  have hts := atoms_spec (ws := ws) B.pre
  have hown : s.vm.findClass own = some m.cls := by rw [ho]; exact findClass_of_methodNamed B.named
  obtain ⟨m9, meth9, c9, hn9, hm9, hc9, -, -, htab, -⟩ := Cond.codeWith_spec (hts _ (by rw [hw]; exact List.mem_cons_self))
  cases B.named.symm.trans hn9
  cases B.method.symm.trans hm9
  cases (Stand.of_body B).code.symm.trans hc9
  rw [lg_entry_eq]
  exact body p e s m _ below meth c ⟨B.exec, B.bytes, hml, hown, fun w h => hts w (by rw [hw]; exact List.mem_cons_of_mem _ h), hK, hD, hN1, hN⟩ B.notSynchronized B.returns htab s.heap [] _ (lv_entry vs hn) hP va_S.rf
end XC
end
section
/-! the throw sites of TeleStack; the handlers of the law's methods -/
abbrev excN : List String := ["java/lang/RuntimeException", "java/lang/Exception"]
def stL : List Cond := [.laysStatic Bundle.tN "UNASSIGNED_STACK" Bundle.steD, .laysStatic Bundle.tN "SUPPRESSED_SENTINEL" Bundle.listD, .isRef (.static Bundle.tN "UNASSIGNED_STACK" Bundle.steD), .isRef (.static Bundle.tN "SUPPRESSED_SENTINEL" Bundle.listD)]
theorem stL_ok {sz : Nat} {U : State} {args : Array Value} (h : NwT sz U) : ∀ w ∈ stL, w.before args U = true := by
  intro w hw
  simp only [stL, List.mem_cons, List.not_mem_nil, or_false] at hw
  rcases hw with rfl | rfl | rfl | rfl
  · exact h.2.2.1.lays
  · exact h.2.2.2.1.lays
  · exact h.2.2.1.ref
  · exact h.2.2.2.1.ref
theorem nwL_use {sz : Nat} {U : State} {args : Array Value} (h : NwT sz U) : ∀ w ∈ nwL, w.before args U = true := fun w hw => va_Nw.use ((by decide +kernel : ∀ w ∈ nwL, w.onTables = true) w hw) (h.1 w hw)
theorem str_use {sz : Nat} {U : State} {args : Array Value} (h : NwT sz U) {k : Nat} {t : String} (hk : (k, t) ∈ strL) : ∃ sa, (Cond.stringRef R_T k t).before args U = true ∧ (Term.string R_T k).eval args U none [] U = some (.ref sa) := by
  obtain ⟨a, h1, h2⟩ := h.2.2.2.2.1 _ hk
  exact ⟨a, h1, h2⟩
theorem tab1 {L : List ExceptionTableEntry} {a b h t : Nat} (hm : L.map (fun h => (h.startPc, h.endPc, h.handlerPc, h.catchType)) = [(a, b, h, t)]) : ∃ x : ExceptionTableEntry, L = [x] ∧ x.startPc = a ∧ x.endPc = b ∧ x.handlerPc = h ∧ x.catchType = t := by
  match L, hm with
  | [x], hm =>
    simp only [List.map_cons, List.map_nil, List.cons.injEq, Prod.mk.injEq, and_true] at hm
    exact ⟨x, rfl, hm.1, hm.2.1, hm.2.2.1, hm.2.2.2⟩
theorem tab2 {L : List ExceptionTableEntry} {a b h t a2 b2 h2 t2 : Nat} (hm : L.map (fun h => (h.startPc, h.endPc, h.handlerPc, h.catchType)) = [(a, b, h, t), (a2, b2, h2, t2)]) : ∃ x y : ExceptionTableEntry, L = [x, y] ∧ (x.startPc = a ∧ x.endPc = b ∧ x.handlerPc = h ∧ x.catchType = t) ∧ (y.startPc = a2 ∧ y.endPc = b2 ∧ y.handlerPc = h2 ∧ y.catchType = t2) := by
  match L, hm with
  | [x, y], hm =>
    simp only [List.map_cons, List.map_nil, List.cons.injEq, Prod.mk.injEq, and_true] at hm
    exact ⟨x, y, rfl, ⟨hm.1.1, hm.1.2.1, hm.1.2.2.1, hm.1.2.2.2⟩, ⟨hm.2.1, hm.2.2.1, hm.2.2.2.1, hm.2.2.2.2⟩⟩
end
section
/-! java.util.NoSuchElementException: its constructor passes the message on by another entry of its pool than the other three -/
abbrev nseC : String := "java/util/NoSuchElementException"
abbrev nseB : ByteArray := prog_21_method_4_code
def atN (own : String) (ic : Nat) : List Cond :=
  Bundle.throwableAtoms ++ Bundle.throwableSAtoms ++ Bundle.passSAtoms nseC "java/lang/RuntimeException" 13 nseB ++ Bundle.chainSAtoms "java/lang/RuntimeException" ["java/lang/Exception"] ++
  [.methodLink own ic (Bundle.initS nseC), .instantiable nseC 6, .castable nseC nseC, .selects nseC Bundle.tFill0 Bundle.tFill0, .selects nseC Bundle.tFill Bundle.tFill,
   .lays nseC Bundle.tN "cause" "Ljava/lang/Throwable;", .lays nseC Bundle.tN "stackTrace" Bundle.steD, .lays nseC Bundle.tN "suppressedExceptions" Bundle.listD, .lays nseC Bundle.tN "detailMessage" "Ljava/lang/String;",
   .isRef (.static Bundle.tN "UNASSIGNED_STACK" Bundle.steD), .isRef (.static Bundle.tN "SUPPRESSED_SENTINEL" Bundle.listD),
   .fieldLink Bundle.tN 198 Bundle.tN "backtrace" "Ljava/lang/Object;", .lays Bundle.tN Bundle.tN "backtrace" "Ljava/lang/Object;", .lays nseC Bundle.tN "backtrace" "Ljava/lang/Object;"]
section XN
variable {p : Program} {l : Launch} {e : Env} {R : Room} {s : State} {m₀ : MethodId} {args : Array Value} {below : List Frame} {meth : Method} {c : Code} {W9 : State} {locs : List Loc} {cells slots : Nat}
set_option maxHeartbeats 2000000 in
theorem nse_ctor (X : Stand p l e R s m₀ args below meth c W9 locs cells slots) (hexec : p.tables.exec = Jvm.exec) (htr : e.platform.stackTraces = false) {own : String} {ic : Nat}
    (hown : s.vm.findClass own = some m₀.cls) (h : ∀ a ∈ atN own ic, a.before args s = true) (hlocs : ∀ x ∈ locs, ∀ cell, s.heap[x.base]? = some cell → cell.vm.isStatics = false)
    {a : Addr} {cX : ClassId} {kX : Class} (hfoundX : s.vm.findClass nseC = some cX) (hkX : s.vm.classes[cX]? = some kX) (hcell : W9.heap[a]? = some (freshCell cX kX)) (hnew : s.heap.size ≤ a) {msg : Value} (hmsg : msg.isRef = true)
    {g : JFrame} (hg : g.method = m₀) (hsize : g.locals.size = c.maxLocals) (hlocked : g.locked = none) (hentered : g.entered = []) {rest : List Value} (hstack : g.stack = msg :: .ref a :: .ref a :: rest)
    (hd6 : decode c.code g.pc = .ok (.invokespecial ic, 3)) (hd9 : decode c.code (g.pc + 3) = .ok (.athrow, 1)) (hout : ∀ x ∈ c.exceptionTable.toList, covers x (g.pc + 3) = false)
    (hRframes : 5 < R.frames) (hRlocals : 2 * g.monitorRoom + ((Value.ref a :: rest).map fun v => v.category).sum + 81 ≤ R.locals) (hlocks : meth.locks = false) :
    ∃ U : State, Steps p.tables e below (W9.setTop g) U ∧ U.status = .running ∧ Ended U below (.threw a) ∧ s.WarmedH U.vm ∧ s.sameButNew ({ U with vm := s.vm } : State) locs cells slots ∧ ∃ ce : Cell, U.heap[a]? = some ce ∧ ce.vm = .none ∧ s.vm.findClass nseC = some ce.cls := by
  have howns : e.platform.frameOwnsMonitors = true := by rw [X.admits.platform]
  have hfin : e.platform.finalization = false := by rw [X.admits.platform]
  have hpl : e.platform.magicAccessors = ({} : Platform).magicAccessors := by rw [X.admits.platform]
  have a' : ∀ x, x ∈ atN own ic → x.holds args s none s [] = true := fun x hx => h x hx
  obtain ⟨T, Z0, L, -, Y⟩ := ThrowableC.of_atoms (args := args) howns hfin hpl (fun x hx => h x (by simp [atN, hx]))
  obtain ⟨Z, M, LZ, LM, hnZ⟩ := Init0T.ofS_atoms (args := args) hpl L Y (fun x hx => h x (by simp [atN, hx]))
  obtain ⟨P2, Ps, hlen, L2, hL, hP2m, hlink2, hlink⟩ := Bundle.chainS (args := args) hpl hnZ ["java/lang/Exception"] "java/lang/RuntimeException" (by decide) (by decide) (fun x hx => h x (by simp [atN, hx]))
  obtain ⟨P1, L1, hP1m, hP1s⟩ := PassC.ofS_atoms (args := args) (s := s) hpl (X := nseC) (Y := "java/lang/RuntimeException") (index := 13) (bytes := nseB) (by decide) ⟨by decide, by decide⟩ (by decide +kernel) (by decide +kernel) (by decide +kernel) (by decide +kernel) (fun x hx => h x (by simp [atN, hx]))
  have hP12 : P1.sup = P2.m := Option.some.inj (hP1s.symm.trans hP2m)
  have hfound : s.vm.findClass nseC = some P1.m.cls := findClass_of_methodNamed hP1m
  cases Option.some.inj (hfoundX.symm.trans hfound)
  obtain ⟨c1, kX', hc1, hk, hord, -, -, hn6⟩ := Cond.instantiable_spec (a' (.instantiable nseC 6) (by simp [atN]))
  cases Option.some.inj (hc1.symm.trans hfound)
  cases Option.some.inj (hkX.symm.trans hk)
  have hsel0 : selectMethod e.platform s.vm P1.m.cls T.fill0 = .method T.fill0 := by
    obtain ⟨c2, r2, m2, q1, q2, q3, q4, -⟩ := Cond.selects_spec (a' (.selects nseC Bundle.tFill0 Bundle.tFill0) (by simp [atN]))
    cases Option.some.inj (q1.symm.trans hfound)
    cases Option.some.inj (q2.symm.trans (State.methodFound?_of_named Y.fill0 (by decide)))
    cases Option.some.inj (q3.symm.trans Y.fill0)
    rw [Launch.admits_selectMethod X.admits]; exact q4
  have hselF : selectMethod e.platform s.vm P1.m.cls T.fill = .method T.fill := by
    obtain ⟨c2, r2, m2, q1, q2, q3, q4, -⟩ := Cond.selects_spec (a' (.selects nseC Bundle.tFill Bundle.tFill) (by simp [atN]))
    cases Option.some.inj (q1.symm.trans hfound)
    cases Option.some.inj (q2.symm.trans (State.methodFound?_of_named Y.fill (by decide)))
    cases Option.some.inj (q3.symm.trans Y.fill)
    rw [Launch.admits_selectMethod X.admits]; exact q4
  obtain ⟨cellS0, hcS0, hiss⟩ := Y.statics
  obtain ⟨u0, hu0⟩ := Cond.staticRefV Y.unassigned L.unassignedStatic L.statics hcS0 hiss (a' (.isRef (.static Bundle.tN "UNASSIGNED_STACK" Bundle.steD)) (by simp [atN]))
  obtain ⟨sen, hsen⟩ := Cond.staticRefV Y.sentinel L.sentinelStatic L.statics hcS0 hiss (a' (.isRef (.static Bundle.tN "SUPPRESSED_SENTINEL" Bundle.listD)) (by simp [atN]))
  obtain ⟨ci198, i198, fB, hk198, hg198, ha198, hsB, -, hnB, htB, hffB⟩ := Cond.ownField (t := .object "java/lang/Object") Y.found L.cls (by decide +kernel) (a' (.fieldLink Bundle.tN 198 Bundle.tN "backtrace" "Ljava/lang/Object;") (by simp [atN])) (a' (.lays Bundle.tN Bundle.tN "backtrace" "Ljava/lang/Object;") (by simp [atN])) e.platform hpl
  obtain ⟨cellS, hcS', heS, -, hkeep⟩ := X.same.2.2.2.2.2 T.aS cellS0 hcS0
  have hcellS : W9.heap[T.aS]? = some cellS := hcS'
  have hout' : ∀ i, (⟨T.aS, i⟩ : Loc) ∉ locs := fun i hmem => by
    have := hlocs _ hmem cellS0 hcS0
    rw [hiss] at this; cases this
  have hknownS : cellS.vm ≠ .unknown := by
    rw [heS]; intro hu
    rw [show cellS0.vm = .unknown from hu] at hiss
    cases hiss
  have hneS : T.aS ≠ a := Nat.ne_of_lt (Nat.lt_of_lt_of_le (Array.getElem?_eq_some_iff.mp hcS0).1 hnew)
  obtain ⟨iM, hffM⟩ := Y.msg
  obtain ⟨tyC, dC, hdC, hdnC⟩ := Cond.laysAt hfound hk Y.cause (a' (.lays nseC Bundle.tN "cause" "Ljava/lang/Throwable;") (by simp [atN]))
  obtain ⟨tyS, dS, hdS, hdnS⟩ := Cond.laysAt hfound hk Y.stack (a' (.lays nseC Bundle.tN "stackTrace" Bundle.steD) (by simp [atN]))
  obtain ⟨tyP, dP, hdP, hdnP⟩ := Cond.laysAt hfound hk Y.supp (a' (.lays nseC Bundle.tN "suppressedExceptions" Bundle.listD) (by simp [atN]))
  obtain ⟨tyM, dM, hdM, hdnM⟩ := Cond.laysAt hfound hk hffM (a' (.lays nseC Bundle.tN "detailMessage" "Ljava/lang/String;") (by simp [atN]))
  obtain ⟨tyB, dB, hdB, hdnB⟩ := Cond.laysAt hfound hk hffB (a' (.lays nseC Bundle.tN "backtrace" "Ljava/lang/Object;") (by simp [atN]))
  have bC := Cond.laysApart hdB hdC hdnB hdnC (by rw [hnB, Y.causeName]; decide)
  have bS := Cond.laysApart hdB hdS hdnB hdnS (by rw [hnB, Y.stackName]; decide)
  have bP := Cond.laysApart hdB hdP hdnB hdnP (by rw [hnB, Y.suppName]; decide)
  have hskip : SkipFacts T e.platform s (fun u => u) u0 ((preparedCellV T.toThrowableT (freshCell P1.m.cls kX) a u0 sen).withEntry W9.cur) :=
    ⟨{ ci198 := ci198, i198 := i198, fBack := fB }, ⟨hk198, hg198, ha198, hsB⟩, by
      have := fresh_default (c := P1.m.cls) tyB
      rw [htB] at this
      simpa [preparedCellV, Cell.setSlot, Cell.withEntry, Array.getElem?_setIfInBounds, bC, bS, bP, bC.symm, bS.symm, bP.symm, defaultValue] using this, fun _ _ => rfl⟩
  obtain ⟨tm, methC, cdC, kC, vm₁, hnC, -, -, -, -, -, -, -, hW₁, st1⟩ := Steps.initColdS (tb := p.tables) (e := e) (below := below) (s := s) (U := W9) X.here hexec X.warmed hpl hown (t := Bundle.initS nseC) rfl rfl ⟨by decide, by decide⟩
    (a' (.methodLink own ic (Bundle.initS nseC)) (by simp [atN])) (h (.instanceMethod (Bundle.initS nseC)) (by simp [atN, Bundle.passSAtoms])) (bytes := nseB) (maxL := 2) (h (.code (Bundle.initS nseC) nseB 2 none) (by simp [atN, Bundle.passSAtoms]))
    (f := g) hg (a := a) (msg := msg) (rest := .ref a :: rest) hstack hd6
  cases Option.some.inj (hnC.symm.trans hP1m)
  have X₁ := X.noted hW₁
  obtain ⟨vm₂, X₂, st2⟩ := X₁.ctorMessageOffV hexec (g := { g with stack := .ref a :: rest }) hg hsize T L Z LZ M LM (P1 :: P2 :: Ps)
    (fun P hP => by
      rcases List.mem_cons.mp hP with rfl | hP
      · exact L1
      · rcases List.mem_cons.mp hP with rfl | hP
        · exact L2
        · exact hL P hP) ⟨hP12, hlink2, hlink⟩ (u0 := u0) (sen := sen) (self := a) hmsg (cell := freshCell P1.m.cls kX) (cellS := cellS)
    hcell (fun _ => by simp) (by simp) rfl rfl hsel0 hselF hcellS hneS hknownS (by rw [hkeep _ (hout' _)]; exact hu0) (by rw [hkeep _ (hout' _)]; exact hsen)
    (Takes.of_laid hk hord tyC (by rw [Y.causeType]; rfl)) (Takes.of_laid hk hord tyS (by rw [Y.stackType]; exact fits_refV_array _ u0)) (Takes.of_laid hk hord tyP (by rw [Y.suppType]; exact fits_refV_object _ sen))
    (Takes.of_laid hk hord tyM (by rw [Y.msgType]; exact fits_refV_object _ ⟨msg, hmsg⟩)) Y.objLocals hskip htr [] hd6
    (by simp only [List.length_cons, hlen, List.length_nil]; omega) (by simp only [List.length_cons, hlen, List.length_nil]; omega)
  obtain ⟨hwalk, hrun, hended, hWU, hsame⟩ := X₂.athrowLeaves hexec (g := { g with stack := .ref a :: rest, pc := g.pc + 3 }) hg hlocked hentered hout (a := a) (rest := rest) rfl hd9
  have hlt : a < ((W9.setVm vm₁).setVm vm₂).heap.size := (Array.getElem?_eq_some_iff.mp hcell).1
  have hU := heapAt_setCell_self (s := (W9.setVm vm₁).setVm vm₂) (plainBareV T.toThrowableT (freshCell P1.m.cls kX) a u0 sen msg) hlt
  refine ⟨_, st1 _ (fun acts => ?_), hrun, hended, hWU, hsame.weaken (fun y hy hlt' => ?_) (Nat.le_refl _) (Nat.le_refl _), _, hU, rfl, hfound⟩
  · rw [doInvoke_state]
    exact st2 _ hwalk
  · rcases List.mem_append.mp hy with h1 | h1
    · exact h1
    · exfalso
      have hb : y.base = a := by
        simp only [List.mem_cons, List.not_mem_nil, or_false] at h1
        rcases h1 with rfl | rfl | rfl | rfl | rfl <;> rfl
      rw [hb] at hlt'
      exact Nat.not_lt.mpr hnew hlt'
end XN
section XO
variable {p : Program} {l : Launch} {e : Env} {R : Room} {s : State} {m : MethodId} {args : Array Value} {below : List Frame} {meth : Method} {c : Code} {cells slots : Nat} {Q : State → Prop}
variable {cc : ByteArray} {pc nL : Nat} {rest : List Value} {loc loc' : List (Nat × Value)} {wl : Jst → va_W} {D : va_G} {cl : List vw_C} {tys : List (ClassId × FieldType)} {A : Nat → Prop} {N0 : State → Prop} {σ : Jst} {own : String} {Ts : List Cond}
variable {K : Option Int32 → Jst → Prop} {KX : String → Jst → Prop} {mc ms : Nat}
set_option maxHeartbeats 2000000 in
/-- throw new NoSuchElementException("text") -/
theorem x_throwN (X : Cx p s m args c cc nL own Gw D cl tys wl A N0) (hlt : l.stackTraces = false) (hlk : meth.locks = false) (hE : c.exceptionTable.isEmpty = true) {text : String} {ik is ic : Nat}
    (hat : ∀ s' : State, N0 s' → (∀ w ∈ Gw, w.before args s' = true) → (∀ w ∈ atN own ic, w.before args s' = true) ∧ (Cond.classLink own ik nseC).before args s' = true ∧ (Cond.initialized nseC).before args s' = true ∧ ∃ sa, (Cond.stringRef own is text).before args s' = true ∧ (Term.string own is).eval args s' none [] s' = some (.ref sa))
    (d0 : decode cc pc = .ok (.new ik, 3)) (d3 : decode cc (pc + 3) = .ok (.dup, 1)) (d4 : decode cc (pc + 4) = .ok (.ldc is, 2)) (d6 : decode cc (pc + 6) = .ok (.invokespecial ic, 3)) (d9 : decode cc (pc + 9) = .ok (.athrow, 1))
    (hf : 5 < R.frames) (hlo : (rest.map fun v => v.category).sum + 82 ≤ R.locals) (hc : cells + 1 ≤ R.cells) (hs : slots + 6 ≤ R.slots) (hmc : cells + 1 ≤ mc) (hms : slots + 6 ≤ ms) (h : KX nseC σ) :
    J p l e R s m args below meth c D cl wl A nL cells slots (XE below D cl wl A K KX args s mc ms) pc loc rest σ := by
  intro H locs ls hl hP hS T hT XT
  obtain ⟨hx, hb, hml, hown, hts, hK, hD, hN, hJk⟩ := X
  have htr : e.platform.stackTraces = false := (show e.platform.stackTraces = l.stackTraces by rw [XT.admits.platform]).trans hlt
  have Y := x_rebase XT hc hs
  obtain ⟨s', hA⟩ : ∃ z, z = (T.setVm s.vm).setFrames (.invoking m args :: below) := ⟨_, rfl⟩
  rw [← hA] at Y
  have hvm : s'.vm = s.vm := by rw [hA]; rfl
  have hhp : s'.heap = H := by rw [hA]; exact hT
  have hW0 : s.WarmedH s'.vm := by rw [hvm]; exact State.WarmedH.refl s
  have hN' : N0 s' := hJk s s' hW0 (by rw [hhp]; exact hS.1) (by rw [hhp]; exact hS.2.1) hN
  have hts' : ∀ w ∈ Gw, w.before args s' = true := fun w hw => word_at hW0 (gw_good hw) (hts w hw)
  obtain ⟨hatoms, hk', hini', sa, hstr1, hstr2⟩ := hat s' hN' hts'
  have hown' : s'.vm.findClass own = some m.cls := by rw [hvm]; exact hown
  have hins : (Cond.instantiable nseC 6).before args s' = true := hatoms _ (by simp [atN])
  have hout : ∀ x ∈ c.exceptionTable.toList, covers x (pc + 9) = false := by
    intro x hx
    have : c.exceptionTable.toList = [] := by simpa using hE
    rw [this] at hx
    cases hx
  obtain ⟨vm1, cX, kX, hfX, hkX, -, -, X1, st1⟩ := Y.newCold hx (own := own) (C := nseC) (index := ik) (n := 6) hown' hk' hins hini' (g := F0 m pc ls rest) rfl (by rw [hb]; exact d0) (Nat.le_refl _) (Nat.le_refl _)
  generalize hT1 : (T.setVm vm1).pushCell { cls := cX, slots := kX.instanceTypes.map defaultValue, vm := .none } = T1 at X1 st1
  have hcat : (Value.ref T.heap.size).category = 1 := rfl
  have hcellA : T1.heap[T.heap.size]? = some (freshCell cX kX) := by rw [← hT1]; exact State.heap_pushCell_size _ _
  have d3' : decode c.code (pc + 3) = .ok (.dup, 1) := by rw [hb]; exact d3
  have d4' : decode c.code (pc + 4) = .ok (.ldc is, 2) := by rw [hb]; exact d4
  obtain ⟨U, hsteps, hrun, hend, hW, hsame, ce, hce, hOv, hOc⟩ := nse_ctor X1 hx htr (own := own) (ic := ic) hown' hatoms (fun x hx => nomatch hx) hfX hkX hcellA (by rw [hhp, hT]; exact Nat.le_refl _) (msg := .ref sa) rfl
    (g := { method := m, pc := pc + 6, locals := ls, stack := .ref sa :: .ref T.heap.size :: .ref T.heap.size :: rest, locked := none }) rfl (hl.1.trans hml.symm) rfl rfl (rest := rest) rfl
    (by rw [hb]; exact d6) (by rw [hb]; exact d9) hout hf (by show 2 * 0 + _ + _ ≤ R.locals; simp only [List.map_cons, List.sum_cons, hcat]; omega) hlk
  obtain ⟨f1, f2⟩ := x_old hsame
  rw [hhp] at f1 f2
  have hWs : s.WarmedH U.vm := State.WarmedH.trans hW0 hW
  have hcl : s.vm.findClass nseC = some ce.cls := by
    have h9 := hOc
    rw [hvm] at h9
    exact h9
  have hall : s.sameButNew ({ U with vm := s.vm } : State) locs mc ms := by
    subst hA
    obtain ⟨e1, e2⟩ := hsame
    rw [State.setFrames_setFrames] at e1
    have h2 : (T.setVm s.vm).sameButNew ({ U with vm := s.vm } : State) [] (0 + 1) (0 + 6) := ⟨e1, e2⟩
    have h3 := XT.same.trans h2
    rw [List.append_nil] at h3
    exact h3.mono hmc hms
  refine ⟨U, ?_, .threw T.heap.size, hrun, hend, hWs, ⟨locs, hall, hS.2.2⟩, ⟨Nat.le_trans hS.1 f1, fun q h1 h2 => (f2 q (Nat.lt_of_lt_of_le h1 hS.1)).trans (hS.2.1 q h1 h2)⟩, Or.inr ⟨T.heap.size, nseC, ce, σ, rfl, h, hP.kept (fun k q hk => f2 q.1 ((hP k q hk).lt)), hce, hOv, hcl⟩⟩
  refine st1 _ ?_
  show Steps p.tables e below (T1.setTop { method := m, pc := pc + 3, locals := ls, stack := .ref T.heap.size :: rest, locked := none }) _
  jvm_step X1.here [X1.here.top, hx, d3', Value.category]
  exact X1.ldcString hx (own := own) (text := text) (index := is) (a := sa) hown' hstr1 hstr2
    (g := { method := m, pc := pc + 4, locals := ls, stack := .ref T.heap.size :: .ref T.heap.size :: rest, locked := none }) rfl d4' _ hsteps
end XO
end
section
theorem ta_71 : ∀ w ∈ Bundle.ownAtoms R_T 75 "java/lang/IllegalStateException" excN, w ∈ Gw ∨ w ∈ nwL ∨ w ∈ stL := by decide +kernel
theorem at_71 {sz : Nat} {U : State} {args : Array Value} (h : NwT sz U) (hG : ∀ w ∈ Gw, w.before args U = true) : (∀ w ∈ Bundle.ownAtoms R_T 75 "java/lang/IllegalStateException" excN, w.before args U = true) ∧ (Cond.classLink R_T 71 "java/lang/IllegalStateException").before args U = true ∧ (Cond.initialized "java/lang/IllegalStateException").before args U = true :=
  ⟨fun w hw => (ta_71 w hw).elim (hG w) fun z => z.elim (nwL_use h w) (stL_ok h w), hG _ (gm 390 (by decide +kernel) (by decide)), hG _ (gm 15 (by decide +kernel) (by decide))⟩
theorem ta_82 : ∀ w ∈ Bundle.ownAtoms R_T 86 "java/lang/IllegalArgumentException" excN, w ∈ Gw ∨ w ∈ nwL ∨ w ∈ stL := by decide +kernel
theorem at_82 {sz : Nat} {U : State} {args : Array Value} (h : NwT sz U) (hG : ∀ w ∈ Gw, w.before args U = true) : (∀ w ∈ Bundle.ownAtoms R_T 86 "java/lang/IllegalArgumentException" excN, w.before args U = true) ∧ (Cond.classLink R_T 82 "java/lang/IllegalArgumentException").before args U = true ∧ (Cond.initialized "java/lang/IllegalArgumentException").before args U = true :=
  ⟨fun w hw => (ta_82 w hw).elim (hG w) fun z => z.elim (nwL_use h w) (stL_ok h w), hG _ (gm 462 (by decide +kernel) (by decide)), hG _ (gm 16 (by decide +kernel) (by decide))⟩
theorem ta_122 : ∀ w ∈ Bundle.ownAtoms R_T 126 "java/lang/IndexOutOfBoundsException" excN, w ∈ Gw ∨ w ∈ nwL ∨ w ∈ stL := by decide +kernel
theorem at_122 {sz : Nat} {U : State} {args : Array Value} (h : NwT sz U) (hG : ∀ w ∈ Gw, w.before args U = true) : (∀ w ∈ Bundle.ownAtoms R_T 126 "java/lang/IndexOutOfBoundsException" excN, w.before args U = true) ∧ (Cond.classLink R_T 122 "java/lang/IndexOutOfBoundsException").before args U = true ∧ (Cond.initialized "java/lang/IndexOutOfBoundsException").before args U = true :=
  ⟨fun w hw => (ta_122 w hw).elim (hG w) fun z => z.elim (nwL_use h w) (stL_ok h w), hG _ (gm 543 (by decide +kernel) (by decide)), hG _ (gm 17 (by decide +kernel) (by decide))⟩
theorem ta_147 : ∀ w ∈ atN R_T 151, w ∈ Gw ∨ w ∈ nwL ∨ w ∈ stL := by decide +kernel
theorem at_147 {sz : Nat} {U : State} {args : Array Value} (h : NwT sz U) (hG : ∀ w ∈ Gw, w.before args U = true) : (∀ w ∈ atN R_T 151, w.before args U = true) ∧ (Cond.classLink R_T 147 "java/util/NoSuchElementException").before args U = true ∧ (Cond.initialized "java/util/NoSuchElementException").before args U = true :=
  ⟨fun w hw => (ta_147 w hw).elim (hG w) fun z => z.elim (nwL_use h w) (stL_ok h w), hG _ (gm 617 (by decide +kernel) (by decide)), hG _ (gm 19 (by decide +kernel) (by decide))⟩
theorem k_L_13 : Cond.classLink R_L 13 "java/lang/IllegalStateException" ∈ Gw := gm 380 (by decide +kernel) (by decide)
theorem k_L_15 : Cond.classLink R_L 15 "java/lang/IllegalArgumentException" ∈ Gw := gm 381 (by decide +kernel) (by decide)
theorem k_L_34 : Cond.classLink R_L 34 "java/lang/IndexOutOfBoundsException" ∈ Gw := gm 534 (by decide +kernel) (by decide)
theorem k_L_43 : Cond.classLink R_L 43 "java/util/NoSuchElementException" ∈ Gw := gm 608 (by decide +kernel) (by decide)
abbrev hh_L_tune : List (Nat × Nat × Nat × Nat) := [(0, 7, 10, 13), (0, 7, 14, 15)]
set_option maxRecDepth 100000 in
theorem gc_L_tune : Cond.codeWith y_L_tune b_L_tune 5 (some .int) hh_L_tune ∈ Gw ∧ Cond.initialized y_L_tune.cls ∈ Gw ∧ Cond.static y_L_tune ∈ Gw := ⟨gm 379 rfl (by decide), gm 0 (by decide +kernel) (by decide), gm 378 (by decide +kernel) (by decide)⟩
abbrev hh_L_number : List (Nat × Nat × Nat × Nat) := [(0, 5, 8, 13), (0, 5, 11, 15)]
set_option maxRecDepth 100000 in
theorem gc_L_number : Cond.codeWith y_L_number b_L_number 3 (some .int) hh_L_number ∈ Gw ∧ Cond.initialized y_L_number.cls ∈ Gw ∧ Cond.static y_L_number ∈ Gw := ⟨gm 484 rfl (by decide), gm 0 (by decide +kernel) (by decide), gm 483 (by decide +kernel) (by decide)⟩
abbrev hh_L_begin : List (Nat × Nat × Nat × Nat) := [(0, 5, 8, 13), (0, 5, 11, 15)]
set_option maxRecDepth 100000 in
theorem gc_L_begin : Cond.codeWith y_L_begin b_L_begin 3 (some .int) hh_L_begin ∈ Gw ∧ Cond.initialized y_L_begin.cls ∈ Gw ∧ Cond.static y_L_begin ∈ Gw := ⟨gm 496 rfl (by decide), gm 0 (by decide +kernel) (by decide), gm 495 (by decide +kernel) (by decide)⟩
abbrev hh_L_end : List (Nat × Nat × Nat × Nat) := [(0, 4, 7, 13)]
set_option maxRecDepth 100000 in
theorem gc_L_end : Cond.codeWith y_L_end b_L_end 2 (some .int) hh_L_end ∈ Gw ∧ Cond.initialized y_L_end.cls ∈ Gw ∧ Cond.static y_L_end ∈ Gw := ⟨gm 508 rfl (by decide), gm 0 (by decide +kernel) (by decide), gm 507 (by decide +kernel) (by decide)⟩
abbrev hh_L_command : List (Nat × Nat × Nat × Nat) := [(0, 16, 19, 13)]
set_option maxRecDepth 100000 in
theorem gc_L_command : Cond.codeWith y_L_command b_L_command 4 (some .int) hh_L_command ∈ Gw ∧ Cond.initialized y_L_command.cls ∈ Gw ∧ Cond.static y_L_command ∈ Gw := ⟨gm 517 rfl (by decide), gm 0 (by decide +kernel) (by decide), gm 516 (by decide +kernel) (by decide)⟩
abbrev hh_L_raise : List (Nat × Nat × Nat × Nat) := [(0, 5, 8, 34)]
set_option maxRecDepth 100000 in
theorem gc_L_raise : Cond.codeWith y_L_raise b_L_raise 3 (some .int) hh_L_raise ∈ Gw ∧ Cond.initialized y_L_raise.cls ∈ Gw ∧ Cond.static y_L_raise ∈ Gw := ⟨gm 533 rfl (by decide), gm 0 (by decide +kernel) (by decide), gm 532 (by decide +kernel) (by decide)⟩
abbrev hh_L_drop : List (Nat × Nat × Nat × Nat) := [(0, 5, 8, 34)]
set_option maxRecDepth 100000 in
theorem gc_L_drop : Cond.codeWith y_L_drop b_L_drop 3 (some .int) hh_L_drop ∈ Gw ∧ Cond.initialized y_L_drop.cls ∈ Gw ∧ Cond.static y_L_drop ∈ Gw := ⟨gm 600 rfl (by decide), gm 0 (by decide +kernel) (by decide), gm 599 (by decide +kernel) (by decide)⟩
abbrev hh_L_take : List (Nat × Nat × Nat × Nat) := [(0, 8, 11, 43)]
set_option maxRecDepth 100000 in
theorem gc_L_take : Cond.codeWith y_L_take b_L_take 3 (some .int) hh_L_take ∈ Gw ∧ Cond.initialized y_L_take.cls ∈ Gw ∧ Cond.static y_L_take ∈ Gw := ⟨gm 607 rfl (by decide), gm 0 (by decide +kernel) (by decide), gm 606 (by decide +kernel) (by decide)⟩
abbrev hh_L_answer : List (Nat × Nat × Nat × Nat) := [(0, 6, 9, 34)]
set_option maxRecDepth 100000 in
theorem gc_L_answer : Cond.codeWith y_L_answer b_L_answer 4 (some .int) hh_L_answer ∈ Gw ∧ Cond.initialized y_L_answer.cls ∈ Gw ∧ Cond.static y_L_answer ∈ Gw := ⟨gm 639 rfl (by decide), gm 0 (by decide +kernel) (by decide), gm 638 (by decide +kernel) (by decide)⟩
abbrev hh_L_packet : List (Nat × Nat × Nat × Nat) := [(0, 19, 22, 15)]
set_option maxRecDepth 100000 in
theorem gc_L_packet : Cond.codeWith y_L_packet b_L_packet 6 (some .int) hh_L_packet ∈ Gw ∧ Cond.initialized y_L_packet.cls ∈ Gw ∧ Cond.static y_L_packet ∈ Gw := ⟨gm 696 rfl (by decide), gm 0 (by decide +kernel) (by decide), gm 695 (by decide +kernel) (by decide)⟩
abbrev hh_L_frame : List (Nat × Nat × Nat × Nat) := [(0, 10, 13, 15)]
set_option maxRecDepth 100000 in
theorem gc_L_frame : Cond.codeWith y_L_frame b_L_frame 5 (some .int) hh_L_frame ∈ Gw ∧ Cond.initialized y_L_frame.cls ∈ Gw ∧ Cond.static y_L_frame ∈ Gw := ⟨gm 719 rfl (by decide), gm 0 (by decide +kernel) (by decide), gm 718 (by decide +kernel) (by decide)⟩
abbrev hh_L_ground : List (Nat × Nat × Nat × Nat) := [(0, 9, 12, 34)]
set_option maxRecDepth 100000 in
theorem gc_L_ground : Cond.codeWith y_L_ground b_L_ground 4 (some .int) hh_L_ground ∈ Gw ∧ Cond.initialized y_L_ground.cls ∈ Gw ∧ Cond.static y_L_ground ∈ Gw := ⟨gm 756 rfl (by decide), gm 0 (by decide +kernel) (by decide), gm 755 (by decide +kernel) (by decide)⟩
abbrev hh_L_craft : List (Nat × Nat × Nat × Nat) := [(0, 9, 12, 34)]
set_option maxRecDepth 100000 in
theorem gc_L_craft : Cond.codeWith y_L_craft b_L_craft 4 (some .int) hh_L_craft ∈ Gw ∧ Cond.initialized y_L_craft.cls ∈ Gw ∧ Cond.static y_L_craft ∈ Gw := ⟨gm 780 rfl (by decide), gm 0 (by decide +kernel) (by decide), gm 779 (by decide +kernel) (by decide)⟩
abbrev hh_L_flight : List (Nat × Nat × Nat × Nat) := [(0, 10, 13, 34)]
set_option maxRecDepth 100000 in
theorem gc_L_flight : Cond.codeWith y_L_flight b_L_flight 5 (some .int) hh_L_flight ∈ Gw ∧ Cond.initialized y_L_flight.cls ∈ Gw ∧ Cond.static y_L_flight ∈ Gw := ⟨gm 795 rfl (by decide), gm 0 (by decide +kernel) (by decide), gm 794 (by decide +kernel) (by decide)⟩
abbrev hh_L_got : List (Nat × Nat × Nat × Nat) := [(0, 10, 13, 43)]
set_option maxRecDepth 100000 in
theorem gc_L_got : Cond.codeWith y_L_got b_L_got 5 (some .int) hh_L_got ∈ Gw ∧ Cond.initialized y_L_got.cls ∈ Gw ∧ Cond.static y_L_got ∈ Gw := ⟨gm 806 rfl (by decide), gm 0 (by decide +kernel) (by decide), gm 805 (by decide +kernel) (by decide)⟩
theorem d_L_tune_0 : decode b_L_tune 0 = .ok (.aload_n 0, 1) := by decide +kernel
theorem d_L_tune_1 : decode b_L_tune 1 = .ok (.iload_n 1, 1) := by decide +kernel
theorem d_L_tune_2 : decode b_L_tune 2 = .ok (.iload_n 2, 1) := by decide +kernel
theorem d_L_tune_3 : decode b_L_tune 3 = .ok (.iload_n 3, 1) := by decide +kernel
theorem d_L_tune_4 : decode b_L_tune 4 = .ok (.invokevirtual 7, 3) := by decide +kernel
theorem d_L_tune_7 : decode b_L_tune 7 = .ok (.goto 11, 3) := by decide +kernel
theorem d_L_tune_10 : decode b_L_tune 10 = .ok (.astore 4, 2) := by decide +kernel
theorem d_L_tune_12 : decode b_L_tune 12 = .ok (.iconst 1, 1) := by decide +kernel
theorem d_L_tune_13 : decode b_L_tune 13 = .ok (.ireturn, 1) := by decide +kernel
theorem d_L_tune_14 : decode b_L_tune 14 = .ok (.astore 4, 2) := by decide +kernel
theorem d_L_tune_16 : decode b_L_tune 16 = .ok (.iconst 2, 1) := by decide +kernel
theorem d_L_tune_17 : decode b_L_tune 17 = .ok (.ireturn, 1) := by decide +kernel
theorem d_L_tune_18 : decode b_L_tune 18 = .ok (.iconst 0, 1) := by decide +kernel
theorem d_L_tune_19 : decode b_L_tune 19 = .ok (.ireturn, 1) := by decide +kernel
theorem d_L_number_0 : decode b_L_number 0 = .ok (.aload_n 0, 1) := by decide +kernel
theorem d_L_number_1 : decode b_L_number 1 = .ok (.iload_n 1, 1) := by decide +kernel
theorem d_L_number_2 : decode b_L_number 2 = .ok (.invokevirtual 17, 3) := by decide +kernel
theorem d_L_number_5 : decode b_L_number 5 = .ok (.goto 9, 3) := by decide +kernel
theorem d_L_number_8 : decode b_L_number 8 = .ok (.astore_n 2, 1) := by decide +kernel
theorem d_L_number_9 : decode b_L_number 9 = .ok (.iconst 1, 1) := by decide +kernel
theorem d_L_number_10 : decode b_L_number 10 = .ok (.ireturn, 1) := by decide +kernel
theorem d_L_number_11 : decode b_L_number 11 = .ok (.astore_n 2, 1) := by decide +kernel
theorem d_L_number_12 : decode b_L_number 12 = .ok (.iconst 2, 1) := by decide +kernel
theorem d_L_number_13 : decode b_L_number 13 = .ok (.ireturn, 1) := by decide +kernel
theorem d_L_number_14 : decode b_L_number 14 = .ok (.iconst 0, 1) := by decide +kernel
theorem d_L_number_15 : decode b_L_number 15 = .ok (.ireturn, 1) := by decide +kernel
theorem d_L_begin_0 : decode b_L_begin 0 = .ok (.aload_n 0, 1) := by decide +kernel
theorem d_L_begin_1 : decode b_L_begin 1 = .ok (.iload_n 1, 1) := by decide +kernel
theorem d_L_begin_2 : decode b_L_begin 2 = .ok (.invokevirtual 21, 3) := by decide +kernel
theorem d_L_begin_5 : decode b_L_begin 5 = .ok (.goto 9, 3) := by decide +kernel
theorem d_L_begin_8 : decode b_L_begin 8 = .ok (.astore_n 2, 1) := by decide +kernel
theorem d_L_begin_9 : decode b_L_begin 9 = .ok (.iconst 1, 1) := by decide +kernel
theorem d_L_begin_10 : decode b_L_begin 10 = .ok (.ireturn, 1) := by decide +kernel
theorem d_L_begin_11 : decode b_L_begin 11 = .ok (.astore_n 2, 1) := by decide +kernel
theorem d_L_begin_12 : decode b_L_begin 12 = .ok (.iconst 2, 1) := by decide +kernel
theorem d_L_begin_13 : decode b_L_begin 13 = .ok (.ireturn, 1) := by decide +kernel
theorem d_L_begin_14 : decode b_L_begin 14 = .ok (.iconst 0, 1) := by decide +kernel
theorem d_L_begin_15 : decode b_L_begin 15 = .ok (.ireturn, 1) := by decide +kernel
theorem d_L_end_0 : decode b_L_end 0 = .ok (.aload_n 0, 1) := by decide +kernel
theorem d_L_end_1 : decode b_L_end 1 = .ok (.invokevirtual 24, 3) := by decide +kernel
theorem d_L_end_4 : decode b_L_end 4 = .ok (.goto 6, 3) := by decide +kernel
theorem d_L_end_7 : decode b_L_end 7 = .ok (.astore_n 1, 1) := by decide +kernel
theorem d_L_end_8 : decode b_L_end 8 = .ok (.iconst 1, 1) := by decide +kernel
theorem d_L_end_9 : decode b_L_end 9 = .ok (.ireturn, 1) := by decide +kernel
theorem d_L_end_10 : decode b_L_end 10 = .ok (.iconst 0, 1) := by decide +kernel
theorem d_L_end_11 : decode b_L_end 11 = .ok (.ireturn, 1) := by decide +kernel
theorem d_L_command_0 : decode b_L_command 0 = .ok (.aload_n 2, 1) := by decide +kernel
theorem d_L_command_1 : decode b_L_command 1 = .ok (.iconst 0, 1) := by decide +kernel
theorem d_L_command_2 : decode b_L_command 2 = .ok (.aload_n 0, 1) := by decide +kernel
theorem d_L_command_3 : decode b_L_command 3 = .ok (.iload_n 1, 1) := by decide +kernel
theorem d_L_command_4 : decode b_L_command 4 = .ok (.invokevirtual 27, 3) := by decide +kernel
theorem d_L_command_7 : decode b_L_command 7 = .ok (.ifCond .eq 7, 3) := by decide +kernel
theorem d_L_command_10 : decode b_L_command 10 = .ok (.lconst 1, 1) := by decide +kernel
theorem d_L_command_11 : decode b_L_command 11 = .ok (.goto 4, 3) := by decide +kernel
theorem d_L_command_14 : decode b_L_command 14 = .ok (.lconst 0, 1) := by decide +kernel
theorem d_L_command_15 : decode b_L_command 15 = .ok (.lastore, 1) := by decide +kernel
theorem d_L_command_16 : decode b_L_command 16 = .ok (.goto 6, 3) := by decide +kernel
theorem d_L_command_19 : decode b_L_command 19 = .ok (.astore_n 3, 1) := by decide +kernel
theorem d_L_command_20 : decode b_L_command 20 = .ok (.iconst 1, 1) := by decide +kernel
theorem d_L_command_21 : decode b_L_command 21 = .ok (.ireturn, 1) := by decide +kernel
theorem d_L_command_22 : decode b_L_command 22 = .ok (.iconst 0, 1) := by decide +kernel
theorem d_L_command_23 : decode b_L_command 23 = .ok (.ireturn, 1) := by decide +kernel
theorem d_L_raise_0 : decode b_L_raise 0 = .ok (.aload_n 0, 1) := by decide +kernel
theorem d_L_raise_1 : decode b_L_raise 1 = .ok (.iload_n 1, 1) := by decide +kernel
theorem d_L_raise_2 : decode b_L_raise 2 = .ok (.invokevirtual 31, 3) := by decide +kernel
theorem d_L_raise_5 : decode b_L_raise 5 = .ok (.goto 6, 3) := by decide +kernel
theorem d_L_raise_8 : decode b_L_raise 8 = .ok (.astore_n 2, 1) := by decide +kernel
theorem d_L_raise_9 : decode b_L_raise 9 = .ok (.iconst 1, 1) := by decide +kernel
theorem d_L_raise_10 : decode b_L_raise 10 = .ok (.ireturn, 1) := by decide +kernel
theorem d_L_raise_11 : decode b_L_raise 11 = .ok (.iconst 0, 1) := by decide +kernel
theorem d_L_raise_12 : decode b_L_raise 12 = .ok (.ireturn, 1) := by decide +kernel
theorem d_L_drop_0 : decode b_L_drop 0 = .ok (.aload_n 0, 1) := by decide +kernel
theorem d_L_drop_1 : decode b_L_drop 1 = .ok (.iload_n 1, 1) := by decide +kernel
theorem d_L_drop_2 : decode b_L_drop 2 = .ok (.invokevirtual 36, 3) := by decide +kernel
theorem d_L_drop_5 : decode b_L_drop 5 = .ok (.goto 6, 3) := by decide +kernel
theorem d_L_drop_8 : decode b_L_drop 8 = .ok (.astore_n 2, 1) := by decide +kernel
theorem d_L_drop_9 : decode b_L_drop 9 = .ok (.iconst 1, 1) := by decide +kernel
theorem d_L_drop_10 : decode b_L_drop 10 = .ok (.ireturn, 1) := by decide +kernel
theorem d_L_drop_11 : decode b_L_drop 11 = .ok (.iconst 0, 1) := by decide +kernel
theorem d_L_drop_12 : decode b_L_drop 12 = .ok (.ireturn, 1) := by decide +kernel
theorem d_L_take_0 : decode b_L_take 0 = .ok (.aload_n 1, 1) := by decide +kernel
theorem d_L_take_1 : decode b_L_take 1 = .ok (.iconst 0, 1) := by decide +kernel
theorem d_L_take_2 : decode b_L_take 2 = .ok (.aload_n 0, 1) := by decide +kernel
theorem d_L_take_3 : decode b_L_take 3 = .ok (.invokevirtual 39, 3) := by decide +kernel
theorem d_L_take_6 : decode b_L_take 6 = .ok (.i2l, 1) := by decide +kernel
theorem d_L_take_7 : decode b_L_take 7 = .ok (.lastore, 1) := by decide +kernel
theorem d_L_take_8 : decode b_L_take 8 = .ok (.goto 6, 3) := by decide +kernel
theorem d_L_take_11 : decode b_L_take 11 = .ok (.astore_n 2, 1) := by decide +kernel
theorem d_L_take_12 : decode b_L_take 12 = .ok (.iconst 1, 1) := by decide +kernel
theorem d_L_take_13 : decode b_L_take 13 = .ok (.ireturn, 1) := by decide +kernel
theorem d_L_take_14 : decode b_L_take 14 = .ok (.iconst 0, 1) := by decide +kernel
theorem d_L_take_15 : decode b_L_take 15 = .ok (.ireturn, 1) := by decide +kernel
theorem d_L_answer_0 : decode b_L_answer 0 = .ok (.aload_n 0, 1) := by decide +kernel
theorem d_L_answer_1 : decode b_L_answer 1 = .ok (.iload_n 1, 1) := by decide +kernel
theorem d_L_answer_2 : decode b_L_answer 2 = .ok (.iload_n 2, 1) := by decide +kernel
theorem d_L_answer_3 : decode b_L_answer 3 = .ok (.invokevirtual 45, 3) := by decide +kernel
theorem d_L_answer_6 : decode b_L_answer 6 = .ok (.goto 6, 3) := by decide +kernel
theorem d_L_answer_9 : decode b_L_answer 9 = .ok (.astore_n 3, 1) := by decide +kernel
theorem d_L_answer_10 : decode b_L_answer 10 = .ok (.iconst 1, 1) := by decide +kernel
theorem d_L_answer_11 : decode b_L_answer 11 = .ok (.ireturn, 1) := by decide +kernel
theorem d_L_answer_12 : decode b_L_answer 12 = .ok (.iconst 0, 1) := by decide +kernel
theorem d_L_answer_13 : decode b_L_answer 13 = .ok (.ireturn, 1) := by decide +kernel
theorem d_L_packet_0 : decode b_L_packet 0 = .ok (.aload 4, 2) := by decide +kernel
theorem d_L_packet_2 : decode b_L_packet 2 = .ok (.iconst 0, 1) := by decide +kernel
theorem d_L_packet_3 : decode b_L_packet 3 = .ok (.aload_n 0, 1) := by decide +kernel
theorem d_L_packet_4 : decode b_L_packet 4 = .ok (.iload_n 1, 1) := by decide +kernel
theorem d_L_packet_5 : decode b_L_packet 5 = .ok (.iload_n 2, 1) := by decide +kernel
theorem d_L_packet_6 : decode b_L_packet 6 = .ok (.iload_n 3, 1) := by decide +kernel
theorem d_L_packet_7 : decode b_L_packet 7 = .ok (.invokevirtual 49, 3) := by decide +kernel
theorem d_L_packet_10 : decode b_L_packet 10 = .ok (.ifCond .eq 7, 3) := by decide +kernel
theorem d_L_packet_13 : decode b_L_packet 13 = .ok (.lconst 1, 1) := by decide +kernel
theorem d_L_packet_14 : decode b_L_packet 14 = .ok (.goto 4, 3) := by decide +kernel
theorem d_L_packet_17 : decode b_L_packet 17 = .ok (.lconst 0, 1) := by decide +kernel
theorem d_L_packet_18 : decode b_L_packet 18 = .ok (.lastore, 1) := by decide +kernel
theorem d_L_packet_19 : decode b_L_packet 19 = .ok (.goto 7, 3) := by decide +kernel
theorem d_L_packet_22 : decode b_L_packet 22 = .ok (.astore 5, 2) := by decide +kernel
theorem d_L_packet_24 : decode b_L_packet 24 = .ok (.iconst 1, 1) := by decide +kernel
theorem d_L_packet_25 : decode b_L_packet 25 = .ok (.ireturn, 1) := by decide +kernel
theorem d_L_packet_26 : decode b_L_packet 26 = .ok (.iconst 0, 1) := by decide +kernel
theorem d_L_packet_27 : decode b_L_packet 27 = .ok (.ireturn, 1) := by decide +kernel
theorem d_L_frame_0 : decode b_L_frame 0 = .ok (.aload_n 3, 1) := by decide +kernel
theorem d_L_frame_1 : decode b_L_frame 1 = .ok (.iconst 0, 1) := by decide +kernel
theorem d_L_frame_2 : decode b_L_frame 2 = .ok (.aload_n 0, 1) := by decide +kernel
theorem d_L_frame_3 : decode b_L_frame 3 = .ok (.iload_n 1, 1) := by decide +kernel
theorem d_L_frame_4 : decode b_L_frame 4 = .ok (.iload_n 2, 1) := by decide +kernel
theorem d_L_frame_5 : decode b_L_frame 5 = .ok (.invokevirtual 53, 3) := by decide +kernel
theorem d_L_frame_8 : decode b_L_frame 8 = .ok (.i2l, 1) := by decide +kernel
theorem d_L_frame_9 : decode b_L_frame 9 = .ok (.lastore, 1) := by decide +kernel
theorem d_L_frame_10 : decode b_L_frame 10 = .ok (.goto 7, 3) := by decide +kernel
theorem d_L_frame_13 : decode b_L_frame 13 = .ok (.astore 4, 2) := by decide +kernel
theorem d_L_frame_15 : decode b_L_frame 15 = .ok (.iconst 1, 1) := by decide +kernel
theorem d_L_frame_16 : decode b_L_frame 16 = .ok (.ireturn, 1) := by decide +kernel
theorem d_L_frame_17 : decode b_L_frame 17 = .ok (.iconst 0, 1) := by decide +kernel
theorem d_L_frame_18 : decode b_L_frame 18 = .ok (.ireturn, 1) := by decide +kernel
theorem d_L_ground_0 : decode b_L_ground 0 = .ok (.aload_n 2, 1) := by decide +kernel
theorem d_L_ground_1 : decode b_L_ground 1 = .ok (.iconst 0, 1) := by decide +kernel
theorem d_L_ground_2 : decode b_L_ground 2 = .ok (.aload_n 0, 1) := by decide +kernel
theorem d_L_ground_3 : decode b_L_ground 3 = .ok (.iload_n 1, 1) := by decide +kernel
theorem d_L_ground_4 : decode b_L_ground 4 = .ok (.invokevirtual 57, 3) := by decide +kernel
theorem d_L_ground_7 : decode b_L_ground 7 = .ok (.i2l, 1) := by decide +kernel
theorem d_L_ground_8 : decode b_L_ground 8 = .ok (.lastore, 1) := by decide +kernel
theorem d_L_ground_9 : decode b_L_ground 9 = .ok (.goto 6, 3) := by decide +kernel
theorem d_L_ground_12 : decode b_L_ground 12 = .ok (.astore_n 3, 1) := by decide +kernel
theorem d_L_ground_13 : decode b_L_ground 13 = .ok (.iconst 1, 1) := by decide +kernel
theorem d_L_ground_14 : decode b_L_ground 14 = .ok (.ireturn, 1) := by decide +kernel
theorem d_L_ground_15 : decode b_L_ground 15 = .ok (.iconst 0, 1) := by decide +kernel
theorem d_L_ground_16 : decode b_L_ground 16 = .ok (.ireturn, 1) := by decide +kernel
theorem d_L_craft_0 : decode b_L_craft 0 = .ok (.aload_n 2, 1) := by decide +kernel
theorem d_L_craft_1 : decode b_L_craft 1 = .ok (.iconst 0, 1) := by decide +kernel
theorem d_L_craft_2 : decode b_L_craft 2 = .ok (.aload_n 0, 1) := by decide +kernel
theorem d_L_craft_3 : decode b_L_craft 3 = .ok (.iload_n 1, 1) := by decide +kernel
theorem d_L_craft_4 : decode b_L_craft 4 = .ok (.invokevirtual 61, 3) := by decide +kernel
theorem d_L_craft_7 : decode b_L_craft 7 = .ok (.i2l, 1) := by decide +kernel
theorem d_L_craft_8 : decode b_L_craft 8 = .ok (.lastore, 1) := by decide +kernel
theorem d_L_craft_9 : decode b_L_craft 9 = .ok (.goto 6, 3) := by decide +kernel
theorem d_L_craft_12 : decode b_L_craft 12 = .ok (.astore_n 3, 1) := by decide +kernel
theorem d_L_craft_13 : decode b_L_craft 13 = .ok (.iconst 1, 1) := by decide +kernel
theorem d_L_craft_14 : decode b_L_craft 14 = .ok (.ireturn, 1) := by decide +kernel
theorem d_L_craft_15 : decode b_L_craft 15 = .ok (.iconst 0, 1) := by decide +kernel
theorem d_L_craft_16 : decode b_L_craft 16 = .ok (.ireturn, 1) := by decide +kernel
theorem d_L_flight_0 : decode b_L_flight 0 = .ok (.aload_n 3, 1) := by decide +kernel
theorem d_L_flight_1 : decode b_L_flight 1 = .ok (.iconst 0, 1) := by decide +kernel
theorem d_L_flight_2 : decode b_L_flight 2 = .ok (.aload_n 0, 1) := by decide +kernel
theorem d_L_flight_3 : decode b_L_flight 3 = .ok (.iload_n 1, 1) := by decide +kernel
theorem d_L_flight_4 : decode b_L_flight 4 = .ok (.iload_n 2, 1) := by decide +kernel
theorem d_L_flight_5 : decode b_L_flight 5 = .ok (.invokevirtual 64, 3) := by decide +kernel
theorem d_L_flight_8 : decode b_L_flight 8 = .ok (.i2l, 1) := by decide +kernel
theorem d_L_flight_9 : decode b_L_flight 9 = .ok (.lastore, 1) := by decide +kernel
theorem d_L_flight_10 : decode b_L_flight 10 = .ok (.goto 7, 3) := by decide +kernel
theorem d_L_flight_13 : decode b_L_flight 13 = .ok (.astore 4, 2) := by decide +kernel
theorem d_L_flight_15 : decode b_L_flight 15 = .ok (.iconst 1, 1) := by decide +kernel
theorem d_L_flight_16 : decode b_L_flight 16 = .ok (.ireturn, 1) := by decide +kernel
theorem d_L_flight_17 : decode b_L_flight 17 = .ok (.iconst 0, 1) := by decide +kernel
theorem d_L_flight_18 : decode b_L_flight 18 = .ok (.ireturn, 1) := by decide +kernel
theorem d_L_got_0 : decode b_L_got 0 = .ok (.aload_n 3, 1) := by decide +kernel
theorem d_L_got_1 : decode b_L_got 1 = .ok (.iconst 0, 1) := by decide +kernel
theorem d_L_got_2 : decode b_L_got 2 = .ok (.aload_n 0, 1) := by decide +kernel
theorem d_L_got_3 : decode b_L_got 3 = .ok (.iload_n 1, 1) := by decide +kernel
theorem d_L_got_4 : decode b_L_got 4 = .ok (.iload_n 2, 1) := by decide +kernel
theorem d_L_got_5 : decode b_L_got 5 = .ok (.invokevirtual 68, 3) := by decide +kernel
theorem d_L_got_8 : decode b_L_got 8 = .ok (.i2l, 1) := by decide +kernel
theorem d_L_got_9 : decode b_L_got 9 = .ok (.lastore, 1) := by decide +kernel
theorem d_L_got_10 : decode b_L_got 10 = .ok (.goto 7, 3) := by decide +kernel
theorem d_L_got_13 : decode b_L_got 13 = .ok (.astore 4, 2) := by decide +kernel
theorem d_L_got_15 : decode b_L_got 15 = .ok (.iconst 1, 1) := by decide +kernel
theorem d_L_got_16 : decode b_L_got 16 = .ok (.ireturn, 1) := by decide +kernel
theorem d_L_got_17 : decode b_L_got 17 = .ok (.iconst 0, 1) := by decide +kernel
theorem d_L_got_18 : decode b_L_got 18 = .ok (.ireturn, 1) := by decide +kernel
section XD
variable {p : Program} {l : Launch} {e : Env} {R : Room} {s : State} {m : MethodId} {args : Array Value} {below : List Frame} {meth : Method} {c : Code} {cells slots : Nat} {Q : State → Prop}
variable {cc : ByteArray} {pc nL idx : Nat} {rest : List Value} {loc loc' : List (Nat × Value)} {wl : Jst → va_W} {D : va_G} {cl : List vw_C} {tys : List (ClassId × FieldType)} {A : Nat → Prop} {N0 : State → Prop} {σ : Jst} {own : String}
variable {mc ms : Nat}
abbrev Hx (p : Program) (l : Launch) (e : Env) (R : Room) (s : State) (m : MethodId) (args : Array Value) (below : List Frame) (meth : Method) (c : Code) (D : va_G) (cl : List vw_C) (wl : Jst → va_W) (A : Nat → Prop) (nL cells slots : Nat) (Q : State → Prop) (own : String) (pc : Nat) (loc : List (Nat × Value)) (E : String) (σ1 : Jst) : Prop :=
  ∃ (pre : List ExceptionTableEntry) (x : ExceptionTableEntry) (suf : List ExceptionTableEntry), c.exceptionTable.toList = pre ++ x :: suf ∧ (∀ z ∈ pre, z.catchType ≠ 0 ∧ ∃ nm : String, (Cond.classLink own z.catchType nm).before args s = true ∧ va_Nc E nm s) ∧ covers x pc = true ∧ x.catchType ≠ 0 ∧
      (∃ nm : String, (Cond.classLink own x.catchType nm).before args s = true ∧ va_Nw (.castable E nm) s) ∧ ∀ q : Addr, J p l e R s m args below meth c D cl wl A nL cells slots Q x.handlerPc loc [.ref q] σ1
theorem x_h1 (X : Cx p s m args c cc nL own Gw D cl tys wl A N0) {a b h t : Nat} (hm : c.exceptionTable.toList.map (fun h => (h.startPc, h.endPc, h.handlerPc, h.catchType)) = [(a, b, h, t)]) {E : String} (h1 : a ≤ pc) (h2 : pc < b) (ht : t ≠ 0) (hl : Cond.classLink own t E ∈ Gw) (hc : ∀ s : State, N0 s → va_Nw (.castable E E) s) (k : ∀ q : Addr, J p l e R s m args below meth c D cl wl A nL cells slots Q h loc [.ref q] σ) : Hx p l e R s m args below meth c D cl wl A nL cells slots Q own pc loc E σ := by
  obtain ⟨x, hx, rfl, rfl, rfl, rfl⟩ := tab1 hm
  exact ⟨[], x, [], hx, (fun z hz => nomatch hz), by simp [covers, h1, h2], ht, ⟨E, X.2.2.2.2.1 _ hl, hc s X.2.2.2.2.2.2.2.1⟩, k⟩
theorem x_h2a (X : Cx p s m args c cc nL own Gw D cl tys wl A N0) {a b h t a2 b2 h2 t2 : Nat} (hm : c.exceptionTable.toList.map (fun h => (h.startPc, h.endPc, h.handlerPc, h.catchType)) = [(a, b, h, t), (a2, b2, h2, t2)]) {E : String} (h1 : a ≤ pc) (h2 : pc < b) (ht : t ≠ 0) (hl : Cond.classLink own t E ∈ Gw) (hc : ∀ s : State, N0 s → va_Nw (.castable E E) s) (k : ∀ q : Addr, J p l e R s m args below meth c D cl wl A nL cells slots Q h loc [.ref q] σ) : Hx p l e R s m args below meth c D cl wl A nL cells slots Q own pc loc E σ := by
  obtain ⟨x, y, hx, ⟨rfl, rfl, rfl, rfl⟩, -⟩ := tab2 hm
  exact ⟨[], x, [y], hx, (fun z hz => nomatch hz), by simp [covers, h1, h2], ht, ⟨E, X.2.2.2.2.1 _ hl, hc s X.2.2.2.2.2.2.2.1⟩, k⟩
theorem x_h2b (X : Cx p s m args c cc nL own Gw D cl tys wl A N0) {a b h t a2 b2 h2 t2 : Nat} (hm : c.exceptionTable.toList.map (fun h => (h.startPc, h.endPc, h.handlerPc, h.catchType)) = [(a, b, h, t), (a2, b2, h2, t2)]) {E E0 : String} (h1 : a2 ≤ pc) (h3 : pc < b2) (ht : t2 ≠ 0) (hl : Cond.classLink own t2 E ∈ Gw) (hc : ∀ s : State, N0 s → va_Nw (.castable E E) s) (ht0 : t ≠ 0) (hl0 : Cond.classLink own t E0 ∈ Gw) (hn : ∀ s : State, N0 s → va_Nc E E0 s) (k : ∀ q : Addr, J p l e R s m args below meth c D cl wl A nL cells slots Q h2 loc [.ref q] σ) : Hx p l e R s m args below meth c D cl wl A nL cells slots Q own pc loc E σ := by
  obtain ⟨x, y, hx, ⟨rfl, rfl, rfl, rfl⟩, ⟨rfl, rfl, rfl, rfl⟩⟩ := tab2 hm
  exact ⟨[x], y, [], hx, (fun z hz => (by rw [List.mem_singleton.mp hz]; exact ⟨ht0, E0, X.2.2.2.2.1 _ hl0, hn s X.2.2.2.2.2.2.2.1⟩)), by simp [covers, h1, h3], ht, ⟨E, X.2.2.2.2.1 _ hl, hc s X.2.2.2.2.2.2.2.1⟩, k⟩
theorem gcX (X : Cx p s m args c cc nL own Gw D cl tys wl A N0) {y : MethodName} {bytes : ByteArray} {maxL n : Nat} {ret : Option FieldType} {ws : List Cond} {rm : Room} {C : String} (hw : ws = wG y bytes maxL ret) (hrc : rm.cells = mc) (hrs : rm.slots = ms) (hm : Cond.code y bytes maxL ret ∈ Gw ∧ Cond.initialized y.cls ∈ Gw) (hs : Cond.instanceMethod y ∈ Gw ∧ Cond.selects C y y ∈ Gw) (hl : Cond.methodLink own idx y ∈ Gw) (hd : y.cls ≠ "java/lang/invoke/MethodHandle" ∧ y.cls ≠ "java/lang/invoke/VarHandle" ∧ (parseMethodDescriptor y.desc).map (fun d => d.parameters.length) = some n) (hR : rm.frames + 1 ≤ R.frames ∧ 8 + (maxL + 11) + rm.locals ≤ R.locals) : CallW R s args own C idx y bytes maxL ret ws rm mc ms n :=
  ⟨callB_of n X.2.2.2.2.1 (gw_call hw hm.1) hw hrc hrs (X.2.2.2.2.1 _ hm.2) (X.2.2.2.2.1 _ hl) hd hR, X.2.2.2.2.1 _ hs.1, X.2.2.2.2.1 _ hs.2⟩
set_option maxHeartbeats 1000000 in
/-- a static call of a method with a table of its own that returns -/
theorem j_callSWi (X : Cx p s m args c cc nL own Gw D cl tys wl A N0) {y : MethodName} {ws : List Cond} {rm : Room} {bytes : ByteArray} {maxL n : Nat} {ret : Option FieldType} {hh : List (Nat × Nat × Nat × Nat)} {As st0 : List Value} {K : Int32 → Jst → Prop} (hM : Met l y ws rm (va_Pc As (Jw D cl tys wl N0 σ)) (va_Qi K (Jq D cl wl) A) mc ms A) (hw : ws = Cond.codeWith y bytes maxL ret hh :: Gw) (hrc : rm.cells = mc) (hrs : rm.slots = ms) (hm : Cond.codeWith y bytes maxL ret hh ∈ Gw ∧ Cond.initialized y.cls ∈ Gw ∧ Cond.static y ∈ Gw) (hl : Cond.methodLink own idx y ∈ Gw) (hd : y.cls ≠ "java/lang/invoke/MethodHandle" ∧ y.cls ≠ "java/lang/invoke/VarHandle" ∧ (parseMethodDescriptor y.desc).map (fun d => d.parameters.length) = some n) (hR : rm.frames + 1 ≤ R.frames ∧ 8 + (maxL + 11) + rm.locals ≤ R.locals) (hst : st0 = As.reverse ++ rest) (hn : As.length = n) (hro : (rest.map fun v => v.category).sum ≤ 8) (hcs : cells + mc ≤ R.cells ∧ slots + ms ≤ R.slots) (d : decode cc pc = .ok (.invokestatic idx, 3))
    (k : ∀ (r : Int32) (σ1 : Jst), K r σ1 → J p l e R s m args below meth c D cl wl A nL (cells + mc) (slots + ms) Q (pc + 3) loc (.int r :: rest) σ1) : J p l e R s m args below meth c D cl wl A nL cells slots Q pc loc st0 σ := by
  intro H locs ls hl9 hP hS T hT XT
  obtain ⟨hx, hb, hml, hown, hts, hK, hD, hN, hJk⟩ := X
  have hGI : GoodIn Gw ws := by
    subst hw
    intro w h
    rcases List.mem_cons.mp h with rfl | h
    · exact ⟨hm.1, gw_good hm.1⟩
    · exact ⟨h, gw_good h⟩
  have hBack : Back l R p e below s args y 3 8 (PreOf R mc ms (va_Pc As (Jw D cl tys wl N0 σ))) (PostOf (va_Qi K (Jq D cl wl) A) mc ms A) :=
    va_backW (bytes := bytes) (maxL := maxL) (ret := ret) (hh := hh) hM (j_blind hJk) hrc hrs hR.1 hR.2 (pay_in hts hGI) (by rw [hw]; exact List.mem_cons_self) (fun a' U hW => word_at hW (gw_good hm.2.1) (hts _ hm.2.1))
  obtain ⟨m9, methM, cM, hnamed, hmethM, hcM, -, hlM, -, -, -, hsigM⟩ := Cond.codeWith_spec (hts _ hm.1)
  have hstatic : methM.isStatic = true := Cond.static_spec hnamed hmethM (hts _ hm.2.2)
  obtain ⟨kP, hkP, -⟩ := className_of_methodNamed hnamed
  have hinitP : kP.init = .initialized := Cond.initialized_spec (findClass_of_methodNamed hnamed) hkP (hts _ hm.2.1)
  have dg : decode c.code pc = .ok (.invokestatic idx, 3) := by rw [hb]; exact d
  have hlen : As.length = methM.sig.parameters.length := by
    have h2 := hd.2.2
    rw [hsigM] at h2
    exact hn.trans (Option.some.inj h2).symm
  obtain ⟨vm1, X1, hstep1⟩ := XT.invokestatic hx hown (hts _ hl) hnamed hmethM hstatic hkP hinitP ⟨hd.1, hd.2.1⟩ (g := F0 m pc ls st0) rfl (argsL := As) (rest := rest) hlen hst dg
  have hJw : Jw D cl tys wl N0 σ (T.setVm vm1) := ⟨by show va_P D cl (wl σ) T.heap; rw [hT]; exact hP, va_K.moved X1.warmed.alike hK, hJk s _ X1.warmed (by show s.heap.size ≤ T.heap.size; rw [hT]; exact hS.1) (by show ∀ q : Nat, q < s.heap.size → ¬ A q → T.heap[q]? = s.heap[q]?; rw [hT]; exact hS.2.1) hN⟩
  obtain ⟨v, ⟨U2, l2, c2, s2⟩, X2, hpost, hsteps⟩ := hBack m meth c ⟨T.setVm vm1, locs, cells, slots⟩ (F0 m pc ls rest) (.invokestatic idx) m9 As.toArray X1 rfl (hl9.1.trans hml.symm) dg (lv_room hro) (X1.named hnamed) ⟨hcs.1, hcs.2, rfl, hJw⟩
  obtain ⟨g9, mk9, t9, L, e1, e2, ⟨⟨r, u, hv, hk, hp⟩, hF⟩, h1, hL, h2, h3⟩ := hpost
  dsimp only [Pt.U, Pt.locs, Pt.cells, Pt.slots] at X2 e1 e2 h1 h2 h3 hsteps
  subst h1; subst h2; subst h3
  cases hv
  have hF1 : H.size ≤ t9.heap.size := by have := hF.1; rw [show ((T.setVm vm1).calling g9 mk9 As.toArray).heap = T.heap from rfl, hT] at this; exact this
  have hF2 : ∀ q : Nat, q < H.size → ¬ A q → t9.heap[q]? = H[q]? := by have := hF.2; rw [show ((T.setVm vm1).calling g9 mk9 As.toArray).heap = T.heap from rfl, hT] at this; exact this
  obtain ⟨t, a1, b1⟩ := k r u hk U2.heap (locs ++ L) ls hl9 (by rw [e1]; exact hp) (by rw [e1]; exact ⟨Nat.le_trans hS.1 hF1, fun q h1 h2 => (hF2 q (Nat.lt_of_lt_of_le h1 hS.1) h2).trans (hS.2.1 q h1 h2), fun q hq => (List.mem_append.mp hq).elim (hS.2.2 q) (hL q)⟩) U2 rfl X2
  refine ⟨t, hstep1 _ fun acts => ?_, b1⟩
  rw [doInvoke_state]
  exact hsteps.trans a1
end XD
section XL
variable {p : Program} {l : Launch} {e : Env} {R : Room} {s : State} {m : MethodId} {args : Array Value} {below : List Frame} {meth : Method} {c : Code} {cells slots : Nat} {Q : State → Prop}
variable {cc : ByteArray} {pc nL idx : Nat} {rest : List Value} {loc : List (Nat × Value)} {D : va_G} {ca ad : Nat → Nat} {A : Nat → Prop} {N0 : State → Prop} {σ : Jst} {own : String}
theorem ws_53 (i : Nat) (x : Int32) : (wlT ad ca σ).set 53 (ad 53, .inl (ca 53, 1, .inr (.inl (vp_updL (fun j => (σ 53 j).toInt64) i x.toInt64)))) = wlT ad ca (jup σ 53 i x) := by
  have h : (vp_updL (fun j => (σ 53 j).toInt64) i x.toInt64) = fun j => ((jup σ 53 i x) 53 j).toInt64 := by
    funext j
    show (if j = i then x.toInt64 else (σ 53 j).toInt64) = (if j = i then x else σ 53 j).toInt64
    by_cases hj : j = i <;> simp [hj]
  rw [h]
  rfl
theorem ll_53 (X : Cx p s m args c cc nL own Gw D vwCl (tysT ca) (wlT ad ca) A N0) {i : Int32} {v : Int64} (hin : vp_in i 1) (hv : (σ 53 i.toNatClampNeg).toInt64 = v) (d : decode cc pc = .ok (.laload, 1)) (k : J p l e R s m args below meth c D vwCl (wlT ad ca) A nL cells slots Q (pc + 1) loc (.long v :: rest) σ) : J p l e R s m args below meth c D vwCl (wlT ad ca) A nL cells slots Q pc loc (.int i :: .ref (ad 53) :: rest) σ := by subst hv; exact j_lald X 53 40 rfl rfl hin d k
theorem sl_53 (X : Cx p s m args c cc nL own Gw D vwCl (tysT ca) (wlT ad ca) A N0) {i x : Int32} {v : Int64} (hin : vp_in i 1) (hv : v = x.toInt64) (d : decode cc pc = .ok (.lastore, 1)) (k : J p l e R s m args below meth c D vwCl (wlT ad ca) A nL cells slots Q (pc + 1) loc rest (jup σ 53 i.toNatClampNeg x)) : J p l e R s m args below meth c D vwCl (wlT ad ca) A nL cells slots Q pc loc (.long v :: .int i :: .ref (ad 53) :: rest) σ := by subst hv; exact j_last X 53 40 rfl rfl hin (ws_53 _ _) d k
end XL
end
