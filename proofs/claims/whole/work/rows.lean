section
-- ===== PART A: goes FIRST, ahead of the names: the tables' words, and 'selects' of the private methods out of them =====
/-- a private method of a class that the tables say can be made, by its rows of tables_1 -/
def lw_okq (q : MethodName × Nat) : Prop := (q.1.cls ≠ "java/lang/invoke/MethodHandle" ∧ q.1.cls ≠ "java/lang/invoke/VarHandle") ∧ Cond.instantiable q.1.cls q.2 ∈ tables_1 ∧ Cond.privateMethod q.1 ∈ tables_1 ∧ Cond.instanceMethod q.1 ∈ tables_1
theorem lw_p0 : lw_okq (⟨"BoardStore", "requireRunning", "()V"⟩, 9) := ⟨⟨by decide +kernel, by decide +kernel⟩, List.mem_of_getElem? (i := 14) (by decide +kernel), List.mem_of_getElem? (i := 113) (by decide +kernel), List.mem_of_getElem? (i := 114) (by decide +kernel)⟩
theorem lw_p1 : lw_okq (⟨"java/lang/Throwable", "fillInStackTrace", "(I)Ljava/lang/Throwable;"⟩, 6) := ⟨⟨by decide +kernel, by decide +kernel⟩, List.mem_of_getElem? (i := 155) (by decide +kernel), List.mem_of_getElem? (i := 153) (by decide +kernel), List.mem_of_getElem? (i := 154) (by decide +kernel)⟩
theorem lw_p2 : lw_okq (⟨"BoardStore", "equalOfFed", "()I"⟩, 9) := ⟨⟨by decide +kernel, by decide +kernel⟩, List.mem_of_getElem? (i := 14) (by decide +kernel), List.mem_of_getElem? (i := 204) (by decide +kernel), List.mem_of_getElem? (i := 205) (by decide +kernel)⟩
theorem lw_p3 : lw_okq (⟨"BoardStore", "takeNewBlock", "()I"⟩, 9) := ⟨⟨by decide +kernel, by decide +kernel⟩, List.mem_of_getElem? (i := 14) (by decide +kernel), List.mem_of_getElem? (i := 229) (by decide +kernel), List.mem_of_getElem? (i := 230) (by decide +kernel)⟩
theorem lw_p4 : lw_okq (⟨"BoardStore", "closeFed", "()I"⟩, 9) := ⟨⟨by decide +kernel, by decide +kernel⟩, List.mem_of_getElem? (i := 14) (by decide +kernel), List.mem_of_getElem? (i := 250) (by decide +kernel), List.mem_of_getElem? (i := 251) (by decide +kernel)⟩
theorem lw_p5 : lw_okq (⟨"BoardStore", "takeOldBlock", "(I)I"⟩, 9) := ⟨⟨by decide +kernel, by decide +kernel⟩, List.mem_of_getElem? (i := 14) (by decide +kernel), List.mem_of_getElem? (i := 262) (by decide +kernel), List.mem_of_getElem? (i := 263) (by decide +kernel)⟩
theorem lw_p6 : lw_okq (⟨"BoardStore", "requireVersion", "(I)V"⟩, 9) := ⟨⟨by decide +kernel, by decide +kernel⟩, List.mem_of_getElem? (i := 14) (by decide +kernel), List.mem_of_getElem? (i := 285) (by decide +kernel), List.mem_of_getElem? (i := 286) (by decide +kernel)⟩
theorem lw_p7 : lw_okq (⟨"BoardStore", "requireBlock", "(I)V"⟩, 9) := ⟨⟨by decide +kernel, by decide +kernel⟩, List.mem_of_getElem? (i := 14) (by decide +kernel), List.mem_of_getElem? (i := 309) (by decide +kernel), List.mem_of_getElem? (i := 310) (by decide +kernel)⟩
theorem lw_p8 : lw_okq (⟨"BoardStore", "hasBlock", "(II)Z"⟩, 9) := ⟨⟨by decide +kernel, by decide +kernel⟩, List.mem_of_getElem? (i := 14) (by decide +kernel), List.mem_of_getElem? (i := 314) (by decide +kernel), List.mem_of_getElem? (i := 315) (by decide +kernel)⟩
theorem lw_p9 : lw_okq (⟨"BoardStore", "lengthOfVersion", "(I)I"⟩, 9) := ⟨⟨by decide +kernel, by decide +kernel⟩, List.mem_of_getElem? (i := 14) (by decide +kernel), List.mem_of_getElem? (i := 318) (by decide +kernel), List.mem_of_getElem? (i := 319) (by decide +kernel)⟩
theorem lw_p10 : lw_okq (⟨"BoardStore", "removeUnheldBlocks", "()I"⟩, 9) := ⟨⟨by decide +kernel, by decide +kernel⟩, List.mem_of_getElem? (i := 14) (by decide +kernel), List.mem_of_getElem? (i := 347) (by decide +kernel), List.mem_of_getElem? (i := 348) (by decide +kernel)⟩
theorem lw_p11 : lw_okq (⟨"BoardStore", "markHeldBlocks", "()V"⟩, 9) := ⟨⟨by decide +kernel, by decide +kernel⟩, List.mem_of_getElem? (i := 14) (by decide +kernel), List.mem_of_getElem? (i := 351) (by decide +kernel), List.mem_of_getElem? (i := 352) (by decide +kernel)⟩
theorem lw_p12 : lw_okq (⟨"BoardStore", "countUnpacked", "()I"⟩, 9) := ⟨⟨by decide +kernel, by decide +kernel⟩, List.mem_of_getElem? (i := 14) (by decide +kernel), List.mem_of_getElem? (i := 370) (by decide +kernel), List.mem_of_getElem? (i := 371) (by decide +kernel)⟩
theorem lw_p13 : lw_okq (⟨"BoardStore", "isUnpacked", "(I)Z"⟩, 9) := ⟨⟨by decide +kernel, by decide +kernel⟩, List.mem_of_getElem? (i := 14) (by decide +kernel), List.mem_of_getElem? (i := 374) (by decide +kernel), List.mem_of_getElem? (i := 375) (by decide +kernel)⟩
theorem lw_p14 : lw_okq (⟨"BoardStore", "addToOpenPack", "(I)V"⟩, 9) := ⟨⟨by decide +kernel, by decide +kernel⟩, List.mem_of_getElem? (i := 14) (by decide +kernel), List.mem_of_getElem? (i := 378) (by decide +kernel), List.mem_of_getElem? (i := 379) (by decide +kernel)⟩
theorem lw_p15 : lw_okq (⟨"BoardStore", "closePack", "()V"⟩, 9) := ⟨⟨by decide +kernel, by decide +kernel⟩, List.mem_of_getElem? (i := 14) (by decide +kernel), List.mem_of_getElem? (i := 382) (by decide +kernel), List.mem_of_getElem? (i := 383) (by decide +kernel)⟩
def lw_privs_1 : List (MethodName × Nat) := [(⟨"BoardStore", "requireRunning", "()V"⟩, 9), (⟨"java/lang/Throwable", "fillInStackTrace", "(I)Ljava/lang/Throwable;"⟩, 6), (⟨"BoardStore", "equalOfFed", "()I"⟩, 9), (⟨"BoardStore", "takeNewBlock", "()I"⟩, 9), (⟨"BoardStore", "closeFed", "()I"⟩, 9), (⟨"BoardStore", "takeOldBlock", "(I)I"⟩, 9), (⟨"BoardStore", "requireVersion", "(I)V"⟩, 9), (⟨"BoardStore", "requireBlock", "(I)V"⟩, 9), (⟨"BoardStore", "hasBlock", "(II)Z"⟩, 9), (⟨"BoardStore", "lengthOfVersion", "(I)I"⟩, 9), (⟨"BoardStore", "removeUnheldBlocks", "()I"⟩, 9), (⟨"BoardStore", "markHeldBlocks", "()V"⟩, 9), (⟨"BoardStore", "countUnpacked", "()I"⟩, 9), (⟨"BoardStore", "isUnpacked", "(I)Z"⟩, 9), (⟨"BoardStore", "addToOpenPack", "(I)V"⟩, 9), (⟨"BoardStore", "closePack", "()V"⟩, 9)]
theorem lw_r1 : ∀ q ∈ lw_privs_1, lw_okq q := List.forall_mem_cons.mpr ⟨lw_p0, List.forall_mem_cons.mpr ⟨lw_p1, List.forall_mem_cons.mpr ⟨lw_p2, List.forall_mem_cons.mpr ⟨lw_p3, List.forall_mem_cons.mpr ⟨lw_p4, List.forall_mem_cons.mpr ⟨lw_p5, List.forall_mem_cons.mpr ⟨lw_p6, List.forall_mem_cons.mpr ⟨lw_p7, List.forall_mem_cons.mpr ⟨lw_p8, List.forall_mem_cons.mpr ⟨lw_p9, List.forall_mem_cons.mpr ⟨lw_p10, List.forall_mem_cons.mpr ⟨lw_p11, List.forall_mem_cons.mpr ⟨lw_p12, List.forall_mem_cons.mpr ⟨lw_p13, List.forall_mem_cons.mpr ⟨lw_p14, List.forall_mem_cons.mpr ⟨lw_p15, fun _ h => absurd h List.not_mem_nil⟩⟩⟩⟩⟩⟩⟩⟩⟩⟩⟩⟩⟩⟩⟩⟩
theorem lw_p16 : lw_okq (⟨"BoardStore", "requireNotNegative", "(I)V"⟩, 9) := ⟨⟨by decide +kernel, by decide +kernel⟩, List.mem_of_getElem? (i := 14) (by decide +kernel), List.mem_of_getElem? (i := 397) (by decide +kernel), List.mem_of_getElem? (i := 398) (by decide +kernel)⟩
theorem lw_p17 : lw_okq (⟨"BoardStore", "requireKeepable", "(I)V"⟩, 9) := ⟨⟨by decide +kernel, by decide +kernel⟩, List.mem_of_getElem? (i := 14) (by decide +kernel), List.mem_of_getElem? (i := 410) (by decide +kernel), List.mem_of_getElem? (i := 411) (by decide +kernel)⟩
theorem lw_p18 : lw_okq (⟨"BoardStore", "forgetAllButLog", "()V"⟩, 9) := ⟨⟨by decide +kernel, by decide +kernel⟩, List.mem_of_getElem? (i := 14) (by decide +kernel), List.mem_of_getElem? (i := 438) (by decide +kernel), List.mem_of_getElem? (i := 439) (by decide +kernel)⟩
theorem lw_p19 : lw_okq (⟨"BoardStore", "requireCrashed", "()V"⟩, 9) := ⟨⟨by decide +kernel, by decide +kernel⟩, List.mem_of_getElem? (i := 14) (by decide +kernel), List.mem_of_getElem? (i := 453) (by decide +kernel), List.mem_of_getElem? (i := 454) (by decide +kernel)⟩
theorem lw_p20 : lw_okq (⟨"BoardStore$Log", "lengthByKind", "(I)I"⟩, 2) := ⟨⟨by decide +kernel, by decide +kernel⟩, List.mem_of_getElem? (i := 22) (by decide +kernel), List.mem_of_getElem? (i := 462) (by decide +kernel), List.mem_of_getElem? (i := 463) (by decide +kernel)⟩
theorem lw_p21 : lw_okq (⟨"BoardStore", "redo", "(I)V"⟩, 9) := ⟨⟨by decide +kernel, by decide +kernel⟩, List.mem_of_getElem? (i := 14) (by decide +kernel), List.mem_of_getElem? (i := 471) (by decide +kernel), List.mem_of_getElem? (i := 472) (by decide +kernel)⟩
theorem lw_p22 : lw_okq (⟨"BoardStore", "redoNewBlock", "(I)V"⟩, 9) := ⟨⟨by decide +kernel, by decide +kernel⟩, List.mem_of_getElem? (i := 14) (by decide +kernel), List.mem_of_getElem? (i := 476) (by decide +kernel), List.mem_of_getElem? (i := 477) (by decide +kernel)⟩
theorem lw_p23 : lw_okq (⟨"BoardStore", "requireByteOfPack", "(II)V"⟩, 9) := ⟨⟨by decide +kernel, by decide +kernel⟩, List.mem_of_getElem? (i := 14) (by decide +kernel), List.mem_of_getElem? (i := 487) (by decide +kernel), List.mem_of_getElem? (i := 488) (by decide +kernel)⟩
theorem lw_p24 : lw_okq (⟨"BoardStore", "isBad", "(I)Z"⟩, 9) := ⟨⟨by decide +kernel, by decide +kernel⟩, List.mem_of_getElem? (i := 14) (by decide +kernel), List.mem_of_getElem? (i := 503) (by decide +kernel), List.mem_of_getElem? (i := 504) (by decide +kernel)⟩
theorem lw_p25 : lw_okq (⟨"BoardStore", "requireByteOfSum", "(I)V"⟩, 9) := ⟨⟨by decide +kernel, by decide +kernel⟩, List.mem_of_getElem? (i := 14) (by decide +kernel), List.mem_of_getElem? (i := 521) (by decide +kernel), List.mem_of_getElem? (i := 522) (by decide +kernel)⟩
theorem lw_p26 : lw_okq (⟨"BoardStoreModel", "isReady", "(I)Z"⟩, 21) := ⟨⟨by decide +kernel, by decide +kernel⟩, List.mem_of_getElem? (i := 540) (by decide +kernel), List.mem_of_getElem? (i := 618) (by decide +kernel), List.mem_of_getElem? (i := 619) (by decide +kernel)⟩
theorem lw_p27 : lw_okq (⟨"BoardStoreModel", "walk", "()V"⟩, 21) := ⟨⟨by decide +kernel, by decide +kernel⟩, List.mem_of_getElem? (i := 540) (by decide +kernel), List.mem_of_getElem? (i := 622) (by decide +kernel), List.mem_of_getElem? (i := 623) (by decide +kernel)⟩
theorem lw_p28 : lw_okq (⟨"BoardStoreModel", "sizeOf", "(I)I"⟩, 21) := ⟨⟨by decide +kernel, by decide +kernel⟩, List.mem_of_getElem? (i := 540) (by decide +kernel), List.mem_of_getElem? (i := 626) (by decide +kernel), List.mem_of_getElem? (i := 627) (by decide +kernel)⟩
theorem lw_p29 : lw_okq (⟨"BoardStoreModel", "act", "(I)V"⟩, 21) := ⟨⟨by decide +kernel, by decide +kernel⟩, List.mem_of_getElem? (i := 540) (by decide +kernel), List.mem_of_getElem? (i := 630) (by decide +kernel), List.mem_of_getElem? (i := 631) (by decide +kernel)⟩
theorem lw_p30 : lw_okq (⟨"BoardStoreModel", "append", "(I)V"⟩, 21) := ⟨⟨by decide +kernel, by decide +kernel⟩, List.mem_of_getElem? (i := 540) (by decide +kernel), List.mem_of_getElem? (i := 634) (by decide +kernel), List.mem_of_getElem? (i := 635) (by decide +kernel)⟩
theorem lw_p31 : lw_okq (⟨"BoardStoreModel", "sweepAll", "()V"⟩, 21) := ⟨⟨by decide +kernel, by decide +kernel⟩, List.mem_of_getElem? (i := 540) (by decide +kernel), List.mem_of_getElem? (i := 638) (by decide +kernel), List.mem_of_getElem? (i := 639) (by decide +kernel)⟩
def lw_privs_2 : List (MethodName × Nat) := [(⟨"BoardStore", "requireNotNegative", "(I)V"⟩, 9), (⟨"BoardStore", "requireKeepable", "(I)V"⟩, 9), (⟨"BoardStore", "forgetAllButLog", "()V"⟩, 9), (⟨"BoardStore", "requireCrashed", "()V"⟩, 9), (⟨"BoardStore$Log", "lengthByKind", "(I)I"⟩, 2), (⟨"BoardStore", "redo", "(I)V"⟩, 9), (⟨"BoardStore", "redoNewBlock", "(I)V"⟩, 9), (⟨"BoardStore", "requireByteOfPack", "(II)V"⟩, 9), (⟨"BoardStore", "isBad", "(I)Z"⟩, 9), (⟨"BoardStore", "requireByteOfSum", "(I)V"⟩, 9), (⟨"BoardStoreModel", "isReady", "(I)Z"⟩, 21), (⟨"BoardStoreModel", "walk", "()V"⟩, 21), (⟨"BoardStoreModel", "sizeOf", "(I)I"⟩, 21), (⟨"BoardStoreModel", "act", "(I)V"⟩, 21), (⟨"BoardStoreModel", "append", "(I)V"⟩, 21), (⟨"BoardStoreModel", "sweepAll", "()V"⟩, 21)]
theorem lw_r2 : ∀ q ∈ lw_privs_2, lw_okq q := List.forall_mem_cons.mpr ⟨lw_p16, List.forall_mem_cons.mpr ⟨lw_p17, List.forall_mem_cons.mpr ⟨lw_p18, List.forall_mem_cons.mpr ⟨lw_p19, List.forall_mem_cons.mpr ⟨lw_p20, List.forall_mem_cons.mpr ⟨lw_p21, List.forall_mem_cons.mpr ⟨lw_p22, List.forall_mem_cons.mpr ⟨lw_p23, List.forall_mem_cons.mpr ⟨lw_p24, List.forall_mem_cons.mpr ⟨lw_p25, List.forall_mem_cons.mpr ⟨lw_p26, List.forall_mem_cons.mpr ⟨lw_p27, List.forall_mem_cons.mpr ⟨lw_p28, List.forall_mem_cons.mpr ⟨lw_p29, List.forall_mem_cons.mpr ⟨lw_p30, List.forall_mem_cons.mpr ⟨lw_p31, fun _ h => absurd h List.not_mem_nil⟩⟩⟩⟩⟩⟩⟩⟩⟩⟩⟩⟩⟩⟩⟩⟩
theorem lw_p32 : lw_okq (⟨"BoardStoreModel", "isHeld", "(I)Z"⟩, 21) := ⟨⟨by decide +kernel, by decide +kernel⟩, List.mem_of_getElem? (i := 540) (by decide +kernel), List.mem_of_getElem? (i := 642) (by decide +kernel), List.mem_of_getElem? (i := 643) (by decide +kernel)⟩
theorem lw_p33 : lw_okq (⟨"BoardStoreModel", "isFood", "(I)Z"⟩, 21) := ⟨⟨by decide +kernel, by decide +kernel⟩, List.mem_of_getElem? (i := 540) (by decide +kernel), List.mem_of_getElem? (i := 653) (by decide +kernel), List.mem_of_getElem? (i := 654) (by decide +kernel)⟩
theorem lw_p34 : lw_okq (⟨"BoardStoreModel", "write", "(I)V"⟩, 21) := ⟨⟨by decide +kernel, by decide +kernel⟩, List.mem_of_getElem? (i := 540) (by decide +kernel), List.mem_of_getElem? (i := 657) (by decide +kernel), List.mem_of_getElem? (i := 658) (by decide +kernel)⟩
theorem lw_p35 : lw_okq (⟨"BoardStoreModel", "isVersion", "(I)Z"⟩, 21) := ⟨⟨by decide +kernel, by decide +kernel⟩, List.mem_of_getElem? (i := 540) (by decide +kernel), List.mem_of_getElem? (i := 673) (by decide +kernel), List.mem_of_getElem? (i := 674) (by decide +kernel)⟩
theorem lw_p36 : lw_okq (⟨"BoardStoreModel", "isBlock", "(I)Z"⟩, 21) := ⟨⟨by decide +kernel, by decide +kernel⟩, List.mem_of_getElem? (i := 540) (by decide +kernel), List.mem_of_getElem? (i := 681) (by decide +kernel), List.mem_of_getElem? (i := 682) (by decide +kernel)⟩
theorem lw_p37 : lw_okq (⟨"BoardStoreModel", "put", "(I)V"⟩, 21) := ⟨⟨by decide +kernel, by decide +kernel⟩, List.mem_of_getElem? (i := 540) (by decide +kernel), List.mem_of_getElem? (i := 709) (by decide +kernel), List.mem_of_getElem? (i := 710) (by decide +kernel)⟩
theorem lw_p38 : lw_okq (⟨"BoardStoreModel", "sumOf", "(I)I"⟩, 21) := ⟨⟨by decide +kernel, by decide +kernel⟩, List.mem_of_getElem? (i := 540) (by decide +kernel), List.mem_of_getElem? (i := 713) (by decide +kernel), List.mem_of_getElem? (i := 714) (by decide +kernel)⟩
theorem lw_p39 : lw_okq (⟨"BoardStoreModel", "isPackByte", "(II)Z"⟩, 21) := ⟨⟨by decide +kernel, by decide +kernel⟩, List.mem_of_getElem? (i := 540) (by decide +kernel), List.mem_of_getElem? (i := 721) (by decide +kernel), List.mem_of_getElem? (i := 722) (by decide +kernel)⟩
def lw_privs_3 : List (MethodName × Nat) := [(⟨"BoardStoreModel", "isHeld", "(I)Z"⟩, 21), (⟨"BoardStoreModel", "isFood", "(I)Z"⟩, 21), (⟨"BoardStoreModel", "write", "(I)V"⟩, 21), (⟨"BoardStoreModel", "isVersion", "(I)Z"⟩, 21), (⟨"BoardStoreModel", "isBlock", "(I)Z"⟩, 21), (⟨"BoardStoreModel", "put", "(I)V"⟩, 21), (⟨"BoardStoreModel", "sumOf", "(I)I"⟩, 21), (⟨"BoardStoreModel", "isPackByte", "(II)Z"⟩, 21)]
theorem lw_r3 : ∀ q ∈ lw_privs_3, lw_okq q := List.forall_mem_cons.mpr ⟨lw_p32, List.forall_mem_cons.mpr ⟨lw_p33, List.forall_mem_cons.mpr ⟨lw_p34, List.forall_mem_cons.mpr ⟨lw_p35, List.forall_mem_cons.mpr ⟨lw_p36, List.forall_mem_cons.mpr ⟨lw_p37, List.forall_mem_cons.mpr ⟨lw_p38, List.forall_mem_cons.mpr ⟨lw_p39, fun _ h => absurd h List.not_mem_nil⟩⟩⟩⟩⟩⟩⟩⟩
def lw_privs : List (MethodName × Nat) := lw_privs_1 ++ (lw_privs_2 ++ (lw_privs_3))
def lw_tbl : List Cond := k2_sels lw_privs ++ tables_1
theorem lw_privs_ok : ∀ q ∈ lw_privs, lw_okq q := by
  show ∀ q ∈ lw_privs_1 ++ (lw_privs_2 ++ (lw_privs_3)), lw_okq q
  exact List.forall_mem_append.mpr ⟨lw_r1, List.forall_mem_append.mpr ⟨lw_r2, lw_r3⟩⟩
end
section
/-! names: classes by a letter (S the store, L its log, K marks, P pieces, M the reference, W the law), their fields in the order of the slots; methods: code and name -/
def F_L : u_T := fun k => match k with
  | 0 => ("BoardStore$Log", "bytes", "[I", true)
  | _ => ("BoardStore$Log", "size", "I", false)
def t_L : Nat → FieldType := fun k => match k with
  | 0 => .array .int
  | _ => .int
theorem n_L : ∀ a, a < 2 → ∀ b, b < 2 → a ≠ b → (F_L a).2.1 ≠ (F_L b).2.1 := by decide +kernel
theorem t_L_ok : ∀ k, k < 2 → parseFieldDescriptor (F_L k).2.2.1 = some (t_L k) := by decide +kernel
def F_K : u_T := fun k => match k with
  | _ => ("BoardStore$Marks", "on", "[Z", true)
def t_K : Nat → FieldType := fun k => match k with
  | _ => .array .boolean
theorem n_K : ∀ a, a < 1 → ∀ b, b < 1 → a ≠ b → (F_K a).2.1 ≠ (F_K b).2.1 := by decide +kernel
theorem t_K_ok : ∀ k, k < 1 → parseFieldDescriptor (F_K k).2.2.1 = some (t_K k) := by decide +kernel
def F_P : u_T := fun k => match k with
  | 0 => ("BoardStore$Pieces", "items", "[I", true)
  | 1 => ("BoardStore$Pieces", "starts", "[I", true)
  | 2 => ("BoardStore$Pieces", "size", "I", false)
  | _ => ("BoardStore$Pieces", "count", "I", false)
def t_P : Nat → FieldType := fun k => match k with
  | 0 => .array .int
  | 1 => .array .int
  | 2 => .int
  | _ => .int
theorem n_P : ∀ a, a < 4 → ∀ b, b < 4 → a ≠ b → (F_P a).2.1 ≠ (F_P b).2.1 := by decide +kernel
theorem t_P_ok : ∀ k, k < 4 → parseFieldDescriptor (F_P k).2.2.1 = some (t_P k) := by decide +kernel
def F_S : u_T := fun k => match k with
  | 0 => ("BoardStore", "log", "LBoardStore$Log;", true)
  | 1 => ("BoardStore", "blocks", "LBoardStore$Pieces;", true)
  | 2 => ("BoardStore", "there", "LBoardStore$Marks;", true)
  | 3 => ("BoardStore", "packed", "LBoardStore$Marks;", true)
  | 4 => ("BoardStore", "held", "LBoardStore$Marks;", true)
  | 5 => ("BoardStore", "versions", "LBoardStore$Pieces;", true)
  | 6 => ("BoardStore", "dropped", "LBoardStore$Marks;", true)
  | 7 => ("BoardStore", "packs", "LBoardStore$Pieces;", true)
  | _ => ("BoardStore", "crashed", "Z", false)
def t_S : Nat → FieldType := fun k => match k with
  | 0 => .object "BoardStore$Log"
  | 1 => .object "BoardStore$Pieces"
  | 2 => .object "BoardStore$Marks"
  | 3 => .object "BoardStore$Marks"
  | 4 => .object "BoardStore$Marks"
  | 5 => .object "BoardStore$Pieces"
  | 6 => .object "BoardStore$Marks"
  | 7 => .object "BoardStore$Pieces"
  | _ => .boolean
theorem n_S : ∀ a, a < 9 → ∀ b, b < 9 → a ≠ b → (F_S a).2.1 ≠ (F_S b).2.1 := by decide +kernel
theorem t_S_ok : ∀ k, k < 9 → parseFieldDescriptor (F_S k).2.2.1 = some (t_S k) := by decide +kernel
def F_M : u_T := fun k => match k with
  | 0 => ("BoardStoreModel", "thrown", "I", false)
  | 1 => ("BoardStoreModel", "mostPacks", "I", true)
  | 2 => ("BoardStoreModel", "crashed", "Z", false)
  | 3 => ("BoardStoreModel", "fed", "I", false)
  | 4 => ("BoardStoreModel", "food", "[I", true)
  | 5 => ("BoardStoreModel", "size", "I", false)
  | 6 => ("BoardStoreModel", "log", "[I", true)
  | 7 => ("BoardStoreModel", "packs", "I", false)
  | 8 => ("BoardStoreModel", "packSize", "[I", true)
  | 9 => ("BoardStoreModel", "packBytes", "[I", true)
  | 10 => ("BoardStoreModel", "isPacked", "[Z", true)
  | 11 => ("BoardStoreModel", "blocks", "I", false)
  | 12 => ("BoardStoreModel", "from", "[I", true)
  | 13 => ("BoardStoreModel", "lengths", "[I", true)
  | 14 => ("BoardStoreModel", "there", "[Z", true)
  | 15 => ("BoardStoreModel", "versions", "I", false)
  | 16 => ("BoardStoreModel", "counts", "[I", true)
  | 17 => ("BoardStoreModel", "rows", "[I", true)
  | 18 => ("BoardStoreModel", "dropped", "[Z", true)
  | 19 => ("BoardStoreModel", "end", "I", false)
  | _ => ("BoardStoreModel", "swept", "I", false)
def t_M : Nat → FieldType := fun k => match k with
  | 0 => .int
  | 1 => .int
  | 2 => .boolean
  | 3 => .int
  | 4 => .array .int
  | 5 => .int
  | 6 => .array .int
  | 7 => .int
  | 8 => .array .int
  | 9 => .array .int
  | 10 => .array .boolean
  | 11 => .int
  | 12 => .array .int
  | 13 => .array .int
  | 14 => .array .boolean
  | 15 => .int
  | 16 => .array .int
  | 17 => .array .int
  | 18 => .array .boolean
  | 19 => .int
  | _ => .int
theorem n_M : ∀ a, a < 21 → ∀ b, b < 21 → a ≠ b → (F_M a).2.1 ≠ (F_M b).2.1 := by decide +kernel
theorem t_M_ok : ∀ k, k < 21 → parseFieldDescriptor (F_M k).2.2.1 = some (t_M k) := by decide +kernel
abbrev bcl : List vw_C := [("BoardStore$Log", F_L, 2), ("BoardStore$Marks", F_K, 1), ("BoardStore$Pieces", F_P, 4), ("BoardStore", F_S, 9), ("BoardStoreModel", F_M, 21)]
abbrev b_S_init : ByteArray := prog_1_method_1_code
abbrev y_S_init : MethodName := ⟨"BoardStore", "<init>", "(I)V"⟩
abbrev b_S_feed : ByteArray := prog_1_method_2_code
abbrev y_S_feed : MethodName := ⟨"BoardStore", "feed", "(I)Z"⟩
abbrev b_S_block : ByteArray := prog_1_method_3_code
abbrev y_S_block : MethodName := ⟨"BoardStore", "block", "()I"⟩
abbrev b_S_version : ByteArray := prog_1_method_4_code
abbrev y_S_version : MethodName := ⟨"BoardStore", "version", "()I"⟩
abbrev b_S_holds : ByteArray := prog_1_method_5_code
abbrev y_S_holds : MethodName := ⟨"BoardStore", "holds", "(II)Z"⟩
abbrev b_S_root : ByteArray := prog_1_method_6_code
abbrev y_S_root : MethodName := ⟨"BoardStore", "root", "(I)I"⟩
abbrev b_S_sweep : ByteArray := prog_1_method_7_code
abbrev y_S_sweep : MethodName := ⟨"BoardStore", "sweep", "()I"⟩
abbrev b_S_pack : ByteArray := prog_1_method_8_code
abbrev y_S_pack : MethodName := ⟨"BoardStore", "pack", "()I"⟩
abbrev b_S_byteAt : ByteArray := prog_1_method_9_code
abbrev y_S_byteAt : MethodName := ⟨"BoardStore", "byteAt", "(II)I"⟩
abbrev b_S_crash : ByteArray := prog_1_method_10_code
abbrev y_S_crash : MethodName := ⟨"BoardStore", "crash", "(I)Z"⟩
abbrev b_S_reopen : ByteArray := prog_1_method_11_code
abbrev y_S_reopen : MethodName := ⟨"BoardStore", "reopen", "()I"⟩
abbrev b_S_poke : ByteArray := prog_1_method_12_code
abbrev y_S_poke : MethodName := ⟨"BoardStore", "poke", "(III)Z"⟩
abbrev b_S_badAt : ByteArray := prog_1_method_13_code
abbrev y_S_badAt : MethodName := ⟨"BoardStore", "badAt", "()I"⟩
abbrev b_S_packByte : ByteArray := prog_1_method_14_code
abbrev y_S_packByte : MethodName := ⟨"BoardStore", "packByte", "(II)I"⟩
abbrev b_S_digest : ByteArray := prog_1_method_15_code
abbrev y_S_digest : MethodName := ⟨"BoardStore", "digest", "(II)I"⟩
abbrev b_S_out : ByteArray := prog_1_method_16_code
abbrev y_S_out : MethodName := ⟨"BoardStore", "out", "(II)I"⟩
abbrev b_S_drop : ByteArray := prog_1_method_17_code
abbrev y_S_drop : MethodName := ⟨"BoardStore", "drop", "(I)Z"⟩
abbrev b_S_requireRunning : ByteArray := prog_1_method_18_code
abbrev y_S_requireRunning : MethodName := ⟨"BoardStore", "requireRunning", "()V"⟩
abbrev b_S_requireCrashed : ByteArray := prog_1_method_19_code
abbrev y_S_requireCrashed : MethodName := ⟨"BoardStore", "requireCrashed", "()V"⟩
abbrev b_S_requireVersion : ByteArray := prog_1_method_20_code
abbrev y_S_requireVersion : MethodName := ⟨"BoardStore", "requireVersion", "(I)V"⟩
abbrev b_S_requireBlock : ByteArray := prog_1_method_21_code
abbrev y_S_requireBlock : MethodName := ⟨"BoardStore", "requireBlock", "(I)V"⟩
abbrev b_S_requireByteOfPack : ByteArray := prog_1_method_22_code
abbrev y_S_requireByteOfPack : MethodName := ⟨"BoardStore", "requireByteOfPack", "(II)V"⟩
abbrev b_S_requireByteOfSum : ByteArray := prog_1_method_23_code
abbrev y_S_requireByteOfSum : MethodName := ⟨"BoardStore", "requireByteOfSum", "(I)V"⟩
abbrev b_S_requireNotNegative : ByteArray := prog_1_method_24_code
abbrev y_S_requireNotNegative : MethodName := ⟨"BoardStore", "requireNotNegative", "(I)V"⟩
abbrev b_S_requireKeepable : ByteArray := prog_1_method_25_code
abbrev y_S_requireKeepable : MethodName := ⟨"BoardStore", "requireKeepable", "(I)V"⟩
abbrev b_S_equalOfFed : ByteArray := prog_1_method_26_code
abbrev y_S_equalOfFed : MethodName := ⟨"BoardStore", "equalOfFed", "()I"⟩
abbrev b_S_takeNewBlock : ByteArray := prog_1_method_27_code
abbrev y_S_takeNewBlock : MethodName := ⟨"BoardStore", "takeNewBlock", "()I"⟩
abbrev b_S_takeOldBlock : ByteArray := prog_1_method_28_code
abbrev y_S_takeOldBlock : MethodName := ⟨"BoardStore", "takeOldBlock", "(I)I"⟩
abbrev b_S_closeFed : ByteArray := prog_1_method_29_code
abbrev y_S_closeFed : MethodName := ⟨"BoardStore", "closeFed", "()I"⟩
abbrev b_S_removeUnheldBlocks : ByteArray := prog_1_method_30_code
abbrev y_S_removeUnheldBlocks : MethodName := ⟨"BoardStore", "removeUnheldBlocks", "()I"⟩
abbrev b_S_markHeldBlocks : ByteArray := prog_1_method_31_code
abbrev y_S_markHeldBlocks : MethodName := ⟨"BoardStore", "markHeldBlocks", "()V"⟩
abbrev b_S_hasBlock : ByteArray := prog_1_method_32_code
abbrev y_S_hasBlock : MethodName := ⟨"BoardStore", "hasBlock", "(II)Z"⟩
abbrev b_S_lengthOfVersion : ByteArray := prog_1_method_33_code
abbrev y_S_lengthOfVersion : MethodName := ⟨"BoardStore", "lengthOfVersion", "(I)I"⟩
abbrev b_S_isUnpacked : ByteArray := prog_1_method_34_code
abbrev y_S_isUnpacked : MethodName := ⟨"BoardStore", "isUnpacked", "(I)Z"⟩
abbrev b_S_countUnpacked : ByteArray := prog_1_method_35_code
abbrev y_S_countUnpacked : MethodName := ⟨"BoardStore", "countUnpacked", "()I"⟩
abbrev b_S_addToOpenPack : ByteArray := prog_1_method_36_code
abbrev y_S_addToOpenPack : MethodName := ⟨"BoardStore", "addToOpenPack", "(I)V"⟩
abbrev b_S_closePack : ByteArray := prog_1_method_37_code
abbrev y_S_closePack : MethodName := ⟨"BoardStore", "closePack", "()V"⟩
abbrev b_S_isBad : ByteArray := prog_1_method_38_code
abbrev y_S_isBad : MethodName := ⟨"BoardStore", "isBad", "(I)Z"⟩
abbrev b_S_forgetAllButLog : ByteArray := prog_1_method_39_code
abbrev y_S_forgetAllButLog : MethodName := ⟨"BoardStore", "forgetAllButLog", "()V"⟩
abbrev b_S_redo : ByteArray := prog_1_method_40_code
abbrev y_S_redo : MethodName := ⟨"BoardStore", "redo", "(I)V"⟩
abbrev b_S_redoNewBlock : ByteArray := prog_1_method_41_code
abbrev y_S_redoNewBlock : MethodName := ⟨"BoardStore", "redoNewBlock", "(I)V"⟩
abbrev b_S_nextSum : ByteArray := prog_1_method_42_code
abbrev y_S_nextSum : MethodName := ⟨"BoardStore", "nextSum", "(II)I"⟩
abbrev b_S_byteOfSum : ByteArray := prog_1_method_43_code
abbrev y_S_byteOfSum : MethodName := ⟨"BoardStore", "byteOfSum", "(II)I"⟩
abbrev b_M_init : ByteArray := prog_6_method_1_code
abbrev y_M_init : MethodName := ⟨"BoardStoreModel", "<init>", "(I)V"⟩
abbrev b_M_thrown : ByteArray := prog_6_method_2_code
abbrev y_M_thrown : MethodName := ⟨"BoardStoreModel", "thrown", "()I"⟩
abbrev b_M_append : ByteArray := prog_6_method_3_code
abbrev y_M_append : MethodName := ⟨"BoardStoreModel", "append", "(I)V"⟩
abbrev b_M_isHeld : ByteArray := prog_6_method_4_code
abbrev y_M_isHeld : MethodName := ⟨"BoardStoreModel", "isHeld", "(I)Z"⟩
abbrev b_M_sweepAll : ByteArray := prog_6_method_5_code
abbrev y_M_sweepAll : MethodName := ⟨"BoardStoreModel", "sweepAll", "()V"⟩
abbrev b_M_sizeOf : ByteArray := prog_6_method_6_code
abbrev y_M_sizeOf : MethodName := ⟨"BoardStoreModel", "sizeOf", "(I)I"⟩
abbrev b_M_act : ByteArray := prog_6_method_7_code
abbrev y_M_act : MethodName := ⟨"BoardStoreModel", "act", "(I)V"⟩
abbrev b_M_walk : ByteArray := prog_6_method_8_code
abbrev y_M_walk : MethodName := ⟨"BoardStoreModel", "walk", "()V"⟩
abbrev b_M_isReady : ByteArray := prog_6_method_9_code
abbrev y_M_isReady : MethodName := ⟨"BoardStoreModel", "isReady", "(I)Z"⟩
abbrev b_M_write : ByteArray := prog_6_method_10_code
abbrev y_M_write : MethodName := ⟨"BoardStoreModel", "write", "(I)V"⟩
abbrev b_M_isByte : ByteArray := prog_6_method_11_code
abbrev y_M_isByte : MethodName := ⟨"BoardStoreModel", "isByte", "(I)Z"⟩
abbrev b_M_feed : ByteArray := prog_6_method_12_code
abbrev y_M_feed : MethodName := ⟨"BoardStoreModel", "feed", "(I)Z"⟩
abbrev b_M_isFood : ByteArray := prog_6_method_13_code
abbrev y_M_isFood : MethodName := ⟨"BoardStoreModel", "isFood", "(I)Z"⟩
abbrev b_M_block : ByteArray := prog_6_method_14_code
abbrev y_M_block : MethodName := ⟨"BoardStoreModel", "block", "()I"⟩
abbrev b_M_version : ByteArray := prog_6_method_15_code
abbrev y_M_version : MethodName := ⟨"BoardStoreModel", "version", "()I"⟩
abbrev b_M_sweep : ByteArray := prog_6_method_16_code
abbrev y_M_sweep : MethodName := ⟨"BoardStoreModel", "sweep", "()I"⟩
abbrev b_M_isVersion : ByteArray := prog_6_method_17_code
abbrev y_M_isVersion : MethodName := ⟨"BoardStoreModel", "isVersion", "(I)Z"⟩
abbrev b_M_isBlock : ByteArray := prog_6_method_18_code
abbrev y_M_isBlock : MethodName := ⟨"BoardStoreModel", "isBlock", "(I)Z"⟩
abbrev b_M_drop : ByteArray := prog_6_method_19_code
abbrev y_M_drop : MethodName := ⟨"BoardStoreModel", "drop", "(I)Z"⟩
abbrev b_M_holds : ByteArray := prog_6_method_20_code
abbrev y_M_holds : MethodName := ⟨"BoardStoreModel", "holds", "(II)Z"⟩
abbrev b_M_next : ByteArray := prog_6_method_21_code
abbrev y_M_next : MethodName := ⟨"BoardStoreModel", "next", "(II)I"⟩
abbrev b_M_root : ByteArray := prog_6_method_22_code
abbrev y_M_root : MethodName := ⟨"BoardStoreModel", "root", "(I)I"⟩
abbrev b_M_out : ByteArray := prog_6_method_23_code
abbrev y_M_out : MethodName := ⟨"BoardStoreModel", "out", "(II)I"⟩
abbrev b_M_byteAt : ByteArray := prog_6_method_24_code
abbrev y_M_byteAt : MethodName := ⟨"BoardStoreModel", "byteAt", "(II)I"⟩
abbrev b_M_digest : ByteArray := prog_6_method_25_code
abbrev y_M_digest : MethodName := ⟨"BoardStoreModel", "digest", "(II)I"⟩
abbrev b_M_put : ByteArray := prog_6_method_26_code
abbrev y_M_put : MethodName := ⟨"BoardStoreModel", "put", "(I)V"⟩
abbrev b_M_sumOf : ByteArray := prog_6_method_27_code
abbrev y_M_sumOf : MethodName := ⟨"BoardStoreModel", "sumOf", "(I)I"⟩
abbrev b_M_pack : ByteArray := prog_6_method_28_code
abbrev y_M_pack : MethodName := ⟨"BoardStoreModel", "pack", "()I"⟩
abbrev b_M_isPackByte : ByteArray := prog_6_method_29_code
abbrev y_M_isPackByte : MethodName := ⟨"BoardStoreModel", "isPackByte", "(II)Z"⟩
abbrev b_M_packByte : ByteArray := prog_6_method_30_code
abbrev y_M_packByte : MethodName := ⟨"BoardStoreModel", "packByte", "(II)I"⟩
abbrev b_M_poke : ByteArray := prog_6_method_31_code
abbrev y_M_poke : MethodName := ⟨"BoardStoreModel", "poke", "(III)Z"⟩
abbrev b_M_badAt : ByteArray := prog_6_method_32_code
abbrev y_M_badAt : MethodName := ⟨"BoardStoreModel", "badAt", "()I"⟩
abbrev b_M_crash : ByteArray := prog_6_method_33_code
abbrev y_M_crash : MethodName := ⟨"BoardStoreModel", "crash", "(I)Z"⟩
abbrev b_M_reopen : ByteArray := prog_6_method_34_code
abbrev y_M_reopen : MethodName := ⟨"BoardStoreModel", "reopen", "()I"⟩
abbrev b_L_init : ByteArray := prog_2_method_1_code
abbrev y_L_init : MethodName := ⟨"BoardStore$Log", "<init>", "()V"⟩
abbrev b_L_length : ByteArray := prog_2_method_2_code
abbrev y_L_length : MethodName := ⟨"BoardStore$Log", "length", "()I"⟩
abbrev b_L_hasRoom : ByteArray := prog_2_method_3_code
abbrev y_L_hasRoom : MethodName := ⟨"BoardStore$Log", "hasRoom", "(I)Z"⟩
abbrev b_L_add : ByteArray := prog_2_method_4_code
abbrev y_L_add : MethodName := ⟨"BoardStore$Log", "add", "(I)V"⟩
abbrev b_L_at : ByteArray := prog_2_method_5_code
abbrev y_L_at : MethodName := ⟨"BoardStore$Log", "at", "(I)I"⟩
abbrev b_L_cutTo : ByteArray := prog_2_method_6_code
abbrev y_L_cutTo : MethodName := ⟨"BoardStore$Log", "cutTo", "(I)V"⟩
abbrev b_L_lengthOfRecord : ByteArray := prog_2_method_7_code
abbrev y_L_lengthOfRecord : MethodName := ⟨"BoardStore$Log", "lengthOfRecord", "(I)I"⟩
abbrev b_L_lengthByKind : ByteArray := prog_2_method_8_code
abbrev y_L_lengthByKind : MethodName := ⟨"BoardStore$Log", "lengthByKind", "(I)I"⟩
abbrev b_K_init : ByteArray := prog_3_method_1_code
abbrev y_K_init : MethodName := ⟨"BoardStore$Marks", "<init>", "(I)V"⟩
abbrev b_K_isOn : ByteArray := prog_3_method_2_code
abbrev y_K_isOn : MethodName := ⟨"BoardStore$Marks", "isOn", "(I)Z"⟩
abbrev b_K_turnOn : ByteArray := prog_3_method_3_code
abbrev y_K_turnOn : MethodName := ⟨"BoardStore$Marks", "turnOn", "(I)V"⟩
abbrev b_K_turnOff : ByteArray := prog_3_method_4_code
abbrev y_K_turnOff : MethodName := ⟨"BoardStore$Marks", "turnOff", "(I)V"⟩
abbrev b_K_clear : ByteArray := prog_3_method_5_code
abbrev y_K_clear : MethodName := ⟨"BoardStore$Marks", "clear", "()V"⟩
abbrev b_P_init : ByteArray := prog_4_method_1_code
abbrev y_P_init : MethodName := ⟨"BoardStore$Pieces", "<init>", "(II)V"⟩
abbrev b_P_count : ByteArray := prog_4_method_2_code
abbrev y_P_count : MethodName := ⟨"BoardStore$Pieces", "count", "()I"⟩
abbrev b_P_stillFree : ByteArray := prog_4_method_3_code
abbrev y_P_stillFree : MethodName := ⟨"BoardStore$Pieces", "stillFree", "()I"⟩
abbrev b_P_isFull : ByteArray := prog_4_method_4_code
abbrev y_P_isFull : MethodName := ⟨"BoardStore$Pieces", "isFull", "()Z"⟩
abbrev b_P_has : ByteArray := prog_4_method_5_code
abbrev y_P_has : MethodName := ⟨"BoardStore$Pieces", "has", "(I)Z"⟩
abbrev b_P_length : ByteArray := prog_4_method_6_code
abbrev y_P_length : MethodName := ⟨"BoardStore$Pieces", "length", "(I)I"⟩
abbrev b_P_at : ByteArray := prog_4_method_7_code
abbrev y_P_at : MethodName := ⟨"BoardStore$Pieces", "at", "(II)I"⟩
abbrev b_P_put : ByteArray := prog_4_method_8_code
abbrev y_P_put : MethodName := ⟨"BoardStore$Pieces", "put", "(III)V"⟩
abbrev b_P_openLength : ByteArray := prog_4_method_9_code
abbrev y_P_openLength : MethodName := ⟨"BoardStore$Pieces", "openLength", "()I"⟩
abbrev b_P_openAt : ByteArray := prog_4_method_10_code
abbrev y_P_openAt : MethodName := ⟨"BoardStore$Pieces", "openAt", "(I)I"⟩
abbrev b_P_add : ByteArray := prog_4_method_11_code
abbrev y_P_add : MethodName := ⟨"BoardStore$Pieces", "add", "(I)V"⟩
abbrev b_P_close : ByteArray := prog_4_method_12_code
abbrev y_P_close : MethodName := ⟨"BoardStore$Pieces", "close", "()I"⟩
abbrev b_P_clearOpen : ByteArray := prog_4_method_13_code
abbrev y_P_clearOpen : MethodName := ⟨"BoardStore$Pieces", "clearOpen", "()V"⟩
abbrev b_P_clear : ByteArray := prog_4_method_14_code
abbrev y_P_clear : MethodName := ⟨"BoardStore$Pieces", "clear", "()V"⟩
abbrev b_P_equalsOpen : ByteArray := prog_4_method_15_code
abbrev y_P_equalsOpen : MethodName := ⟨"BoardStore$Pieces", "equalsOpen", "(I)Z"⟩
abbrev b_P_sum : ByteArray := prog_4_method_16_code
abbrev y_P_sum : MethodName := ⟨"BoardStore$Pieces", "sum", "(III)I"⟩
abbrev b_W_cell : ByteArray := method_2_code
abbrev y_W_cell : MethodName := ⟨"BoardStoreLaw", "cell", "([II)I"⟩
abbrev b_W_feed : ByteArray := method_3_code
abbrev y_W_feed : MethodName := ⟨"BoardStoreLaw", "feed", "(LBoardStore;I[J)I"⟩
abbrev b_W_block : ByteArray := method_4_code
abbrev y_W_block : MethodName := ⟨"BoardStoreLaw", "block", "(LBoardStore;[J)I"⟩
abbrev b_W_version : ByteArray := method_5_code
abbrev y_W_version : MethodName := ⟨"BoardStoreLaw", "version", "(LBoardStore;[J)I"⟩
abbrev b_W_holds : ByteArray := method_6_code
abbrev y_W_holds : MethodName := ⟨"BoardStoreLaw", "holds", "(LBoardStore;II[J)I"⟩
abbrev b_W_root : ByteArray := method_7_code
abbrev y_W_root : MethodName := ⟨"BoardStoreLaw", "root", "(LBoardStore;I[J)I"⟩
abbrev b_W_sweep : ByteArray := method_8_code
abbrev y_W_sweep : MethodName := ⟨"BoardStoreLaw", "sweep", "(LBoardStore;[J)I"⟩
abbrev b_W_pack : ByteArray := method_9_code
abbrev y_W_pack : MethodName := ⟨"BoardStoreLaw", "pack", "(LBoardStore;[J)I"⟩
abbrev b_W_byteAt : ByteArray := method_10_code
abbrev y_W_byteAt : MethodName := ⟨"BoardStoreLaw", "byteAt", "(LBoardStore;II[J)I"⟩
abbrev b_W_crash : ByteArray := method_11_code
abbrev y_W_crash : MethodName := ⟨"BoardStoreLaw", "crash", "(LBoardStore;I[J)I"⟩
abbrev b_W_reopen : ByteArray := method_12_code
abbrev y_W_reopen : MethodName := ⟨"BoardStoreLaw", "reopen", "(LBoardStore;[J)I"⟩
abbrev b_W_poke : ByteArray := method_13_code
abbrev y_W_poke : MethodName := ⟨"BoardStoreLaw", "poke", "(LBoardStore;III[J)I"⟩
abbrev b_W_badAt : ByteArray := method_14_code
abbrev y_W_badAt : MethodName := ⟨"BoardStoreLaw", "badAt", "(LBoardStore;[J)I"⟩
abbrev b_W_packByte : ByteArray := method_15_code
abbrev y_W_packByte : MethodName := ⟨"BoardStoreLaw", "packByte", "(LBoardStore;II[J)I"⟩
abbrev b_W_digest : ByteArray := method_16_code
abbrev y_W_digest : MethodName := ⟨"BoardStoreLaw", "digest", "(LBoardStore;II[J)I"⟩
abbrev b_W_out : ByteArray := method_17_code
abbrev y_W_out : MethodName := ⟨"BoardStoreLaw", "out", "(LBoardStore;II[J)I"⟩
abbrev b_W_drop : ByteArray := method_18_code
abbrev y_W_drop : MethodName := ⟨"BoardStoreLaw", "drop", "(LBoardStore;I[J)I"⟩
def bstrs : List (String × Nat × String) := [("BoardStore", 185, "it crashed"), ("BoardStore", 197, "no such version"), ("BoardStore", 200, "no block had that number"), ("BoardStore", 206, "a byte's index is below 0"), ("BoardStore", 210, "the log does not have so many bytes"), ("BoardStore", 190, "it did not crash"), ("BoardStore", 202, "no such pack or byte"), ("BoardStore", 204, "no such byte of a sum")]
def bnests : List (String × Nat × MethodName × String) := [("BoardStore", 11, ⟨"BoardStore$Log", "<init>", "()V"⟩, "BoardStore"), ("BoardStore$Pieces", 51, ⟨"BoardStore", "nextSum", "(II)I"⟩, "BoardStore")]
def bnots : List (String × String) := [("java/lang/IllegalStateException", "java/lang/IndexOutOfBoundsException"), ("java/lang/IllegalStateException", "java/lang/IllegalArgumentException")]
end
section
/-! ===== bV: a walk over a world alone. The four judgements of the heap (va_P, va_D, va_S, the locals) are bundled; a method's world is its caller's whole world; a contract speaks of what comes back: a value, or the class of what was thrown ===== -/
-- the tables' words that stay true under warmer tables: one list for all methods
def bw_ok (w : Cond) : Bool := (w.onTables && w.keepsFace) || (match w with | .arrayClass _ => true | _ => false)
def bw : List Cond := lw_tbl.filter bw_ok
theorem bw_of {w : Cond} (h : w ∈ lw_tbl) (ho : bw_ok w = true) : w ∈ bw := List.mem_filter.mpr ⟨h, ho⟩
theorem bw_good {w : Cond} (h : bw_ok w = true) : (w.onTables = true ∧ w.keepsFace = true) ∨ ∃ ty, w = .arrayClass ty := by
  unfold bw_ok at h
  cases hk : (w.onTables && w.keepsFace) with
  | true => exact Or.inl (by simpa using hk)
  | false =>
    rw [hk, Bool.false_or] at h
    refine Or.inr ?_
    split at h
    · exact ⟨_, rfl⟩
    · cases h
theorem bw_warm {w : Cond} (h : w ∈ bw) {a a' : Array Value} {s U : State} (hW : s.WarmedH U.vm) (hb : w.before a s = true) : w.before a' U = true := by
  rcases bw_good (List.mem_filter.mp h).2 with ⟨h1, h2⟩ | h1
  · have h3 : w.before a (s.setVm U.vm) = true := Cond.before_shiftedFace (State.Shifted.of_warmed hW) w h2 hb
    rw [Cond.onTables_vm (A := a) (A' := a') (U := s) (U' := U) U.vm w h1, State.setVm_self] at h3
    exact h3
  · exact word_at hW (Or.inr h1) hb
-- locals by their numbers
def bl_get : List (Nat × Value) → Nat → Option Value
  | [], _ => none
  | q :: r, i => if q.1 = i then some q.2 else bl_get r i
theorem bl_mem : ∀ (lv : List (Nat × Value)) (i : Nat) (v : Value), bl_get lv i = some v → (i, v) ∈ lv := by
  intro lv
  induction lv with
  | nil => intro i v h; cases h
  | cons q r ih =>
    intro i v h
    unfold bl_get at h
    by_cases hq : q.1 = i
    · rw [if_pos hq] at h
      have h2 : q = (i, v) := by
        obtain ⟨a, b⟩ := q
        cases h
        cases hq
        rfl
      rw [h2]
      exact List.mem_cons_self
    · rw [if_neg hq] at h
      exact List.mem_cons_of_mem _ (ih i v h)
theorem bl_at {ls : Array Slot} {nL : Nat} {lv : List (Nat × Value)} {i : Nat} {v : Value} (hl : lv_has ls nL lv) (h : bl_get lv i = some v) : ls[i]? = some (.val v) := hl.2.2 (i, v) (bl_mem lv i v h)
def bl_set (lv : List (Nat × Value)) (i : Nat) (v : Value) : List (Nat × Value) := if (lv.any (fun q => q.1 == i)) = true then lv.map (fun q => if q.1 = i then (i, v) else q) else lv ++ [(i, v)]
theorem bl_set_mem {lv : List (Nat × Value)} {i : Nat} {v : Value} {q : Nat × Value} (h : q ∈ bl_set lv i v) : q = (i, v) ∨ (q ∈ lv ∧ q.1 ≠ i) := by
  unfold bl_set at h
  split at h
  · obtain ⟨z, hz, rfl⟩ := List.mem_map.mp h
    by_cases hq : z.1 = i
    · exact Or.inl (if_pos hq)
    · rw [if_neg hq]; exact Or.inr ⟨hz, hq⟩
  · rename_i hn
    rcases List.mem_append.mp h with h | h
    · by_cases hq : q.1 = i
      · exact absurd (List.any_eq_true.mpr ⟨q, h, by simpa using hq⟩) hn
      · exact Or.inr ⟨h, hq⟩
    · exact Or.inl (List.mem_singleton.mp h)
theorem bl_put {ls : Array Slot} {nL : Nat} {lv lv' : List (Nat × Value)} {i : Nat} {v : Value} (h : lv_has ls nL ((i, v) :: lv.filter (fun q => !(q.1 == i) && !(q.1 + 1 == i && q.2.category == 2)))) (hc : lv.all (fun q => q.2.category == 1) = true) (he : bl_set lv i v = lv') : lv_has ls nL lv' := by
  subst he
  refine ⟨h.1, h.2.1, fun q hq => ?_⟩
  rcases bl_set_mem hq with rfl | ⟨h1, h2⟩
  · exact h.2.2 _ List.mem_cons_self
  · refine h.2.2 q (List.mem_cons_of_mem _ (List.mem_filter.mpr ⟨h1, ?_⟩))
    have h3 : q.2.category = 1 := by simpa using List.all_eq_true.mp hc q h1
    simp [h2, h3]
-- what lies outside of every world: the statics that a Throwable's constructor reads, the String constants, words that are no words of bw
def bZ (C n d : String) (U : State) : Prop := (Cond.laysStatic C n d).before #[] U = true ∧ (Cond.isRef (.static C n d)).before #[] U = true
theorem bZ.go {C n d : String} {s U : State} (hW : s.vm.Alike U.vm) (hk : ∀ (a : Nat) (cell : Cell), s.heap[a]? = some cell → cell.vm.isStatics = true → U.heap[a]? = some cell) (h : bZ C n d s) : bZ C n d U := by
  obtain ⟨h1, h2⟩ := h
  obtain ⟨c, k, i, f, a, cell, hc, hi, hst, ha, hcell, hs, hcls, hlt, hty⟩ := Cond.laysStatic_spec h1
  obtain ⟨k', hi', he⟩ := State.fieldFound?_setVm hW hi
  have hi2 : U.fieldFound? C n d = some (c, k', i, f) := hi'
  have hcell' := hk a cell hcell hs
  refine ⟨Cond.laysStatic_of (by rw [hW.findClass]; exact hc) hi2 hst (by rw [he]; exact ha) hcell' hs hcls hlt (by rw [he]; exact hty), ?_⟩
  cases hv : (Term.static C n d).eval #[] s none [] s with
  | none => simp [Cond.before, Cond.holds, Cond.value, hv] at h2
  | some v =>
    obtain ⟨-, a', cell2, ha', hcell2, -, hsl⟩ := Term.static_spec hi hv
    cases ha.symm.trans ha'
    cases hcell.symm.trans hcell2
    have hv2 : (Term.static C n d).eval #[] U none [] U = some v := Term.static_eval hi2 hst (by rw [he]; exact ha) hcell' hs hsl
    simp only [Cond.before, Cond.holds, Cond.value, hv] at h2
    simp only [Cond.before, Cond.holds, Cond.value, hv2]
    exact h2
def bX (U : State) : Prop := bZ Bundle.tN "UNASSIGNED_STACK" Bundle.steD U ∧ bZ Bundle.tN "SUPPRESSED_SENTINEL" Bundle.listD U ∧ (∀ q ∈ bstrs, ∃ a, vk_R q.1 q.2.1 q.2.2 a U) ∧ (∀ q ∈ bnots, va_Nc q.1 q.2 U) ∧ (∀ q ∈ bnests, va_Nw (.methodLinkNest q.1 q.2.1 q.2.2.1 q.2.2.2) U)
theorem bX.same {u U : State} (hv : U.vm = u.vm) (hh : U.heap = u.heap) (h : bX u) : bX U := by
  have hal : u.vm.Alike U.vm := by rw [hv]; exact Vm.Alike.refl _
  have hk : ∀ (a : Nat) (cell : Cell), u.heap[a]? = some cell → cell.vm.isStatics = true → U.heap[a]? = some cell := fun a cell h1 _ => by rw [hh]; exact h1
  obtain ⟨h1, h2, h3, h4, h5⟩ := h
  exact ⟨h1.go hal hk, h2.go hal hk, fun q hq => (h3 q hq).imp fun a ha => vk_R.same hv ha, fun q hq => (h4 q hq).moved hal, fun q hq => va_Nw.same rfl hv.symm (h5 q hq)⟩
theorem bX.go {s U : State} (hW : s.WarmedH U.vm) (hk : ∀ (a : Nat) (cell : Cell), s.heap[a]? = some cell → cell.vm.isStatics = true → U.heap[a]? = some cell) (h : bX s) : bX U := by
  obtain ⟨h1, h2, h3, h4, h5⟩ := h
  exact ⟨h1.go hW.alike hk, h2.go hW.alike hk, fun q hq => (h3 q hq).imp fun a ha => vk_R.warm hW ha, fun q hq => (h4 q hq).moved hW.alike, fun q hq => va_Nw.warmM hW (h5 q hq)⟩
-- a walk's fixed things
abbrev bCtx := Program × Launch × Env × Room × State × MethodId × Array Value × List Frame × Method × Code × (Nat → Prop) × (State → Prop)
abbrev bTb := List (Nat × Nat × Nat × Nat)
def bV (D : va_G) (cl : List vw_C) (Γ : bCtx) (nL : Nat) (ws : va_W) (k n pc : Nat) (lv : List (Nat × Value)) (st : List Value) : Prop := match Γ with
  | (p, l, e, R, s, m, args, below, meth, c, A, Q) => ∀ (H : Heap) (locs : List Loc) (ls : Array Slot), va_P D cl ws H → va_D A ws → va_S A s.heap H locs → lv_has ls nL lv → W p l e R s m args below meth c H locs k n Q (F0 m pc ls st)
-- .. and an exception of the class E comes out of the instruction at pc
def bT (D : va_G) (cl : List vw_C) (Γ : bCtx) (nL : Nat) (ws : va_W) (k n pc : Nat) (lv : List (Nat × Value)) (E : String) : Prop := match Γ with
  | (p, l, e, R, s, m, args, below, meth, c, A, Q) => ∀ (H : Heap) (locs : List Loc) (ls : Array Slot) (st : List Value) (a : Addr) (ce : Cell), va_P D cl ws H → va_D A ws → va_S A s.heap H locs → lv_has ls nL lv → s.heap.size ≤ a → H[a]? = some ce → ce.vm.isStatics = false → s.vm.findClass E = some ce.cls →
    ∀ T : State, T.heap = H → Stand p l e R s m args below meth c T locs k n → ∃ t, Steps p.tables e below ((T.setTop (F0 m pc ls st)).pushFrame (.throwing a)) t ∧ Q t
def bG (D : va_G) (cl : List vw_C) (tys : List (ClassId × FieldType)) (Γ : bCtx) (own : String) (cc : ByteArray) (nL : Nat) (ret : Option FieldType) (nm : String) (tb : bTb) (rm : Room) : Prop := match Γ with
  | (p, l, e, R, s, m, args, below, meth, c, A, Q) => p.tables.exec = Jvm.exec ∧ c.code = cc ∧ c.maxLocals = nL ∧ s.vm.findClass own = some m.cls ∧ (∀ w ∈ bw, w.before args s = true) ∧ va_K D cl tys s ∧ (∀ q, s.heap.size ≤ q → A q) ∧ (∀ (q : Nat) (cell : Cell), A q → s.heap[q]? = some cell → cell.vm.isStatics = false) ∧ bX s ∧
    meth.locks = false ∧ meth.sig.returnType = ret ∧ meth.name = nm ∧ c.exceptionTable.toList = tableOf tb ∧ R = rm ∧ l.stackTraces = false
-- what a method gives back
abbrev bo := Option Value ⊕ String
def bo_is (r : bo) (o : Outcome) (t : State) (sz : Nat) : Prop := match r with
  | .inl v => o = .returned v
  | .inr E => ∃ (a : Addr) (ce : Cell), o = .threw a ∧ sz ≤ a ∧ t.heap[a]? = some ce ∧ ce.vm.isStatics = false ∧ t.vm.findClass E = some ce.cls
def bq (D : va_G) (cl : List vw_C) (ws0 : va_W) (sz : Nat) (post : bo → va_W → Prop) : Array Value → State → Outcome → State → Prop := fun _ st o t =>
  ∃ (r : bo) (ws1 : va_W), bo_is r o t sz ∧ post r ws1 ∧ va_P D cl ws1 t.heap ∧ va_D (va_A ws0 sz) ws1 ∧ va_F (va_A ws0 sz) st t
def bEnd (st : State) (o : Outcome) (t : State) (L : List Loc) (k n : Nat) : Prop := ((∃ v, o = .returned v) ∨ ∃ a, o = .threw a) ∧ st.WarmedH t.vm ∧ st.sameButNew ({ t with vm := st.vm } : State) L k n
def bMQ (below : List Frame) (Qc : Array Value → State → Outcome → State → Prop) (a : Array Value) (s : State) (mc ms : Nat) (free : Addr → Prop) : State → Prop := fun t =>
  ∃ o, t.status = .running ∧ Ended t below o ∧ Qc a s o t ∧ ∃ L, bEnd s o t L mc ms ∧ ∀ q ∈ L, free q.base
def bMet (l : Launch) (y : MethodName) (S : Spec) (Pc : Array Value → State → Prop) (Qc : Array Value → State → Outcome → State → Prop) (mc ms : Nat) (free : Addr → Prop) : Prop :=
  MetFree l y S Pc (fun _ _ _ _ _ => True) (fun a st o t => Qc a st o t ∧ ∃ L, bEnd st o t L mc ms ∧ ∀ q ∈ L, free q.base)
def bP (D : va_G) (cl : List vw_C) (tys : List (ClassId × FieldType)) (ws : va_W) (sz : Nat) (av : List Value) : Array Value → State → Prop := fun v U =>
  v = av.toArray ∧ U.heap.size = sz ∧ va_P D cl ws U.heap ∧ va_K D cl tys U ∧ va_D (fun _ => True) ws ∧ bX U
/-- THE CONTRACT of y: from any heap that holds the world ws, at the arguments av, within the room rm: 'post' of what comes back and of the world behind it -/
def bC (D : va_G) (cl : List vw_C) (tys : List (ClassId × FieldType)) (y : MethodName) (rm : Room) (ws : va_W) (av : List Value) (post : bo → va_W → Prop) : Prop :=
  ∀ l : Launch, l.stackTraces = false → ∀ sz : Nat, bMet l y (headSpec bw rm) (bP D cl tys ws sz av) (bq D cl ws sz post) rm.cells rm.slots (va_A ws sz)
theorem bP.blind {D : va_G} {cl : List vw_C} {tys : List (ClassId × FieldType)} {ws : va_W} {sz : Nat} {av : List Value} : FrameBlind (bP D cl tys ws sz av) := by
  intro a U g mk h
  obtain ⟨h1, h2, h3, h4, h5, h6⟩ := h
  exact ⟨h1, h2, h3, va_K.moved (u := U) (U := U.calling g mk a) (Vm.Alike.refl U.vm) h4, h5, bX.same (u := U) (U := U.calling g mk a) rfl rfl h6⟩
/-- Q and A are those of a method's contract -/
def bE (D : va_G) (cl : List vw_C) (Γ : bCtx) (ws0 : va_W) (post : bo → va_W → Prop) (rm : Room) : Prop := match Γ with
  | (_, _, _, _, s, _, args, below, _, _, A, Q) => A = va_A ws0 s.heap.size ∧ Q = bMQ below (bq D cl ws0 s.heap.size post) args s rm.cells rm.slots (va_A ws0 s.heap.size)
theorem bW_mono {p : Program} {l : Launch} {e : Env} {R : Room} {s : State} {m : MethodId} {args : Array Value} {below : List Frame} {meth : Method} {c : Code} {H : Heap} {locs : List Loc} {k n : Nat} {Q Q' : State → Prop} {g : JFrame} (h : ∀ t, Q t → Q' t) (hw : W p l e R s m args below meth c H locs k n Q g) : W p l e R s m args below meth c H locs k n Q' g := by
  intro T hT X
  obtain ⟨t, a, b⟩ := hw T hT X
  exact ⟨t, a, h t b⟩
theorem bMQ_of {below : List Frame} {Qc : Array Value → State → Outcome → State → Prop} {a : Array Value} {s : State} {mc ms : Nat} {free : Addr → Prop} {t : State} (h : MQ below Qc a s mc ms free t) : bMQ below Qc a s mc ms free t := by
  obtain ⟨o, h1, h2, h3, L, ⟨h4, h5, h6⟩, h7⟩ := h
  exact ⟨o, h1, h2, h3, L, ⟨Or.inl h4, h5, h6⟩, h7⟩
-- the code of a method, by its word
def bcode (y : MethodName) (b : ByteArray) (n : Nat) (r : Option FieldType) (tb : bTb) : Prop := (Cond.code y b n r ∈ bw ∧ tb = []) ∨ Cond.codeWith y b n r tb ∈ bw
theorem bcode.spec {y : MethodName} {b : ByteArray} {n : Nat} {r : Option FieldType} {tb : bTb} (h : bcode y b n r tb) {args : Array Value} {s : State} (hts : ∀ w ∈ bw, w.before args s = true) :
    ∃ mk meth c, s.methodNamed? y = some mk ∧ s.vm.method? mk = some meth ∧ meth.code = some c ∧ c.code = b ∧ c.maxLocals = n ∧ meth.sig.returnType = r ∧ meth.locks = false ∧ c.exceptionTable.toList = tableOf tb ∧ parseMethodDescriptor y.desc = some meth.sig := by
  rcases h with ⟨h, rfl⟩ | h
  · obtain ⟨mk, hn⟩ := Cond.code_named (hts _ h)
    obtain ⟨meth, c, h1, h2, h3, h4, h5, h6, h7, h8⟩ := Cond.code_spec hn (hts _ h)
    refine ⟨mk, meth, c, hn, h1, h2, h3, h4, h5, h6, ?_, h8⟩
    have h9 : c.exceptionTable = #[] := by simpa using h7
    rw [h9]; rfl
  · obtain ⟨mk, meth, c, hn, h1, h2, h3, h4, h7, h5, h6, h8⟩ := Cond.codeWith_spec (hts _ h)
    exact ⟨mk, meth, c, hn, h1, h2, h3, h4, h5, h6, by rw [← h7, table_eq], h8⟩
/-- a contract out of a walk of the body -/
theorem bC.of {D : va_G} {cl : List vw_C} {tys : List (ClassId × FieldType)} {y : MethodName} {b : ByteArray} {nL : Nat} {ret : Option FieldType} {tb : bTb} {rm : Room} {ws : va_W} {av : List Value} {post : bo → va_W → Prop}
    (hy : plainName y.cls = true) (hc : bcode y b nL ret tb) (hav : (lg_sl av).length ≤ nL)
    (body : ∀ Γ : bCtx, bG D cl tys Γ y.cls b nL ret y.name tb rm → bE D cl Γ ws post rm → bV D cl Γ nL ws 0 0 0 (lv_args 0 av) []) : bC D cl tys y rm ws av post := by
  intro l hl sz
  refine MetFree.of_bodyS (code := b) (maxLocals := nL) (ret := ret) hy ?_ ?_
  · intro args s m h hn
    obtain ⟨mk, meth, c, h0, h1, h2, h3, h4, h5, h6, -, -⟩ := hc.spec (atoms_spec (ws := bw) h)
    cases hn.symm.trans h0
    exact ⟨meth, c, h1, h2, h3, h4, h5, h6⟩
  · intro p e s m args below meth c s₁ B hml hP _
    obtain ⟨rfl, hsz, hPw, hK, hD0, hX⟩ := hP
    subst hsz
    have hts := atoms_spec (ws := bw) B.pre
    have hh0 : s₁.heap = s.heap := by rw [B.state]; rfl
    obtain ⟨mk, meth', c', q0, q1, q2, -, -, -, -, q7, -⟩ := hc.spec hts
    cases B.named.symm.trans q0
    cases B.method.symm.trans q1
    cases (Stand.of_body B).code.symm.trans q2
    have hst : ∀ (q : Nat) (cell : Cell), va_A ws s.heap.size q → s.heap[q]? = some cell → cell.vm.isStatics = false := by
      intro q cell hq hcell
      rcases hq with ⟨k, e, hk⟩ | hq
      · have h1 := hPw k _ hk
        cases e with
        | inl x =>
          have h2 : s.heap[q]? = some (vp_cell x.1 x.2) := h1
          cases hcell.symm.trans h2
          obtain ⟨cA, nn, f | f | f | f | f⟩ := x <;> rfl
        | inr o =>
          obtain ⟨r, -, cell', h2, -, h3, -⟩ := h1
          cases hcell.symm.trans h2
          rw [h3]; rfl
      · have := (Array.getElem?_eq_some_iff.mp hcell).1
        omega
    have hl2 := lv_entry av (n := nL) hav
    have K := body (p, l, e, rm, s, m, av.toArray, below, meth, c, va_A ws s.heap.size, bMQ below (bq D cl ws s.heap.size post) av.toArray s rm.cells rm.slots (va_A ws s.heap.size))
      ⟨B.exec, B.bytes, hml, findClass_of_methodNamed B.named, hts, hK, fun q h => Or.inr h, hst, hX, B.notSynchronized, B.returns, (name_of_methodNamed B.named B.method).1, q7, rfl, hl⟩ ⟨rfl, rfl⟩
    have K2 : W p l e rm s m av.toArray below meth c s.heap [] 0 0 (bMQ below (bq D cl ws s.heap.size post) av.toArray s rm.cells rm.slots (va_A ws s.heap.size)) (entryFrame m av.toArray nL) := by
      rw [lg_entry_eq]
      exact K s.heap [] _ hPw hD0.self va_S.rf hl2
    obtain ⟨t, a1, o, b1, b2, b3⟩ := K2 s₁ hh0 (Stand.of_body B)
    exact ⟨t, o, a1, b1, b2, b3⟩
end
section
section BVR
variable {D : va_G} {cl : List vw_C} {tys : List (ClassId × FieldType)} {Γ : bCtx} {own : String} {cc : ByteArray} {nL : Nat} {ret : Option FieldType} {nm : String} {tb : bTb} {rm : Room} {ws : va_W} {k n pc : Nat} {lv : List (Nat × Value)} {rest : List Value}
theorem bV.iconst (G : bG D cl tys Γ own cc nL ret nm tb rm) {i : Int} {v : Int32} (hd : decode cc pc = .ok (.iconst i, 1)) (hv : Int32.ofInt i = v) (kk : bV D cl Γ nL ws k n (pc + 1) lv (.int v :: rest)) : bV D cl Γ nL ws k n (pc) lv (rest) := by
  obtain ⟨p, l, e, R, s, m, args, below, meth, c, A, Q⟩ := Γ
  obtain ⟨hx, hb, hml, hown, hts, -⟩ := G
  intro H locs ls hP hD hS hl
  exact lv_iconst hx hb hd hv (kk H locs ls hP hD hS hl)
theorem bV.bipush (G : bG D cl tys Γ own cc nL ret nm tb rm) {i : Int} {v : Int32} (hd : decode cc pc = .ok (.bipush i, 2)) (hv : (Int8.ofInt i).toInt32 = v) (kk : bV D cl Γ nL ws k n (pc + 2) lv (.int v :: rest)) : bV D cl Γ nL ws k n (pc) lv (rest) := by
  obtain ⟨p, l, e, R, s, m, args, below, meth, c, A, Q⟩ := Γ
  obtain ⟨hx, hb, hml, hown, hts, -⟩ := G
  intro H locs ls hP hD hS hl
  exact lv_bipush hx hb hd hv (kk H locs ls hP hD hS hl)
theorem bV.sipush (G : bG D cl tys Γ own cc nL ret nm tb rm) {i : Int} {v : Int32} (hd : decode cc pc = .ok (.sipush i, 3)) (hv : (Int16.ofInt i).toInt32 = v) (kk : bV D cl Γ nL ws k n (pc + 3) lv (.int v :: rest)) : bV D cl Γ nL ws k n (pc) lv (rest) := by
  obtain ⟨p, l, e, R, s, m, args, below, meth, c, A, Q⟩ := Γ
  obtain ⟨hx, hb, hml, hown, hts, -⟩ := G
  intro H locs ls hP hD hS hl
  exact lv_sipush hx hb hd hv (kk H locs ls hP hD hS hl)
theorem bV.lconst (G : bG D cl tys Γ own cc nL ret nm tb rm) {i : Fin 2} {v : Int64} (hd : decode cc pc = .ok (.lconst i, 1)) (hv : Int64.ofNat (i : Nat) = v) (kk : bV D cl Γ nL ws k n (pc + 1) lv (.long v :: rest)) : bV D cl Γ nL ws k n (pc) lv (rest) := by
  obtain ⟨p, l, e, R, s, m, args, below, meth, c, A, Q⟩ := Γ
  obtain ⟨hx, hb, hml, hown, hts, -⟩ := G
  intro H locs ls hP hD hS hl
  exact lv_lconst hx hb hd hv (kk H locs ls hP hD hS hl)
theorem bV.ldc (G : bG D cl tys Γ own cc nL ret nm tb rm) {i : Nat} {v : Int32} (hd : decode cc pc = .ok (.ldc i, 2)) (hw : Jvm.Cond.constant own i v ∈ bw) (kk : bV D cl Γ nL ws k n (pc + 2) lv (.int v :: rest)) : bV D cl Γ nL ws k n (pc) lv (rest) := by
  obtain ⟨p, l, e, R, s, m, args, below, meth, c, A, Q⟩ := Γ
  obtain ⟨hx, hb, hml, hown, hts, -⟩ := G
  intro H locs ls hP hD hS hl
  exact lv_ldc hx hb hown (hts _ hw) hd (kk H locs ls hP hD hS hl)
theorem bV.iload_n (G : bG D cl tys Γ own cc nL ret nm tb rm) {i : Fin 4} {x : Int32} (hd : decode cc pc = .ok (.iload_n i, 1)) (hg : bl_get lv (i : Nat) = some (.int x)) (kk : bV D cl Γ nL ws k n (pc + 1) lv (.int x :: rest)) : bV D cl Γ nL ws k n (pc) lv (rest) := by
  obtain ⟨p, l, e, R, s, m, args, below, meth, c, A, Q⟩ := Γ
  obtain ⟨hx, hb, hml, hown, hts, -⟩ := G
  intro H locs ls hP hD hS hl
  exact lv_iload_n hx hb hd rfl (bl_at hl hg) (kk H locs ls hP hD hS hl)
theorem bV.iload (G : bG D cl tys Γ own cc nL ret nm tb rm) {i : Nat} {x : Int32} (hd : decode cc pc = .ok (.iload i, 2)) (hg : bl_get lv i = some (.int x)) (kk : bV D cl Γ nL ws k n (pc + 2) lv (.int x :: rest)) : bV D cl Γ nL ws k n (pc) lv (rest) := by
  obtain ⟨p, l, e, R, s, m, args, below, meth, c, A, Q⟩ := Γ
  obtain ⟨hx, hb, hml, hown, hts, -⟩ := G
  intro H locs ls hP hD hS hl
  exact lv_iload hx hb hd (bl_at hl hg) (kk H locs ls hP hD hS hl)
theorem bV.istore_n (G : bG D cl tys Γ own cc nL ret nm tb rm) {i : Fin 4} {x : Int32} {lv' : List (Nat × Value)} (hd : decode cc pc = .ok (.istore_n i, 1)) (hn : (i : Nat) < nL) (hc : lv.all (fun q => q.2.category == 1) = true) (he : bl_set lv (i : Nat) (.int x) = lv') (kk : bV D cl Γ nL ws k n (pc + 1) lv' (rest)) : bV D cl Γ nL ws k n (pc) lv (.int x :: rest) := by
  obtain ⟨p, l, e, R, s, m, args, below, meth, c, A, Q⟩ := Γ
  obtain ⟨hx, hb, hml, hown, hts, -⟩ := G
  intro H locs ls hP hD hS hl
  exact lv_istore_n hx hb hd rfl hl hn rfl (fun ls' hl' => kk H locs ls' hP hD hS (bl_put hl' hc he))
theorem bV.istore (G : bG D cl tys Γ own cc nL ret nm tb rm) {i : Nat} {x : Int32} {lv' : List (Nat × Value)} (hd : decode cc pc = .ok (.istore i, 2)) (hn : i < nL) (hc : lv.all (fun q => q.2.category == 1) = true) (he : bl_set lv i (.int x) = lv') (kk : bV D cl Γ nL ws k n (pc + 2) lv' (rest)) : bV D cl Γ nL ws k n (pc) lv (.int x :: rest) := by
  obtain ⟨p, l, e, R, s, m, args, below, meth, c, A, Q⟩ := Γ
  obtain ⟨hx, hb, hml, hown, hts, -⟩ := G
  intro H locs ls hP hD hS hl
  exact lv_istore hx hb hd hl hn rfl (fun ls' hl' => kk H locs ls' hP hD hS (bl_put hl' hc he))
theorem bV.aload_n (G : bG D cl tys Γ own cc nL ret nm tb rm) {i : Fin 4} {x : Nat} (hd : decode cc pc = .ok (.aload_n i, 1)) (hg : bl_get lv (i : Nat) = some (.ref x)) (kk : bV D cl Γ nL ws k n (pc + 1) lv (.ref x :: rest)) : bV D cl Γ nL ws k n (pc) lv (rest) := by
  obtain ⟨p, l, e, R, s, m, args, below, meth, c, A, Q⟩ := Γ
  obtain ⟨hx, hb, hml, hown, hts, -⟩ := G
  intro H locs ls hP hD hS hl
  exact lv_aload_n hx hb hd rfl (bl_at hl hg) (kk H locs ls hP hD hS hl)
theorem bV.aload (G : bG D cl tys Γ own cc nL ret nm tb rm) {i : Nat} {x : Nat} (hd : decode cc pc = .ok (.aload i, 2)) (hg : bl_get lv i = some (.ref x)) (kk : bV D cl Γ nL ws k n (pc + 2) lv (.ref x :: rest)) : bV D cl Γ nL ws k n (pc) lv (rest) := by
  obtain ⟨p, l, e, R, s, m, args, below, meth, c, A, Q⟩ := Γ
  obtain ⟨hx, hb, hml, hown, hts, -⟩ := G
  intro H locs ls hP hD hS hl
  exact lv_aload hx hb hd (bl_at hl hg) (kk H locs ls hP hD hS hl)
theorem bV.astore_n (G : bG D cl tys Γ own cc nL ret nm tb rm) {i : Fin 4} {x : Nat} {lv' : List (Nat × Value)} (hd : decode cc pc = .ok (.astore_n i, 1)) (hn : (i : Nat) < nL) (hc : lv.all (fun q => q.2.category == 1) = true) (he : bl_set lv (i : Nat) (.ref x) = lv') (kk : bV D cl Γ nL ws k n (pc + 1) lv' (rest)) : bV D cl Γ nL ws k n (pc) lv (.ref x :: rest) := by
  obtain ⟨p, l, e, R, s, m, args, below, meth, c, A, Q⟩ := Γ
  obtain ⟨hx, hb, hml, hown, hts, -⟩ := G
  intro H locs ls hP hD hS hl
  exact lv_astore_n hx hb hd rfl hl hn rfl (fun ls' hl' => kk H locs ls' hP hD hS (bl_put hl' hc he))
theorem bV.astore (G : bG D cl tys Γ own cc nL ret nm tb rm) {i : Nat} {x : Nat} {lv' : List (Nat × Value)} (hd : decode cc pc = .ok (.astore i, 2)) (hn : i < nL) (hc : lv.all (fun q => q.2.category == 1) = true) (he : bl_set lv i (.ref x) = lv') (kk : bV D cl Γ nL ws k n (pc + 2) lv' (rest)) : bV D cl Γ nL ws k n (pc) lv (.ref x :: rest) := by
  obtain ⟨p, l, e, R, s, m, args, below, meth, c, A, Q⟩ := Γ
  obtain ⟨hx, hb, hml, hown, hts, -⟩ := G
  intro H locs ls hP hD hS hl
  exact lv_astore hx hb hd hl hn rfl (fun ls' hl' => kk H locs ls' hP hD hS (bl_put hl' hc he))
theorem bl_idx {lv : List (Nat × Value)} {i : Nat} {v : Value} (h : bl_get lv i = some v) : ∃ j : Nat, lv[j]? = some (i, v) := List.getElem?_of_mem (bl_mem lv i v h)
theorem bV.iinc (G : bG D cl tys Γ own cc nL ret nm tb rm) {i : Nat} {d : Int} {x v : Int32} {lv' : List (Nat × Value)} (hd : decode cc pc = .ok (.iinc i d, 3)) (hg : bl_get lv i = some (.int x)) (hv : x + Int32.ofInt d = v) (hn : i < nL) (hc : lv.all (fun q => q.2.category == 1) = true) (he : bl_set lv i (.int v) = lv') (kk : bV D cl Γ nL ws k n (pc + 3) lv' (rest)) : bV D cl Γ nL ws k n (pc) lv (rest) := by
  obtain ⟨p, l, e, R, s, m, args, below, meth, c, A, Q⟩ := Γ
  obtain ⟨hx, hb, hml, hown, hts, -⟩ := G
  intro H locs ls hP hD hS hl
  obtain ⟨j, hj⟩ := bl_idx hg
  exact lv_iinc hx hb hd hl hj hv hn rfl (fun ls' hl' => kk H locs ls' hP hD hS (bl_put hl' hc he))
theorem bV.iadd (G : bG D cl tys Γ own cc nL ret nm tb rm) {x y : Int32} (hd : decode cc pc = .ok (.iadd, 1)) (kk : bV D cl Γ nL ws k n (pc + 1) lv (.int (x + y) :: rest)) : bV D cl Γ nL ws k n (pc) lv (.int y :: .int x :: rest) := by
  obtain ⟨p, l, e, R, s, m, args, below, meth, c, A, Q⟩ := Γ
  obtain ⟨hx, hb, hml, hown, hts, -⟩ := G
  intro H locs ls hP hD hS hl
  exact lv_iadd hx hb hd (kk H locs ls hP hD hS hl)
theorem bV.isub (G : bG D cl tys Γ own cc nL ret nm tb rm) {x y : Int32} (hd : decode cc pc = .ok (.isub, 1)) (kk : bV D cl Γ nL ws k n (pc + 1) lv (.int (x - y) :: rest)) : bV D cl Γ nL ws k n (pc) lv (.int y :: .int x :: rest) := by
  obtain ⟨p, l, e, R, s, m, args, below, meth, c, A, Q⟩ := Γ
  obtain ⟨hx, hb, hml, hown, hts, -⟩ := G
  intro H locs ls hP hD hS hl
  exact lv_isub hx hb hd (kk H locs ls hP hD hS hl)
theorem bV.imul (G : bG D cl tys Γ own cc nL ret nm tb rm) {x y : Int32} (hd : decode cc pc = .ok (.imul, 1)) (kk : bV D cl Γ nL ws k n (pc + 1) lv (.int (x * y) :: rest)) : bV D cl Γ nL ws k n (pc) lv (.int y :: .int x :: rest) := by
  obtain ⟨p, l, e, R, s, m, args, below, meth, c, A, Q⟩ := Γ
  obtain ⟨hx, hb, hml, hown, hts, -⟩ := G
  intro H locs ls hP hD hS hl
  exact lv_imul hx hb hd (kk H locs ls hP hD hS hl)
theorem bV.iand (G : bG D cl tys Γ own cc nL ret nm tb rm) {x y : Int32} (hd : decode cc pc = .ok (.iand, 1)) (kk : bV D cl Γ nL ws k n (pc + 1) lv (.int (x &&& y) :: rest)) : bV D cl Γ nL ws k n (pc) lv (.int y :: .int x :: rest) := by
  obtain ⟨p, l, e, R, s, m, args, below, meth, c, A, Q⟩ := Γ
  obtain ⟨hx, hb, hml, hown, hts, -⟩ := G
  intro H locs ls hP hD hS hl
  exact lv_iand hx hb hd (kk H locs ls hP hD hS hl)
theorem bV.ior (G : bG D cl tys Γ own cc nL ret nm tb rm) {x y : Int32} (hd : decode cc pc = .ok (.ior, 1)) (kk : bV D cl Γ nL ws k n (pc + 1) lv (.int (x ||| y) :: rest)) : bV D cl Γ nL ws k n (pc) lv (.int y :: .int x :: rest) := by
  obtain ⟨p, l, e, R, s, m, args, below, meth, c, A, Q⟩ := Γ
  obtain ⟨hx, hb, hml, hown, hts, -⟩ := G
  intro H locs ls hP hD hS hl
  exact lv_ior hx hb hd (kk H locs ls hP hD hS hl)
theorem bV.ixor (G : bG D cl tys Γ own cc nL ret nm tb rm) {x y : Int32} (hd : decode cc pc = .ok (.ixor, 1)) (kk : bV D cl Γ nL ws k n (pc + 1) lv (.int (x ^^^ y) :: rest)) : bV D cl Γ nL ws k n (pc) lv (.int y :: .int x :: rest) := by
  obtain ⟨p, l, e, R, s, m, args, below, meth, c, A, Q⟩ := Γ
  obtain ⟨hx, hb, hml, hown, hts, -⟩ := G
  intro H locs ls hP hD hS hl
  exact lv_ixor hx hb hd (kk H locs ls hP hD hS hl)
theorem bV.ishl (G : bG D cl tys Γ own cc nL ret nm tb rm) {x y : Int32} (hd : decode cc pc = .ok (.ishl, 1)) (kk : bV D cl Γ nL ws k n (pc + 1) lv (.int (x <<< (y &&& 31)) :: rest)) : bV D cl Γ nL ws k n (pc) lv (.int y :: .int x :: rest) := by
  obtain ⟨p, l, e, R, s, m, args, below, meth, c, A, Q⟩ := Γ
  obtain ⟨hx, hb, hml, hown, hts, -⟩ := G
  intro H locs ls hP hD hS hl
  exact lv_ishl hx hb hd (kk H locs ls hP hD hS hl)
theorem bV.ishr (G : bG D cl tys Γ own cc nL ret nm tb rm) {x y : Int32} (hd : decode cc pc = .ok (.ishr, 1)) (kk : bV D cl Γ nL ws k n (pc + 1) lv (.int (x >>> (y &&& 31)) :: rest)) : bV D cl Γ nL ws k n (pc) lv (.int y :: .int x :: rest) := by
  obtain ⟨p, l, e, R, s, m, args, below, meth, c, A, Q⟩ := Γ
  obtain ⟨hx, hb, hml, hown, hts, -⟩ := G
  intro H locs ls hP hD hS hl
  exact lv_ishr hx hb hd (kk H locs ls hP hD hS hl)
theorem bV.iushr (G : bG D cl tys Γ own cc nL ret nm tb rm) {x y : Int32} (hd : decode cc pc = .ok (.iushr, 1)) (kk : bV D cl Γ nL ws k n (pc + 1) lv (.int (x.toUInt32 >>> (y.toUInt32 &&& Int32.toUInt32 31)).toInt32 :: rest)) : bV D cl Γ nL ws k n (pc) lv (.int y :: .int x :: rest) := by
  obtain ⟨p, l, e, R, s, m, args, below, meth, c, A, Q⟩ := Γ
  obtain ⟨hx, hb, hml, hown, hts, -⟩ := G
  intro H locs ls hP hD hS hl
  exact lv_iushr hx hb hd rfl (kk H locs ls hP hD hS hl)
theorem bV.ineg (G : bG D cl tys Γ own cc nL ret nm tb rm) {x : Int32} (hd : decode cc pc = .ok (.ineg, 1)) (kk : bV D cl Γ nL ws k n (pc + 1) lv (.int (-x) :: rest)) : bV D cl Γ nL ws k n (pc) lv (.int x :: rest) := by
  obtain ⟨p, l, e, R, s, m, args, below, meth, c, A, Q⟩ := Γ
  obtain ⟨hx, hb, hml, hown, hts, -⟩ := G
  intro H locs ls hP hD hS hl
  exact lv_ineg hx hb hd (kk H locs ls hP hD hS hl)
theorem bV.i2l (G : bG D cl tys Γ own cc nL ret nm tb rm) {x : Int32} (hd : decode cc pc = .ok (.i2l, 1)) (kk : bV D cl Γ nL ws k n (pc + 1) lv (.long x.toInt64 :: rest)) : bV D cl Γ nL ws k n (pc) lv (.int x :: rest) := by
  obtain ⟨p, l, e, R, s, m, args, below, meth, c, A, Q⟩ := Γ
  obtain ⟨hx, hb, hml, hown, hts, -⟩ := G
  intro H locs ls hP hD hS hl
  exact lv_i2l hx hb hd rfl (kk H locs ls hP hD hS hl)
theorem bV.lcmp (G : bG D cl tys Γ own cc nL ret nm tb rm) {x y : Int64} (hd : decode cc pc = .ok (.lcmp, 1)) (kk : bV D cl Γ nL ws k n (pc + 1) lv (.int (lg_cmp x y) :: rest)) : bV D cl Γ nL ws k n (pc) lv (.long y :: .long x :: rest) := by
  obtain ⟨p, l, e, R, s, m, args, below, meth, c, A, Q⟩ := Γ
  obtain ⟨hx, hb, hml, hown, hts, -⟩ := G
  intro H locs ls hP hD hS hl
  exact W.lcmp hx hb hd (kk H locs ls hP hD hS hl)
theorem bV.dup (G : bG D cl tys Γ own cc nL ret nm tb rm) {va : Value} (hd : decode cc pc = .ok (.dup, 1)) (hva : va.category = 1) (kk : bV D cl Γ nL ws k n (pc + 1) lv (va :: va :: rest)) : bV D cl Γ nL ws k n (pc) lv (va :: rest) := by
  obtain ⟨p, l, e, R, s, m, args, below, meth, c, A, Q⟩ := Γ
  obtain ⟨hx, hb, hml, hown, hts, -⟩ := G
  intro H locs ls hP hD hS hl
  exact lv_dup hx hb hd hva (kk H locs ls hP hD hS hl)
theorem bV.pop (G : bG D cl tys Γ own cc nL ret nm tb rm) {va : Value} (hd : decode cc pc = .ok (.pop, 1)) (hva : va.category = 1) (kk : bV D cl Γ nL ws k n (pc + 1) lv (rest)) : bV D cl Γ nL ws k n (pc) lv (va :: rest) := by
  obtain ⟨p, l, e, R, s, m, args, below, meth, c, A, Q⟩ := Γ
  obtain ⟨hx, hb, hml, hown, hts, -⟩ := G
  intro H locs ls hP hD hS hl
  exact lv_pop hx hb hd hva (kk H locs ls hP hD hS hl)
theorem bV.dup_x1 (G : bG D cl tys Γ own cc nL ret nm tb rm) {va vb : Value} (hd : decode cc pc = .ok (.dup_x1, 1)) (hva : va.category = 1) (hvb : vb.category = 1) (kk : bV D cl Γ nL ws k n (pc + 1) lv (va :: vb :: va :: rest)) : bV D cl Γ nL ws k n (pc) lv (va :: vb :: rest) := by
  obtain ⟨p, l, e, R, s, m, args, below, meth, c, A, Q⟩ := Γ
  obtain ⟨hx, hb, hml, hown, hts, -⟩ := G
  intro H locs ls hP hD hS hl
  exact lv_dup_x1 hx hb hd hva hvb (kk H locs ls hP hD hS hl)
theorem bV.dup_x2 (G : bG D cl tys Γ own cc nL ret nm tb rm) {va vb vd : Value} (hd : decode cc pc = .ok (.dup_x2, 1)) (hva : va.category = 1) (hvb : vb.category = 1) (hvd : vd.category = 1) (kk : bV D cl Γ nL ws k n (pc + 1) lv (va :: vb :: vd :: va :: rest)) : bV D cl Γ nL ws k n (pc) lv (va :: vb :: vd :: rest) := by
  obtain ⟨p, l, e, R, s, m, args, below, meth, c, A, Q⟩ := Γ
  obtain ⟨hx, hb, hml, hown, hts, -⟩ := G
  intro H locs ls hP hD hS hl
  exact lv_dup_x2 hx hb hd hva hvb hvd (kk H locs ls hP hD hS hl)
theorem bV.dup2 (G : bG D cl tys Γ own cc nL ret nm tb rm) {va vb : Value} (hd : decode cc pc = .ok (.dup2, 1)) (hva : va.category = 1) (hvb : vb.category = 1) (kk : bV D cl Γ nL ws k n (pc + 1) lv (va :: vb :: va :: vb :: rest)) : bV D cl Γ nL ws k n (pc) lv (va :: vb :: rest) := by
  obtain ⟨p, l, e, R, s, m, args, below, meth, c, A, Q⟩ := Γ
  obtain ⟨hx, hb, hml, hown, hts, -⟩ := G
  intro H locs ls hP hD hS hl
  exact lv_dup2_11 hx hb hd hva hvb (kk H locs ls hP hD hS hl)
theorem bV.goto (G : bG D cl tys Γ own cc nL ret nm tb rm) {off : Int} {tgt : Nat} (hd : decode cc pc = .ok (.goto off, 3)) (ht : (pc : Int) + off = (tgt : Int)) (kk : bV D cl Γ nL ws k n (tgt) lv (rest)) : bV D cl Γ nL ws k n (pc) lv (rest) := by
  obtain ⟨p, l, e, R, s, m, args, below, meth, c, A, Q⟩ := Γ
  obtain ⟨hx, hb, hml, hown, hts, -⟩ := G
  intro H locs ls hP hD hS hl
  exact lv_goto hx hb hd ht (kk H locs ls hP hD hS hl)
theorem bV.if_eq (G : bG D cl tys Γ own cc nL ret nm tb rm) {x : Int32} {off : Int} {tgt : Nat} (hd : decode cc pc = .ok (.ifCond .eq off, 3)) (ht : (pc : Int) + off = (tgt : Int)) (kt : x = 0 → bV D cl Γ nL ws k n (tgt) lv (rest)) (kf : ¬ x = 0 → bV D cl Γ nL ws k n (pc + 3) lv (rest)) : bV D cl Γ nL ws k n (pc) lv (.int x :: rest) := by
  obtain ⟨p, l, e, R, s, m, args, below, meth, c, A, Q⟩ := Γ
  obtain ⟨hx, hb, hml, hown, hts, -⟩ := G
  intro H locs ls hP hD hS hl
  exact lv_if_eq hx hb hd ht (fun h => kt h H locs ls hP hD hS hl) (fun h => kf h H locs ls hP hD hS hl)
theorem bV.if_ne (G : bG D cl tys Γ own cc nL ret nm tb rm) {x : Int32} {off : Int} {tgt : Nat} (hd : decode cc pc = .ok (.ifCond .ne off, 3)) (ht : (pc : Int) + off = (tgt : Int)) (kt : ¬ x = 0 → bV D cl Γ nL ws k n (tgt) lv (rest)) (kf : x = 0 → bV D cl Γ nL ws k n (pc + 3) lv (rest)) : bV D cl Γ nL ws k n (pc) lv (.int x :: rest) := by
  obtain ⟨p, l, e, R, s, m, args, below, meth, c, A, Q⟩ := Γ
  obtain ⟨hx, hb, hml, hown, hts, -⟩ := G
  intro H locs ls hP hD hS hl
  exact lv_if_ne hx hb hd ht (fun h => kt h H locs ls hP hD hS hl) (fun h => kf h H locs ls hP hD hS hl)
theorem bV.if_lt (G : bG D cl tys Γ own cc nL ret nm tb rm) {x : Int32} {off : Int} {tgt : Nat} (hd : decode cc pc = .ok (.ifCond .lt off, 3)) (ht : (pc : Int) + off = (tgt : Int)) (kt : x < 0 → bV D cl Γ nL ws k n (tgt) lv (rest)) (kf : ¬ x < 0 → bV D cl Γ nL ws k n (pc + 3) lv (rest)) : bV D cl Γ nL ws k n (pc) lv (.int x :: rest) := by
  obtain ⟨p, l, e, R, s, m, args, below, meth, c, A, Q⟩ := Γ
  obtain ⟨hx, hb, hml, hown, hts, -⟩ := G
  intro H locs ls hP hD hS hl
  exact lv_if_lt hx hb hd ht (fun h => kt h H locs ls hP hD hS hl) (fun h => kf h H locs ls hP hD hS hl)
theorem bV.if_ge (G : bG D cl tys Γ own cc nL ret nm tb rm) {x : Int32} {off : Int} {tgt : Nat} (hd : decode cc pc = .ok (.ifCond .ge off, 3)) (ht : (pc : Int) + off = (tgt : Int)) (kt : 0 ≤ x → bV D cl Γ nL ws k n (tgt) lv (rest)) (kf : ¬ 0 ≤ x → bV D cl Γ nL ws k n (pc + 3) lv (rest)) : bV D cl Γ nL ws k n (pc) lv (.int x :: rest) := by
  obtain ⟨p, l, e, R, s, m, args, below, meth, c, A, Q⟩ := Γ
  obtain ⟨hx, hb, hml, hown, hts, -⟩ := G
  intro H locs ls hP hD hS hl
  exact lv_if_ge hx hb hd ht (fun h => kt h H locs ls hP hD hS hl) (fun h => kf h H locs ls hP hD hS hl)
theorem bV.if_gt (G : bG D cl tys Γ own cc nL ret nm tb rm) {x : Int32} {off : Int} {tgt : Nat} (hd : decode cc pc = .ok (.ifCond .gt off, 3)) (ht : (pc : Int) + off = (tgt : Int)) (kt : 0 < x → bV D cl Γ nL ws k n (tgt) lv (rest)) (kf : ¬ 0 < x → bV D cl Γ nL ws k n (pc + 3) lv (rest)) : bV D cl Γ nL ws k n (pc) lv (.int x :: rest) := by
  obtain ⟨p, l, e, R, s, m, args, below, meth, c, A, Q⟩ := Γ
  obtain ⟨hx, hb, hml, hown, hts, -⟩ := G
  intro H locs ls hP hD hS hl
  exact lv_if_gt hx hb hd ht (fun h => kt h H locs ls hP hD hS hl) (fun h => kf h H locs ls hP hD hS hl)
theorem bV.if_le (G : bG D cl tys Γ own cc nL ret nm tb rm) {x : Int32} {off : Int} {tgt : Nat} (hd : decode cc pc = .ok (.ifCond .le off, 3)) (ht : (pc : Int) + off = (tgt : Int)) (kt : x ≤ 0 → bV D cl Γ nL ws k n (tgt) lv (rest)) (kf : ¬ x ≤ 0 → bV D cl Γ nL ws k n (pc + 3) lv (rest)) : bV D cl Γ nL ws k n (pc) lv (.int x :: rest) := by
  obtain ⟨p, l, e, R, s, m, args, below, meth, c, A, Q⟩ := Γ
  obtain ⟨hx, hb, hml, hown, hts, -⟩ := G
  intro H locs ls hP hD hS hl
  exact lv_if_le hx hb hd ht (fun h => kt h H locs ls hP hD hS hl) (fun h => kf h H locs ls hP hD hS hl)
theorem bV.icmp_eq (G : bG D cl tys Γ own cc nL ret nm tb rm) {x y : Int32} {off : Int} {tgt : Nat} (hd : decode cc pc = .ok (.if_icmp .eq off, 3)) (ht : (pc : Int) + off = (tgt : Int)) (kt : x = y → bV D cl Γ nL ws k n (tgt) lv (rest)) (kf : ¬ x = y → bV D cl Γ nL ws k n (pc + 3) lv (rest)) : bV D cl Γ nL ws k n (pc) lv (.int y :: .int x :: rest) := by
  obtain ⟨p, l, e, R, s, m, args, below, meth, c, A, Q⟩ := Γ
  obtain ⟨hx, hb, hml, hown, hts, -⟩ := G
  intro H locs ls hP hD hS hl
  exact lv_icmp_eq hx hb hd ht (fun h => kt h H locs ls hP hD hS hl) (fun h => kf h H locs ls hP hD hS hl)
theorem bV.icmp_ne (G : bG D cl tys Γ own cc nL ret nm tb rm) {x y : Int32} {off : Int} {tgt : Nat} (hd : decode cc pc = .ok (.if_icmp .ne off, 3)) (ht : (pc : Int) + off = (tgt : Int)) (kt : ¬ x = y → bV D cl Γ nL ws k n (tgt) lv (rest)) (kf : x = y → bV D cl Γ nL ws k n (pc + 3) lv (rest)) : bV D cl Γ nL ws k n (pc) lv (.int y :: .int x :: rest) := by
  obtain ⟨p, l, e, R, s, m, args, below, meth, c, A, Q⟩ := Γ
  obtain ⟨hx, hb, hml, hown, hts, -⟩ := G
  intro H locs ls hP hD hS hl
  exact lv_icmp_ne hx hb hd ht (fun h => kt h H locs ls hP hD hS hl) (fun h => kf h H locs ls hP hD hS hl)
theorem bV.icmp_lt (G : bG D cl tys Γ own cc nL ret nm tb rm) {x y : Int32} {off : Int} {tgt : Nat} (hd : decode cc pc = .ok (.if_icmp .lt off, 3)) (ht : (pc : Int) + off = (tgt : Int)) (kt : x < y → bV D cl Γ nL ws k n (tgt) lv (rest)) (kf : ¬ x < y → bV D cl Γ nL ws k n (pc + 3) lv (rest)) : bV D cl Γ nL ws k n (pc) lv (.int y :: .int x :: rest) := by
  obtain ⟨p, l, e, R, s, m, args, below, meth, c, A, Q⟩ := Γ
  obtain ⟨hx, hb, hml, hown, hts, -⟩ := G
  intro H locs ls hP hD hS hl
  exact lv_icmp_lt hx hb hd ht (fun h => kt h H locs ls hP hD hS hl) (fun h => kf h H locs ls hP hD hS hl)
theorem bV.icmp_ge (G : bG D cl tys Γ own cc nL ret nm tb rm) {x y : Int32} {off : Int} {tgt : Nat} (hd : decode cc pc = .ok (.if_icmp .ge off, 3)) (ht : (pc : Int) + off = (tgt : Int)) (kt : y ≤ x → bV D cl Γ nL ws k n (tgt) lv (rest)) (kf : ¬ y ≤ x → bV D cl Γ nL ws k n (pc + 3) lv (rest)) : bV D cl Γ nL ws k n (pc) lv (.int y :: .int x :: rest) := by
  obtain ⟨p, l, e, R, s, m, args, below, meth, c, A, Q⟩ := Γ
  obtain ⟨hx, hb, hml, hown, hts, -⟩ := G
  intro H locs ls hP hD hS hl
  exact lv_icmp_ge hx hb hd ht (fun h => kt h H locs ls hP hD hS hl) (fun h => kf h H locs ls hP hD hS hl)
theorem bV.icmp_gt (G : bG D cl tys Γ own cc nL ret nm tb rm) {x y : Int32} {off : Int} {tgt : Nat} (hd : decode cc pc = .ok (.if_icmp .gt off, 3)) (ht : (pc : Int) + off = (tgt : Int)) (kt : y < x → bV D cl Γ nL ws k n (tgt) lv (rest)) (kf : ¬ y < x → bV D cl Γ nL ws k n (pc + 3) lv (rest)) : bV D cl Γ nL ws k n (pc) lv (.int y :: .int x :: rest) := by
  obtain ⟨p, l, e, R, s, m, args, below, meth, c, A, Q⟩ := Γ
  obtain ⟨hx, hb, hml, hown, hts, -⟩ := G
  intro H locs ls hP hD hS hl
  exact lv_icmp_gt hx hb hd ht (fun h => kt h H locs ls hP hD hS hl) (fun h => kf h H locs ls hP hD hS hl)
theorem bV.icmp_le (G : bG D cl tys Γ own cc nL ret nm tb rm) {x y : Int32} {off : Int} {tgt : Nat} (hd : decode cc pc = .ok (.if_icmp .le off, 3)) (ht : (pc : Int) + off = (tgt : Int)) (kt : x ≤ y → bV D cl Γ nL ws k n (tgt) lv (rest)) (kf : ¬ x ≤ y → bV D cl Γ nL ws k n (pc + 3) lv (rest)) : bV D cl Γ nL ws k n (pc) lv (.int y :: .int x :: rest) := by
  obtain ⟨p, l, e, R, s, m, args, below, meth, c, A, Q⟩ := Γ
  obtain ⟨hx, hb, hml, hown, hts, -⟩ := G
  intro H locs ls hP hD hS hl
  exact lv_icmp_le hx hb hd ht (fun h => kt h H locs ls hP hD hS hl) (fun h => kf h H locs ls hP hD hS hl)
theorem bV.tableOut (G : bG D cl tys Γ own cc nL ret nm tb rm) {dflt lo hi : Int} {offs : Array Int} {len : Nat} {x : Int32} {tgt : Nat} (hd : decode cc pc = .ok (.tableswitch dflt lo hi offs, len)) (h : x.toInt < lo ∨ hi < x.toInt) (ht : (pc : Int) + dflt = (tgt : Int)) (kk : bV D cl Γ nL ws k n (tgt) lv (rest)) : bV D cl Γ nL ws k n (pc) lv (.int x :: rest) := by
  obtain ⟨p, l, e, R, s, m, args, below, meth, c, A, Q⟩ := Γ
  obtain ⟨hx, hb, hml, hown, hts, -⟩ := G
  intro H locs ls hP hD hS hl
  exact lv_tableOut hx hb hd h ht (kk H locs ls hP hD hS hl)
theorem bV.tableIn (G : bG D cl tys Γ own cc nL ret nm tb rm) {dflt lo hi : Int} {offs : Array Int} {len : Nat} {x : Int32} {off : Int} {tgt : Nat} (hd : decode cc pc = .ok (.tableswitch dflt lo hi offs, len)) (h1 : ¬ x.toInt < lo) (h2 : ¬ hi < x.toInt) (ho : offs[(x.toInt - lo).toNat]? = some off) (ht : (pc : Int) + off = (tgt : Int)) (kk : bV D cl Γ nL ws k n (tgt) lv (rest)) : bV D cl Γ nL ws k n (pc) lv (.int x :: rest) := by
  obtain ⟨p, l, e, R, s, m, args, below, meth, c, A, Q⟩ := Γ
  obtain ⟨hx, hb, hml, hown, hts, -⟩ := G
  intro H locs ls hP hD hS hl
  exact lv_tableIn hx hb hd h1 h2 ho ht (kk H locs ls hP hD hS hl)
theorem bV.lookup (G : bG D cl tys Γ own cc nL ret nm tb rm) {dflt : Int} {ps : Array (Int × Int)} {len : Nat} {x : Int32} {off : Int} {tgt : Nat} (hd : decode cc pc = .ok (.lookupswitch dflt ps, len)) (hp : (ps.toList.zip (ps.toList.drop 1)).all (fun (a, next) => a.1 < next.1) = true) (ho : Op.lookupswitch.offset ps.toList dflt x.toInt = off) (ht : (pc : Int) + off = (tgt : Int)) (kk : bV D cl Γ nL ws k n (tgt) lv (rest)) : bV D cl Γ nL ws k n (pc) lv (.int x :: rest) := by
  obtain ⟨p, l, e, R, s, m, args, below, meth, c, A, Q⟩ := Γ
  obtain ⟨hx, hb, hml, hown, hts, -⟩ := G
  intro H locs ls hP hD hS hl
  exact lv_lookup hx hb hd hp ho ht (kk H locs ls hP hD hS hl)
end BVR
end
section
/-! ===== rows of the heap: fields, arrays, new things, returns, throws, calls ===== -/
def bCl (cl : List vw_C) (ci : Nat) (C : String) (T : u_T) (N : Nat) (ty : Nat → FieldType) : Prop :=
  cl[ci]? = some (C, T, N) ∧ (∀ w ∈ u_ws C T N, w ∈ bw) ∧ (∀ k, k < N → parseFieldDescriptor (T k).2.2.1 = some (ty k)) ∧ (∀ a, a < N → ∀ b, b < N → a ≠ b → (T a).2.1 ≠ (T b).2.1)
section BVH
variable {D : va_G} {cl : List vw_C} {tys : List (ClassId × FieldType)} {Γ : bCtx} {own : String} {cc : ByteArray} {nL : Nat} {ret : Option FieldType} {nm : String} {tb : bTb} {rm : Room} {ws ws' ws0 : va_W} {k n pc : Nat} {lv : List (Nat × Value)} {rest : List Value} {post : bo → va_W → Prop}
theorem bV.widen {k' n' : Nat} {st : List Value} (h1 : k ≤ k') (h2 : n ≤ n') (kk : bV D cl Γ nL ws k' n' pc lv st) : bV D cl Γ nL ws k n pc lv st := by
  obtain ⟨p, l, e, R, s, m, args, below, meth, c, A, Q⟩ := Γ
  intro H locs ls hP hD hS hl
  exact W.widen h1 h2 (kk H locs ls hP hD hS hl)
theorem bV.perm {st : List Value} (is : List Nat) (hn : va_nd is = true) (hs : is.map (fun i => ws[i]?) = ws'.map some) (kk : bV D cl Γ nL ws' k n pc lv st) : bV D cl Γ nL ws k n pc lv st := by
  obtain ⟨p, l, e, R, s, m, args, below, meth, c, A, Q⟩ := Γ
  intro H locs ls hP hD hS hl
  refine kk H locs ls (fun j q hq => ?_) (hD.sub is hn hs) hS hl
  have h1 : (is.map (fun i => ws[i]?))[j]? = some (some q) := by rw [hs, List.getElem?_map, hq]; rfl
  rw [List.getElem?_map] at h1
  cases hi : is[j]? with
  | none => rw [hi] at h1; cases h1
  | some i => rw [hi] at h1; exact hP i q (Option.some.inj h1)
theorem bV.locals {st : List Value} {lv' : List (Nat × Value)} (h : ∀ q ∈ lv', q ∈ lv) (kk : bV D cl Γ nL ws k n pc lv' st) : bV D cl Γ nL ws k n pc lv st := by
  obtain ⟨p, l, e, R, s, m, args, below, meth, c, A, Q⟩ := Γ
  intro H locs ls hP hD hS hl
  exact kk H locs ls hP hD hS ⟨hl.1, hl.2.1, fun q hq => hl.2.2 q (h q hq)⟩
theorem bV.getf (G : bG D cl tys Γ own cc nL ret nm tb rm) {ci N : Nat} {C : String} {T : u_T} {ty : Nat → FieldType} (B : bCl cl ci C T N ty) (q0 j : Nat) {idx a : Nat} {fs : List Value} {v : Value} (he : ws[q0]? = some (a, .inr (ci, fs))) (hj : j < N) (hw : Cond.fieldLink own idx (T j).1 (T j).2.1 (T j).2.2.1 ∈ bw) (hv : fs[j]? = some v) (hd : decode cc pc = .ok (.getfield idx, 3))
    (kk : bV D cl Γ nL ws k n (pc + 3) lv (v :: rest)) : bV D cl Γ nL ws k n pc lv (.ref a :: rest) := by
  obtain ⟨p, l, e, R, s, m, args, below, meth, c, A, Q⟩ := Γ
  obtain ⟨hx, hb, hml, hown, hts, hK, -⟩ := G
  intro H locs ls hP hD hS hl
  exact va_get (D := D) hx hb hts B.2.1 hown hK hP q0 he B.1 j hj (hts _ hw) (fun _ h => h) hv hd (kk H locs ls hP hD hS hl)
theorem bV.putf (G : bG D cl tys Γ own cc nL ret nm tb rm) {ci N : Nat} {C : String} {T : u_T} {ty : Nat → FieldType} (B : bCl cl ci C T N ty) (q0 j : Nat) {idx a : Nat} {fs : List Value} {v : Value} (he : ws[q0]? = some (a, .inr (ci, fs))) (hj : j < N) (hw : Cond.fieldLink own idx (T j).1 (T j).2.1 (T j).2.2.1 ∈ bw) (hfin : (T j).2.2.2 = false) (hn : narrow (ty j) v = v) (hfit : fits (ty j) v = true) (hlen : j < fs.length) (hd : decode cc pc = .ok (.putfield idx, 3)) (hws : ws.set q0 (a, .inr (ci, fs.set j v)) = ws')
    (kk : bV D cl Γ nL ws' k n (pc + 3) lv rest) : bV D cl Γ nL ws k n pc lv (v :: .ref a :: rest) := by
  obtain ⟨p, l, e, R, s, m, args, below, meth, c, A, Q⟩ := Γ
  obtain ⟨hx, hb, hml, hown, hts, hK, -⟩ := G
  intro H locs ls hP hD hS hl
  subst hws
  exact va_put (D := D) hx hb hts B.2.1 ty B.2.2.1 B.2.2.2 hown hK hP hD hS q0 he B.1 j hj (hts _ hw) (fun _ h => h) hfin (B.2.2.1 j hj) hn hfit hlen hd (fun H1 locs1 hP1 hD1 hS1 => kk H1 locs1 ls hP1 hD1 hS1 hl)
theorem bV.putF (G : bG D cl tys Γ own cc nL ret "<init>" tb rm) {ci N : Nat} {C : String} {T : u_T} {ty : Nat → FieldType} (B : bCl cl ci C T N ty) (q0 j : Nat) {idx a : Nat} {fs : List Value} {v : Value} (he : ws[q0]? = some (a, .inr (ci, fs))) (hj : j < N) (hw : Cond.fieldLink own idx (T j).1 (T j).2.1 (T j).2.2.1 ∈ bw) (hfin : (T j).2.2.2 = true) (hdecl : (T j).1 = own) (hn : narrow (ty j) v = v) (hfit : fits (ty j) v = true) (hlen : j < fs.length) (hd : decode cc pc = .ok (.putfield idx, 3)) (hws : ws.set q0 (a, .inr (ci, fs.set j v)) = ws')
    (kk : bV D cl Γ nL ws' k n (pc + 3) lv rest) : bV D cl Γ nL ws k n pc lv (v :: .ref a :: rest) := by
  obtain ⟨p, l, e, R, s, m, args, below, meth, c, A, Q⟩ := Γ
  obtain ⟨hx, hb, hml, hown, hts, hK, hA, hst, hX, hlk, hret, hnm, -⟩ := G
  intro H locs ls hP hD hS hl
  subst hws
  exact va_putF (D := D) hx hb hts B.2.1 ty B.2.2.1 B.2.2.2 hown hK hP hD hS q0 he B.1 j hj (hts _ hw) (fun _ h => h) hfin hnm hdecl (B.2.2.1 j hj) hn hfit hlen hd (fun H1 locs1 hP1 hD1 hS1 => kk H1 locs1 ls hP1 hD1 hS1 hl)
theorem bV.iaload (G : bG D cl tys Γ own cc nL ret nm tb rm) (q0 t0 : Nat) {a : Nat} {cA : ClassId} {N : Nat} {f : Nat → Int32} {i : Int32} (ha : ws[q0]? = some (a, .inl (cA, N, .inl f))) (ht : tys[t0]? = some (cA, .int)) (hin : vp_in i N) (hd : decode cc pc = .ok (.iaload, 1))
    (kk : bV D cl Γ nL ws k n (pc + 1) lv (.int (f i.toNatClampNeg) :: rest)) : bV D cl Γ nL ws k n pc lv (.int i :: .ref a :: rest) := by
  obtain ⟨p, l, e, R, s, m, args, below, meth, c, A, Q⟩ := Γ
  obtain ⟨hx, hb, hml, hown, hts, hK, -⟩ := G
  intro H locs ls hP hD hS hl
  exact va_iald hx hb hK hP q0 t0 ha ht hin hd (kk H locs ls hP hD hS hl)
theorem bV.zaload (G : bG D cl tys Γ own cc nL ret nm tb rm) (q0 t0 : Nat) {a : Nat} {cA : ClassId} {N : Nat} {f : Nat → Int32} {i : Int32} (ha : ws[q0]? = some (a, .inl (cA, N, .inl f))) (ht : tys[t0]? = some (cA, .boolean)) (hin : vp_in i N) (hd : decode cc pc = .ok (.baload, 1))
    (kk : bV D cl Γ nL ws k n (pc + 1) lv (.int (f i.toNatClampNeg) :: rest)) : bV D cl Γ nL ws k n pc lv (.int i :: .ref a :: rest) := by
  obtain ⟨p, l, e, R, s, m, args, below, meth, c, A, Q⟩ := Γ
  obtain ⟨hx, hb, hml, hown, hts, hK, -⟩ := G
  intro H locs ls hP hD hS hl
  exact va_zald hx hb hK hP q0 t0 ha ht hin hd (kk H locs ls hP hD hS hl)
theorem bV.laload (G : bG D cl tys Γ own cc nL ret nm tb rm) (q0 t0 : Nat) {a : Nat} {cA : ClassId} {N : Nat} {f : Nat → Int64} {i : Int32} (ha : ws[q0]? = some (a, .inl (cA, N, .inr (.inl f)))) (ht : tys[t0]? = some (cA, .long)) (hin : vp_in i N) (hd : decode cc pc = .ok (.laload, 1))
    (kk : bV D cl Γ nL ws k n (pc + 1) lv (.long (f i.toNatClampNeg) :: rest)) : bV D cl Γ nL ws k n pc lv (.int i :: .ref a :: rest) := by
  obtain ⟨p, l, e, R, s, m, args, below, meth, c, A, Q⟩ := Γ
  obtain ⟨hx, hb, hml, hown, hts, hK, -⟩ := G
  intro H locs ls hP hD hS hl
  exact va_lald hx hb hK hP q0 t0 ha ht hin hd (kk H locs ls hP hD hS hl)
theorem bV.iastore (G : bG D cl tys Γ own cc nL ret nm tb rm) (q0 t0 : Nat) {a : Nat} {cA : ClassId} {N : Nat} {f : Nat → Int32} {i x : Int32} (ha : ws[q0]? = some (a, .inl (cA, N, .inl f))) (ht : tys[t0]? = some (cA, .int)) (hin : vp_in i N) (hd : decode cc pc = .ok (.iastore, 1)) (hws : ws.set q0 (a, .inl (cA, N, .inl (upd f i.toNatClampNeg x))) = ws')
    (kk : bV D cl Γ nL ws' k n (pc + 1) lv rest) : bV D cl Γ nL ws k n pc lv (.int x :: .int i :: .ref a :: rest) := by
  obtain ⟨p, l, e, R, s, m, args, below, meth, c, A, Q⟩ := Γ
  obtain ⟨hx, hb, hml, hown, hts, hK, -⟩ := G
  intro H locs ls hP hD hS hl
  subst hws
  exact va_iast hx hb hK hP hD hS q0 t0 ha ht hin hd (fun H1 locs1 hP1 hD1 hS1 => kk H1 locs1 ls hP1 hD1 hS1 hl)
theorem bV.zastore (G : bG D cl tys Γ own cc nL ret nm tb rm) (q0 t0 : Nat) {a : Nat} {cA : ClassId} {N : Nat} {f : Nat → Int32} {i x : Int32} (ha : ws[q0]? = some (a, .inl (cA, N, .inl f))) (ht : tys[t0]? = some (cA, .boolean)) (hin : vp_in i N) (hd : decode cc pc = .ok (.bastore, 1)) (hws : ws.set q0 (a, .inl (cA, N, .inl (upd f i.toNatClampNeg (vp_nar .boolean x)))) = ws')
    (kk : bV D cl Γ nL ws' k n (pc + 1) lv rest) : bV D cl Γ nL ws k n pc lv (.int x :: .int i :: .ref a :: rest) := by
  obtain ⟨p, l, e, R, s, m, args, below, meth, c, A, Q⟩ := Γ
  obtain ⟨hx, hb, hml, hown, hts, hK, -⟩ := G
  intro H locs ls hP hD hS hl
  subst hws
  exact va_zast hx hb hK hP hD hS q0 t0 ha ht hin hd (fun H1 locs1 hP1 hD1 hS1 => kk H1 locs1 ls hP1 hD1 hS1 hl)
theorem bV.lastore (G : bG D cl tys Γ own cc nL ret nm tb rm) (q0 t0 : Nat) {a : Nat} {cA : ClassId} {N : Nat} {f : Nat → Int64} {i : Int32} {x : Int64} (ha : ws[q0]? = some (a, .inl (cA, N, .inr (.inl f)))) (ht : tys[t0]? = some (cA, .long)) (hin : vp_in i N) (hd : decode cc pc = .ok (.lastore, 1)) (hws : ws.set q0 (a, .inl (cA, N, .inr (.inl (vp_updL f i.toNatClampNeg x)))) = ws')
    (kk : bV D cl Γ nL ws' k n (pc + 1) lv rest) : bV D cl Γ nL ws k n pc lv (.long x :: .int i :: .ref a :: rest) := by
  obtain ⟨p, l, e, R, s, m, args, below, meth, c, A, Q⟩ := Γ
  obtain ⟨hx, hb, hml, hown, hts, hK, -⟩ := G
  intro H locs ls hP hD hS hl
  subst hws
  exact va_last hx hb hK hP hD hS q0 t0 ha ht hin hd (fun H1 locs1 hP1 hD1 hS1 => kk H1 locs1 ls hP1 hD1 hS1 hl)
theorem bV.alen (G : bG D cl tys Γ own cc nL ret nm tb rm) (q0 t0 : Nat) {a : Nat} {cA : ClassId} {x : vp_A} {ty : FieldType} {v : Int32} (ha : ws[q0]? = some (a, .inl (cA, x))) (ht : tys[t0]? = some (cA, ty)) (hv : Int32.ofNat x.1 = v) (hd : decode cc pc = .ok (.arraylength, 1))
    (kk : bV D cl Γ nL ws k n (pc + 1) lv (.int v :: rest)) : bV D cl Γ nL ws k n pc lv (.ref a :: rest) := by
  obtain ⟨p, l, e, R, s, m, args, below, meth, c, A, Q⟩ := Γ
  obtain ⟨hx, hb, hml, hown, hts, hK, -⟩ := G
  intro H locs ls hP hD hS hl
  exact va_alen hx hb hK hP q0 t0 ha ht hv hd (kk H locs ls hP hD hS hl)
theorem bV.newarray (G : bG D cl tys Γ own cc nL ret nm tb rm) (t0 : Nat) {atype : ArrayType} {ty : FieldType} {cA : ClassId} (hw : Cond.arrayClass (newarray.typeOf atype) ∈ bw) (hty : newarray.typeOf atype = ty) (hpr : ∀ C, ty ≠ .object C) (ht : tys[t0]? = some (cA, ty))
    {i : Int32} {N : Nat} {a0 : vp_A} (ha : ∀ cA : ClassId, vp_cell cA a0 = arrV cA N (fun _ => defaultValue ty)) (hi : ¬ i < 0) (hN : i.toNatClampNeg = N) (hby : N * componentBytes ty ≤ 536870912) (hc : k + 1 ≤ rm.cells) (hs : n + N ≤ rm.slots) (hd : decode cc pc = .ok (.newarray atype, 2))
    (kk : ∀ q : Nat, bV D cl Γ nL (ws ++ [(q, .inl (cA, a0))]) (k + 1) (n + N) (pc + 2) lv (.ref q :: rest)) : bV D cl Γ nL ws k n pc lv (.int i :: rest) := by
  obtain ⟨p, l, e, R, s, m, args, below, meth, c, A, Q⟩ := Γ
  obtain ⟨hx, hb, hml, hown, hts, hK, hA, hst, hX, hlk, hret, hnm, htab, hR, htr⟩ := G
  intro H locs ls hP hD hS hl
  subst hR
  refine va_newa hx hb (hts _ hw) hty hK hP hD hS hA ha hi hN hby hc hs hd (fun q cA' H1 hK1 hP1 hD1 hS1 => ?_)
  have e1 := (hK.2 t0 _ ht).2
  have e2 := (hK1.2 tys.length (cA', ty) (by simp)).2
  have e3 : cA' = cA := by
    cases ty with
    | object C => exact absurd rfl (hpr C)
    | _ => exact Option.some.inj (e2.symm.trans e1)
  subst e3
  exact kk q H1 locs ls hP1 hD1 hS1 hl
theorem bV.new (G : bG D cl tys Γ own cc nL ret nm tb rm) {ci N : Nat} {C : String} {T : u_T} {ty : Nat → FieldType} (B : bCl cl ci C T N ty) {idx : Nat} {fs : List Value} (hw : Cond.classLink own idx C ∈ bw) (hw2 : Cond.instantiable C N ∈ bw) (hw3 : Cond.initialized C ∈ bw) (hfs : ∀ j, j < N → defaultValue (ty j) = vp_V fs j) (hc : k + 1 ≤ rm.cells) (hs : n + N ≤ rm.slots) (hd : decode cc pc = .ok (.new idx, 3))
    (kk : ∀ q : Nat, bV D cl Γ nL (ws ++ [(q, .inr (ci, fs))]) (k + 1) (n + N) (pc + 3) lv (.ref q :: rest)) : bV D cl Γ nL ws k n pc lv rest := by
  obtain ⟨p, l, e, R, s, m, args, below, meth, c, A, Q⟩ := Γ
  obtain ⟨hx, hb, hml, hown, hts, hK, hA, hst, hX, hlk, hret, hnm, htab, hR, htr⟩ := G
  intro H locs ls hP hD hS hl
  subst hR
  exact va_new hx hb hts B.2.1 ty B.2.2.1 hown (hts _ hw) (hts _ hw2) (hts _ hw3) hK hP hD hS hA B.1 hfs hc hs hd (fun q H1 hP1 hD1 hS1 => kk q H1 locs ls hP1 hD1 hS1 hl)
theorem bV.objInit (G : bG D cl tys Γ own cc nL ret nm tb rm) {idx a : Nat} (hw : Cond.methodLink own idx objectInit ∈ bw) (hw2 : Cond.instanceMethod objectInit ∈ bw) (hw3 : Cond.code objectInit ⟨#[0xb1]⟩ 1 none ∈ bw) (hf : 1 ≤ rm.frames) (hlo : (rest.map fun v => v.category).sum + 12 ≤ rm.locals) (hd : decode cc pc = .ok (.invokespecial idx, 3))
    (kk : bV D cl Γ nL ws k n (pc + 3) lv rest) : bV D cl Γ nL ws k n pc lv (.ref a :: rest) := by
  obtain ⟨p, l, e, R, s, m, args, below, meth, c, A, Q⟩ := Γ
  obtain ⟨hx, hb, hml, hown, hts, hK, hA, hst, hX, hlk, hret, hnm, htab, hR, htr⟩ := G
  intro H locs ls hP hD hS hl
  subst hR
  exact W.objInit hx hb hown (hts _ hw) (hts _ hw2) (hts _ hw3) rfl (by rw [hml]; exact hl.1) rfl hd hf (by show 2 * 0 + _ + 12 ≤ _; omega) (kk H locs ls hP hD hS hl)
theorem bV.mmax (G : bG D cl tys Γ own cc nL ret nm tb rm) {idx : Nat} {x y : Int32} (hw : Cond.methodLink own idx Lib.Math.max.name ∈ bw) (hw2 : Cond.static Lib.Math.max.name ∈ bw) (hw3 : Cond.initialized "java/lang/Math" ∈ bw) (hw4 : Cond.code Lib.Math.max.name Lib.Math.max.code 2 (some .int) ∈ bw) (hf : 1 ≤ rm.frames) (hlo : (rest.map fun v => v.category).sum + 13 ≤ rm.locals) (hc : k ≤ rm.cells) (hs : n ≤ rm.slots) (hd : decode cc pc = .ok (.invokestatic idx, 3))
    (kk : bV D cl Γ nL ws k n (pc + 3) lv (.int (if x < y then y else x) :: rest)) : bV D cl Γ nL ws k n pc lv (.int y :: .int x :: rest) := by
  obtain ⟨p, l, e, R, s, m, args, below, meth, c, A, Q⟩ := Γ
  obtain ⟨hx, hb, hml, hown, hts, hK, hA, hst, hX, hlk, hret, hnm, htab, hR, htr⟩ := G
  intro H locs ls hP hD hS hl
  subst hR
  exact va_mmax hx hb (hml.trans hl.1.symm) hown (hts _ hw) (hts _ hw2) (hts _ hw3) (hts _ hw4) hf hlo hc hs hd (kk H locs ls hP hD hS hl)
theorem bV.mmin (G : bG D cl tys Γ own cc nL ret nm tb rm) {idx : Nat} {x y : Int32} (hw : Cond.methodLink own idx Lib.Math.min.name ∈ bw) (hw2 : Cond.static Lib.Math.min.name ∈ bw) (hw3 : Cond.initialized "java/lang/Math" ∈ bw) (hw4 : Cond.code Lib.Math.min.name Lib.Math.min.code 2 (some .int) ∈ bw) (hf : 1 ≤ rm.frames) (hlo : (rest.map fun v => v.category).sum + 13 ≤ rm.locals) (hc : k ≤ rm.cells) (hs : n ≤ rm.slots) (hd : decode cc pc = .ok (.invokestatic idx, 3))
    (kk : bV D cl Γ nL ws k n (pc + 3) lv (.int (if y < x then y else x) :: rest)) : bV D cl Γ nL ws k n pc lv (.int y :: .int x :: rest) := by
  obtain ⟨p, l, e, R, s, m, args, below, meth, c, A, Q⟩ := Γ
  obtain ⟨hx, hb, hml, hown, hts, hK, hA, hst, hX, hlk, hret, hnm, htab, hR, htr⟩ := G
  intro H locs ls hP hD hS hl
  subst hR
  exact va_mmin hx hb (hml.trans hl.1.symm) hown (hts _ hw) (hts _ hw2) (hts _ hw3) (hts _ hw4) hf hlo hc hs hd (kk H locs ls hP hD hS hl)
-- returns
theorem bV.iret (G : bG D cl tys Γ own cc nL ret nm tb rm) (E0 : bE D cl Γ ws0 post rm) {ty : FieldType} {v : Int32} (hr : ret = some ty) (hn : narrow ty (.int v) = .int v) (h1 : k ≤ rm.cells) (h2 : n ≤ rm.slots) (hd : decode cc pc = .ok (.ireturn, 1)) (hp : post (.inl (some (.int v))) ws) : bV D cl Γ nL ws k n pc lv [.int v] := by
  obtain ⟨p, l, e, R, s, m, args, below, meth, c, A, Q⟩ := Γ
  obtain ⟨hx, hb, hml, hown, hts, hK, hA, hst, hX, hlk, hret, hnm, htab, hR, htr⟩ := G
  obtain ⟨rfl, rfl⟩ := E0
  intro H locs ls hP hD hS hl
  refine W.widen h1 h2 (bW_mono (fun t h => bMQ_of h) ?_)
  exact W.zret hx hb (hret.trans hr) hn (fun t ht hW => ⟨.inl (some (.int v)), ws, rfl, hp, by rw [ht]; exact hP, hD, hS.F ht⟩) hS.2.2 hd hlk
theorem bV.vret (G : bG D cl tys Γ own cc nL ret nm tb rm) (E0 : bE D cl Γ ws0 post rm) (hr : ret = none) (h1 : k ≤ rm.cells) (h2 : n ≤ rm.slots) (hd : decode cc pc = .ok (.return_, 1)) (hp : post (.inl none) ws) : bV D cl Γ nL ws k n pc lv [] := by
  obtain ⟨p, l, e, R, s, m, args, below, meth, c, A, Q⟩ := Γ
  obtain ⟨hx, hb, hml, hown, hts, hK, hA, hst, hX, hlk, hret, hnm, htab, hR, htr⟩ := G
  obtain ⟨rfl, rfl⟩ := E0
  intro H locs ls hP hD hS hl
  refine W.widen h1 h2 (bW_mono (fun t h => bMQ_of h) ?_)
  exact W.vret hx hb (hret.trans hr) (fun t ht hW => ⟨.inl none, ws, rfl, hp, by rw [ht]; exact hP, hD, hS.F ht⟩) hS.2.2 hd hlk
end BVH
end
section
def bB (b : Bool) : Int32 := match b with | true => 1 | false => 0
section BVN
variable {D : va_G} {cl : List vw_C} {tys : List (ClassId × FieldType)} {Γ : bCtx} {own : String} {cc : ByteArray} {nL : Nat} {ret : Option FieldType} {nm : String} {tb : bTb} {rm : Room} {ws : va_W} {k n pc : Nat} {lv : List (Nat × Value)} {rest : List Value}
theorem bV.icmp_eqN (G : bG D cl tys Γ own cc nL ret nm tb rm) {a b : Nat} {off : Int} {tgt : Nat} (hd : decode cc pc = .ok (.if_icmp .eq off, 3)) (ht : (pc : Int) + off = (tgt : Int)) (ha : a < 2 ^ 31) (hb : b < 2 ^ 31) (kt : a = b → bV D cl Γ nL ws k n (tgt) lv (rest)) (kf : ¬ (a = b) → bV D cl Γ nL ws k n (pc + 3) lv (rest)) : bV D cl Γ nL ws k n (pc) lv (.int (nI b) :: .int (nI a) :: rest) :=
  bV.icmp_eq G hd ht (fun h => kt ((nI_eq ha hb).mp h)) (fun h => kf (fun z => h ((nI_eq ha hb).mpr z)))
theorem bV.icmp_ltN (G : bG D cl tys Γ own cc nL ret nm tb rm) {a b : Nat} {off : Int} {tgt : Nat} (hd : decode cc pc = .ok (.if_icmp .lt off, 3)) (ht : (pc : Int) + off = (tgt : Int)) (ha : a < 2 ^ 31) (hb : b < 2 ^ 31) (kt : a < b → bV D cl Γ nL ws k n (tgt) lv (rest)) (kf : ¬ (a < b) → bV D cl Γ nL ws k n (pc + 3) lv (rest)) : bV D cl Γ nL ws k n (pc) lv (.int (nI b) :: .int (nI a) :: rest) :=
  bV.icmp_lt G hd ht (fun h => kt ((nI_ltI ha hb).mp h)) (fun h => kf (fun z => h ((nI_ltI ha hb).mpr z)))
theorem bV.icmp_leN (G : bG D cl tys Γ own cc nL ret nm tb rm) {a b : Nat} {off : Int} {tgt : Nat} (hd : decode cc pc = .ok (.if_icmp .le off, 3)) (ht : (pc : Int) + off = (tgt : Int)) (ha : a < 2 ^ 31) (hb : b < 2 ^ 31) (kt : a ≤ b → bV D cl Γ nL ws k n (tgt) lv (rest)) (kf : ¬ (a ≤ b) → bV D cl Γ nL ws k n (pc + 3) lv (rest)) : bV D cl Γ nL ws k n (pc) lv (.int (nI b) :: .int (nI a) :: rest) :=
  bV.icmp_le G hd ht (fun h => kt ((nI_leI ha hb).mp h)) (fun h => kf (fun z => h ((nI_leI ha hb).mpr z)))
theorem bV.icmp_geN (G : bG D cl tys Γ own cc nL ret nm tb rm) {a b : Nat} {off : Int} {tgt : Nat} (hd : decode cc pc = .ok (.if_icmp .ge off, 3)) (ht : (pc : Int) + off = (tgt : Int)) (ha : a < 2 ^ 31) (hb : b < 2 ^ 31) (kt : b ≤ a → bV D cl Γ nL ws k n (tgt) lv (rest)) (kf : ¬ (b ≤ a) → bV D cl Γ nL ws k n (pc + 3) lv (rest)) : bV D cl Γ nL ws k n (pc) lv (.int (nI b) :: .int (nI a) :: rest) :=
  bV.icmp_ge G hd ht (fun h => kt ((nI_leI hb ha).mp h)) (fun h => kf (fun z => h ((nI_leI hb ha).mpr z)))
theorem bV.icmp_gtN (G : bG D cl tys Γ own cc nL ret nm tb rm) {a b : Nat} {off : Int} {tgt : Nat} (hd : decode cc pc = .ok (.if_icmp .gt off, 3)) (ht : (pc : Int) + off = (tgt : Int)) (ha : a < 2 ^ 31) (hb : b < 2 ^ 31) (kt : b < a → bV D cl Γ nL ws k n (tgt) lv (rest)) (kf : ¬ (b < a) → bV D cl Γ nL ws k n (pc + 3) lv (rest)) : bV D cl Γ nL ws k n (pc) lv (.int (nI b) :: .int (nI a) :: rest) :=
  bV.icmp_gt G hd ht (fun h => kt ((nI_ltI hb ha).mp h)) (fun h => kf (fun z => h ((nI_ltI hb ha).mpr z)))
theorem bV.icmp_neN (G : bG D cl tys Γ own cc nL ret nm tb rm) {a b : Nat} {off : Int} {tgt : Nat} (hd : decode cc pc = .ok (.if_icmp .ne off, 3)) (ht : (pc : Int) + off = (tgt : Int)) (ha : a < 2 ^ 31) (hb : b < 2 ^ 31) (kt : a ≠ b → bV D cl Γ nL ws k n (tgt) lv (rest)) (kf : a = b → bV D cl Γ nL ws k n (pc + 3) lv (rest)) : bV D cl Γ nL ws k n (pc) lv (.int (nI b) :: .int (nI a) :: rest) :=
  bV.icmp_ne G hd ht (fun h => kt (fun z => h ((nI_eq ha hb).mpr z))) (fun h => kf ((nI_eq ha hb).mp h))
theorem bV.if_ltN (G : bG D cl tys Γ own cc nL ret nm tb rm) {a : Nat} {off : Int} {tgt : Nat} (hd : decode cc pc = .ok (.ifCond .lt off, 3)) (ht : (pc : Int) + off = (tgt : Int)) (ha : a < 2 ^ 31) (kf : bV D cl Γ nL ws k n (pc + 3) lv (rest)) : bV D cl Γ nL ws k n (pc) lv (.int (nI a) :: rest) :=
  bV.if_lt G hd ht (fun h => absurd h (nI_pos ha)) (fun _ => kf)
theorem bV.if_geN (G : bG D cl tys Γ own cc nL ret nm tb rm) {a : Nat} {off : Int} {tgt : Nat} (hd : decode cc pc = .ok (.ifCond .ge off, 3)) (ht : (pc : Int) + off = (tgt : Int)) (ha : a < 2 ^ 31) (kt : bV D cl Γ nL ws k n (tgt) lv (rest)) : bV D cl Γ nL ws k n (pc) lv (.int (nI a) :: rest) :=
  bV.if_ge G hd ht (fun _ => kt) (fun h => absurd (nI_pos' ha) h)
theorem bV.if_eqN (G : bG D cl tys Γ own cc nL ret nm tb rm) {a : Nat} {off : Int} {tgt : Nat} (hd : decode cc pc = .ok (.ifCond .eq off, 3)) (ht : (pc : Int) + off = (tgt : Int)) (ha : a < 2 ^ 31) (kt : a = 0 → bV D cl Γ nL ws k n (tgt) lv (rest)) (kf : a ≠ 0 → bV D cl Γ nL ws k n (pc + 3) lv (rest)) : bV D cl Γ nL ws k n (pc) lv (.int (nI a) :: rest) :=
  bV.if_eq G hd ht (fun h => kt ((nI_eq ha (by decide)).mp (h.trans nI_0.symm))) (fun h => kf (fun z => h (by rw [z]; exact nI_0)))
theorem bV.if_neN (G : bG D cl tys Γ own cc nL ret nm tb rm) {a : Nat} {off : Int} {tgt : Nat} (hd : decode cc pc = .ok (.ifCond .ne off, 3)) (ht : (pc : Int) + off = (tgt : Int)) (ha : a < 2 ^ 31) (kt : a ≠ 0 → bV D cl Γ nL ws k n (tgt) lv (rest)) (kf : a = 0 → bV D cl Γ nL ws k n (pc + 3) lv (rest)) : bV D cl Γ nL ws k n (pc) lv (.int (nI a) :: rest) :=
  bV.if_ne G hd ht (fun h => kt (fun z => h (by rw [z]; exact nI_0))) (fun h => kf ((nI_eq ha (by decide)).mp (h.trans nI_0.symm)))
theorem bV.if_leN (G : bG D cl tys Γ own cc nL ret nm tb rm) {a : Nat} {off : Int} {tgt : Nat} (hd : decode cc pc = .ok (.ifCond .le off, 3)) (ht : (pc : Int) + off = (tgt : Int)) (ha : a < 2 ^ 31) (kt : a = 0 → bV D cl Γ nL ws k n (tgt) lv (rest)) (kf : a ≠ 0 → bV D cl Γ nL ws k n (pc + 3) lv (rest)) : bV D cl Γ nL ws k n (pc) lv (.int (nI a) :: rest) :=
  bV.if_le G hd ht (fun h => kt (by rcases Nat.eq_zero_or_pos a with z | z; exact z; exact absurd h (nI_nle z ha))) (fun h => kf (fun z => h (by rw [z]; exact nI_le (Nat.le_refl 0) (by decide))))
theorem bV.if_gtN (G : bG D cl tys Γ own cc nL ret nm tb rm) {a : Nat} {off : Int} {tgt : Nat} (hd : decode cc pc = .ok (.ifCond .gt off, 3)) (ht : (pc : Int) + off = (tgt : Int)) (ha : a < 2 ^ 31) (kt : a ≠ 0 → bV D cl Γ nL ws k n (tgt) lv (rest)) (kf : a = 0 → bV D cl Γ nL ws k n (pc + 3) lv (rest)) : bV D cl Γ nL ws k n (pc) lv (.int (nI a) :: rest) :=
  bV.if_gt G hd ht (fun h => kt (fun z => by rw [z] at h; exact absurd h (by decide))) (fun h => kf (by rcases Nat.eq_zero_or_pos a with z | z; exact z; exact absurd (by rw [← nI_0]; exact nI_lt z ha) h))
theorem bV.if_eqB (G : bG D cl tys Γ own cc nL ret nm tb rm) {a : Bool} {off : Int} {tgt : Nat} (hd : decode cc pc = .ok (.ifCond .eq off, 3)) (ht : (pc : Int) + off = (tgt : Int)) (kt : a = false → bV D cl Γ nL ws k n (tgt) lv (rest)) (kf : a = true → bV D cl Γ nL ws k n (pc + 3) lv (rest)) : bV D cl Γ nL ws k n (pc) lv (.int (bB a) :: rest) :=
  bV.if_eq G hd ht (fun h => kt (by cases a; rfl; exact absurd h (by decide))) (fun h => kf (by cases a; exact absurd rfl h; rfl))
theorem bV.if_neB (G : bG D cl tys Γ own cc nL ret nm tb rm) {a : Bool} {off : Int} {tgt : Nat} (hd : decode cc pc = .ok (.ifCond .ne off, 3)) (ht : (pc : Int) + off = (tgt : Int)) (kt : a = true → bV D cl Γ nL ws k n (tgt) lv (rest)) (kf : a = false → bV D cl Γ nL ws k n (pc + 3) lv (rest)) : bV D cl Γ nL ws k n (pc) lv (.int (bB a) :: rest) :=
  bV.if_ne G hd ht (fun h => kt (by cases a; exact absurd rfl h; rfl)) (fun h => kf (by cases a; rfl; exact absurd h (by decide)))
theorem bV.iaddN (G : bG D cl tys Γ own cc nL ret nm tb rm) {a b : Nat} (hd : decode cc pc = .ok (.iadd, 1)) (kk : bV D cl Γ nL ws k n (pc + 1) lv (.int (nI (a + b)) :: rest)) : bV D cl Γ nL ws k n (pc) lv (.int (nI b) :: .int (nI a) :: rest) := bV.iadd G hd (by rw [nI_add]; exact kk)
theorem bV.isubN (G : bG D cl tys Γ own cc nL ret nm tb rm) {a b : Nat} (hd : decode cc pc = .ok (.isub, 1)) (h : b ≤ a) (kk : bV D cl Γ nL ws k n (pc + 1) lv (.int (nI (a - b)) :: rest)) : bV D cl Γ nL ws k n (pc) lv (.int (nI b) :: .int (nI a) :: rest) := bV.isub G hd (by rw [pk_sub h]; exact kk)
theorem bV.imulN (G : bG D cl tys Γ own cc nL ret nm tb rm) {a b : Nat} (hd : decode cc pc = .ok (.imul, 1)) (kk : bV D cl Γ nL ws k n (pc + 1) lv (.int (nI (a * b)) :: rest)) : bV D cl Γ nL ws k n (pc) lv (.int (nI b) :: .int (nI a) :: rest) := bV.imul G hd (by rw [pk_mul]; exact kk)
theorem bV.iincN (G : bG D cl tys Γ own cc nL ret nm tb rm) {i a : Nat} {lv' : List (Nat × Value)} (hd : decode cc pc = .ok (.iinc i 1, 3)) (hg : bl_get lv i = some (.int (nI a))) (hn : i < nL) (hc : lv.all (fun q => q.2.category == 1) = true) (he : bl_set lv i (.int (nI (a + 1))) = lv') (kk : bV D cl Γ nL ws k n (pc + 3) lv' (rest)) : bV D cl Γ nL ws k n (pc) lv (rest) := bV.iinc G hd hg (v := nI (a + 1)) (nI_1 a) hn hc he kk
theorem bV.topi {x y : Int32} (h : x = y) (kk : bV D cl Γ nL ws k n (pc) lv (.int y :: rest)) : bV D cl Γ nL ws k n (pc) lv (.int x :: rest) := by rw [h]; exact kk
theorem bV.ialoadN (G : bG D cl tys Γ own cc nL ret nm tb rm) (q0 t0 : Nat) {a j : Nat} {cA : ClassId} {N : Nat} {f : Nat → Int32} (ha : ws[q0]? = some (a, .inl (cA, N, .inl f))) (ht : tys[t0]? = some (cA, .int)) (hj : j < N) (hN : N < 2 ^ 31) (hd : decode cc pc = .ok (.iaload, 1)) (kk : bV D cl Γ nL ws k n (pc + 1) lv (.int (f j) :: rest)) : bV D cl Γ nL ws k n (pc) lv (.int (nI j) :: .ref a :: rest) := bV.iaload G q0 t0 ha ht (vp_in_nI hj hN) hd (by rw [nI_clamp (Nat.lt_trans hj hN)]; exact kk)
theorem bV.zaloadN (G : bG D cl tys Γ own cc nL ret nm tb rm) (q0 t0 : Nat) {a j : Nat} {cA : ClassId} {N : Nat} {f : Nat → Int32} (ha : ws[q0]? = some (a, .inl (cA, N, .inl f))) (ht : tys[t0]? = some (cA, .boolean)) (hj : j < N) (hN : N < 2 ^ 31) (hd : decode cc pc = .ok (.baload, 1)) (kk : bV D cl Γ nL ws k n (pc + 1) lv (.int (f j) :: rest)) : bV D cl Γ nL ws k n (pc) lv (.int (nI j) :: .ref a :: rest) := bV.zaload G q0 t0 ha ht (vp_in_nI hj hN) hd (by rw [nI_clamp (Nat.lt_trans hj hN)]; exact kk)
theorem bV.iastoreN (G : bG D cl tys Γ own cc nL ret nm tb rm) (q0 t0 : Nat) {a j : Nat} {cA : ClassId} {N : Nat} {f : Nat → Int32} {x : Int32} {ws' : va_W} (ha : ws[q0]? = some (a, .inl (cA, N, .inl f))) (ht : tys[t0]? = some (cA, .int)) (hj : j < N) (hN : N < 2 ^ 31) (hd : decode cc pc = .ok (.iastore, 1)) (hws : ws.set q0 (a, .inl (cA, N, .inl (upd f j x))) = ws') (kk : bV D cl Γ nL ws' k n (pc + 1) lv (rest)) : bV D cl Γ nL ws k n (pc) lv (.int x :: .int (nI j) :: .ref a :: rest) := bV.iastore G q0 t0 ha ht (vp_in_nI hj hN) hd (by rw [nI_clamp (Nat.lt_trans hj hN)]; exact hws) kk
theorem bB_nar (b : Bool) : vp_nar .boolean (bB b) = bB b := by cases b <;> rfl
theorem bV.zastoreN (G : bG D cl tys Γ own cc nL ret nm tb rm) (q0 t0 : Nat) {a j : Nat} {cA : ClassId} {N : Nat} {f : Nat → Int32} {x : Bool} {ws' : va_W} (ha : ws[q0]? = some (a, .inl (cA, N, .inl f))) (ht : tys[t0]? = some (cA, .boolean)) (hj : j < N) (hN : N < 2 ^ 31) (hd : decode cc pc = .ok (.bastore, 1)) (hws : ws.set q0 (a, .inl (cA, N, .inl (upd f j (bB x)))) = ws') (kk : bV D cl Γ nL ws' k n (pc + 1) lv (rest)) : bV D cl Γ nL ws k n (pc) lv (.int (bB x) :: .int (nI j) :: .ref a :: rest) := bV.zastore G q0 t0 ha ht (vp_in_nI hj hN) hd (by rw [nI_clamp (Nat.lt_trans hj hN), bB_nar]; exact hws) kk
theorem bV.alenN (G : bG D cl tys Γ own cc nL ret nm tb rm) (q0 t0 : Nat) {a : Nat} {cA : ClassId} {x : vp_A} {ty : FieldType} (ha : ws[q0]? = some (a, .inl (cA, x))) (ht : tys[t0]? = some (cA, ty)) (hd : decode cc pc = .ok (.arraylength, 1)) (kk : bV D cl Γ nL ws k n (pc + 1) lv (.int (nI x.1) :: rest)) : bV D cl Γ nL ws k n (pc) lv (.ref a :: rest) := bV.alen G q0 t0 ha ht rfl hd kk
end BVN
end
section
/-! ===== an exception meets a handler of the method itself; calls that return or throw; throw new ===== -/
section BTF
variable {Q : Handler → Pre} {E : CtlPost} {e : Env} {d : Bool} {acts : List Action} {S : State} {f : JFrame} {a : Addr}
theorem bt_one {x : ExceptionTableEntry} {t : List ExceptionTableEntry} {c : ClassId} {cell : Cell} (hx : covers x f.pc = true) (h0 : x.catchType ≠ 0) (hl : S.vm.ClassLinks e.platform f.method.cls x.catchType c) (hcell : S.heap[a]? = some cell) (hobj : ∀ k, cell.vm ≠ .statics k)
    (hk : ∃ k, S.vm.classes[cell.cls]? = some k) (hc : ∃ k, S.vm.classes[c]? = some k) :
    wp (findHandler.go f a (x :: t)) Q E e d acts S ↔ (if S.vm.assignable cell.cls c = true then Q (.found x.handlerPc) d acts (S.setVm (S.vm.noted f.method.cls x.catchType (.cls c))) else wp (findHandler.go f a t) Q E e d acts (S.setVm (S.vm.noted f.method.cls x.catchType (.cls c)))) := by
  simp only [covers] at hx
  obtain ⟨ha, ht⟩ := (resolveClass_links e.toSetting hl).op (op := VmOp.resolveClass f.method.cls x.catchType) rfl
  have hal : S.vm.Alike (S.vm.noted f.method.cls x.catchType (.cls c)) := (Vm.Alike.refl S.vm).noted _ _ _
  obtain ⟨k1, hk1⟩ := hk
  obtain ⟨k2, hk2⟩ := hc
  obtain ⟨k1', hk1', -⟩ := hal.2.2 _ _ hk1
  obtain ⟨k2', hk2', -⟩ := hal.2.2 _ _ hk2
  by_cases hf : S.vm.assignable cell.cls c = true
  · have hf' : (S.vm.noted f.method.cls x.catchType (.cls c)).assignable cell.cls c = true := by rw [hal.assignable]; exact hf
    rw [if_pos hf]
    simp [findHandler.go, hx, h0, ha, ht, hcell, hobj, hk1', hk2', hf', VmOp.dirties, VmOp.acts]
  · have hf' : (S.vm.noted f.method.cls x.catchType (.cls c)).assignable cell.cls c = false := by rw [hal.assignable]; simpa using hf
    rw [if_neg hf]
    simp [findHandler.go, hx, h0, ha, ht, hcell, hobj, hk1', hk2', hf', VmOp.dirties, VmOp.acts]
end BTF
/-- an entry that the search goes past -/
def bt_pass (pl : Platform) (s : State) (d : ClassId) (pc : Nat) (th : ClassId) (y : ExceptionTableEntry) : Prop := covers y pc = false ∨ (y.catchType ≠ 0 ∧ ∃ c, s.vm.ClassLinks pl d y.catchType c ∧ s.vm.assignable th c = false)
theorem bt_find {e : Env} {s : State} {f : JFrame} {a : Addr} {cell : Cell} (hobj : ∀ k, cell.vm ≠ .statics k) (hk0 : ∃ k, s.vm.classes[cell.cls]? = some k) {x : ExceptionTableEntry} {rest : List ExceptionTableEntry} {c : ClassId} (hx : covers x f.pc = true) (h0 : x.catchType ≠ 0)
    (hl : s.vm.ClassLinks e.platform f.method.cls x.catchType c) (hfit : s.vm.assignable cell.cls c = true) :
    ∀ (pre : List ExceptionTableEntry) (S : State), s.WarmedH S.vm → S.heap[a]? = some cell → (∀ y ∈ pre, bt_pass e.platform s f.method.cls f.pc cell.cls y) →
      ∃ vm', s.WarmedH vm' ∧ ∀ (Q : Handler → Pre) (E : CtlPost) (d : Bool) (acts : List Action), wp (findHandler.go f a (pre ++ x :: rest)) Q E e d acts S ↔ Q (.found x.handlerPc) d acts (S.setVm vm') := by
  obtain ⟨k0, hk0⟩ := hk0
  have link : ∀ {y : ExceptionTableEntry} {c : ClassId} (S : State), s.WarmedH S.vm → s.vm.ClassLinks e.platform f.method.cls y.catchType c → S.vm.ClassLinks e.platform f.method.cls y.catchType c ∧ (∃ k, S.vm.classes[cell.cls]? = some k) ∧ (∃ k, S.vm.classes[c]? = some k) ∧ s.WarmedH (S.vm.noted f.method.cls y.catchType (.cls c)) := by
    intro y c S hW hl
    obtain ⟨dk, _, _, kt, hd, _, _, _, _, hkt, _, hopen⟩ := hl.here
    obtain ⟨kt', hkt', -⟩ := hW.alike.2.2 _ _ hkt
    obtain ⟨k0', hk0', -⟩ := hW.alike.2.2 _ _ hk0
    exact ⟨hW.classLinks hl, ⟨k0', hk0'⟩, ⟨kt', hkt'⟩, hW.noted hd hopen (State.rightAt_cls hl)⟩
  intro pre
  induction pre with
  | nil =>
    intro S hW hcell _
    obtain ⟨g1, g2, g3, g4⟩ := link S hW hl
    refine ⟨_, g4, fun Q E d acts => ?_⟩
    rw [List.nil_append, bt_one hx h0 g1 hcell hobj g2 g3, if_pos (by rw [hW.alike.assignable]; exact hfit)]
  | cons y ys ih =>
    intro S hW hcell hpass
    have hr : ∀ z ∈ ys, bt_pass e.platform s f.method.cls f.pc cell.cls z := fun z hz => hpass z (List.mem_cons_of_mem _ hz)
    cases hcov : covers y f.pc with
    | false =>
      obtain ⟨vm', w1, w2⟩ := ih S hW hcell hr
      exact ⟨vm', w1, fun Q E d acts => by rw [List.cons_append, W.findHandler_go_skip hcov]; exact w2 Q E d acts⟩
    | true =>
      rcases hpass y List.mem_cons_self with h | ⟨hy0, c', hl', hno⟩
      · rw [h] at hcov; cases hcov
      · obtain ⟨g1, g2, g3, g4⟩ := link S hW hl'
        obtain ⟨vm', w1, w2⟩ := ih (S.setVm (S.vm.noted f.method.cls y.catchType (.cls c'))) g4 hcell hr
        exact ⟨vm', w1, fun Q E d acts => by
          rw [List.cons_append, bt_one hcov hy0 g1 hcell hobj g2 g3, if_neg (by rw [hW.alike.assignable, hno]; decide)]
          exact w2 Q E d acts⟩
theorem bt_caught {p : Program} {l : Launch} {e : Env} {R : Room} {s : State} {m : MethodId} {args : Array Value} {below : List Frame} {meth : Method} {c : Code} {T : State} {locs : List Loc} {k n : Nat} (X : Stand p l e R s m args below meth c T locs k n) (a : Addr) {g : JFrame} (hg : g.method = m) {pc : Nat} {vm' : Vm} (hW : s.WarmedH vm')
    (hfind : ∀ (Q : Handler → Pre) (E : CtlPost) (d : Bool) (acts : List Action), wp (findHandler g a) Q E e d acts ((T.setTop g).pushFrame (.throwing a)) ↔ Q (.found pc) d acts (((T.setTop g).pushFrame (.throwing a)).setVm vm')) :
    Stand p l e R s m args below meth c (T.setVm vm') locs k n ∧ ∀ target, Steps p.tables e below ((T.setVm vm').setTop { g with pc := pc, stack := [.ref a] }) target → Steps p.tables e below ((T.setTop g).pushFrame (.throwing a)) target := by
  refine ⟨X.noted hW, fun target hrest => ?_⟩
  have h : At T g.method c below := by rw [hg]; exact X.here
  obtain ⟨hgo, hw⟩ := h.throwing a
  refine Steps.head hgo hw ?_
  have key : (stepThrowing e ((T.setTop g).pushFrame (.throwing a)) a (.java g :: T.frames.tail)).Is ((((T.setTop g).pushFrame (.throwing a)).setVm vm').setFrames (.java { g with pc := pc, stack := [.ref a] } :: T.frames.tail)) [] := by
    simp only [stepThrowing, searchFrame, vmDo]
    generalize hr : Sem.go _ e false [] ((T.setTop g).pushFrame (.throwing a)) = res
    obtain ⟨as, rfl, ha⟩ := Sem.eq_ok_of hr (a := Handler.found pc) (s' := ((T.setTop g).pushFrame (.throwing a)).setVm vm') (acts' := []) (by simp [hfind _ _ _ _])
    exact ⟨rfl, ha⟩
  rw [stepThread_throwing (frames_entered h.top _), key.1]
  obtain ⟨g₀, hg0⟩ := Option.isSome_iff_exists.mp h.top
  obtain ⟨r, hr⟩ := State.topJava?_eq_some.mp hg0
  have hr' : (T.setVm vm').frames = .java g₀ :: r := hr
  rw [State.setTop_of_frames _ hr'] at hrest
  have e1 : (((T.setTop g).pushFrame (.throwing a)).setVm vm').setFrames (.java { g with pc := pc, stack := [.ref a] } :: T.frames.tail) = (T.setVm vm').setFrames (.java { g with pc := pc, stack := [.ref a] } :: r) := by
    have e2 : ∀ (u : State) (F F' : List Frame), ((u.setFrames F).setVm vm').setFrames F' = (u.setVm vm').setFrames F' := by
      intro u F F'
      show ((u.setVm vm').setFrames F).setFrames F' = _
      rw [State.setFrames_setFrames]
    rw [hr, List.tail_cons, State.pushFrame, e2, State.setTop_of_frames _ hr, e2]
  rw [e1]
  exact hrest
section BTR
variable {D : va_G} {cl : List vw_C} {tys : List (ClassId × FieldType)} {Γ : bCtx} {own : String} {cc : ByteArray} {nL : Nat} {ret : Option FieldType} {nm : String} {tb : bTb} {rm : Room} {ws ws' ws0 : va_W} {k n pc : Nat} {lv : List (Nat × Value)} {rest : List Value} {post : bo → va_W → Prop} {E : String}
/-- the exception leaves the method -/
theorem bT.leave (G : bG D cl tys Γ own cc nL ret nm tb rm) (E0 : bE D cl Γ ws0 post rm) (htb : (tableOf tb).all (fun x => !covers x pc) = true) (h1 : k ≤ rm.cells) (h2 : n ≤ rm.slots) (hp : post (.inr E) ws) : bT D cl Γ nL ws k n pc lv E := by
  obtain ⟨p, l, e, R, s, m, args, below, meth, c, A, Q⟩ := Γ
  obtain ⟨hx, hb, hml, hown, hts, hK, hA, hst, hX, hlk, hret, hnm, htab, hR, htr⟩ := G
  obtain ⟨rfl, rfl⟩ := E0
  intro H locs ls st a ce hP hD hS hl hnew hce hcs hcl T hT X
  have X := stand_widen X h1 h2
  obtain ⟨w1, w2, w3, w4, w5⟩ := X.leaveThrown a (g := F0 m pc ls st) rfl rfl rfl (outside_of_table htab htb) hlk
  refine ⟨_, w1, .threw a, w2, w3, ⟨.inr E, ws, ⟨a, ce, rfl, hnew, ?_, hcs, ?_⟩, hp, ?_, hD, ?_⟩, locs, ⟨Or.inr ⟨a, rfl⟩, w4, w5⟩, hS.2.2⟩
  · show T.heap[a]? = _
    rw [hT]; exact hce
  · show T.vm.findClass E = _
    rw [X.warmed.alike.findClass]; exact hcl
  · show va_P D cl ws T.heap
    rw [hT]; exact hP
  · exact hS.F (t := T.setFrames (.throwing a :: below)) hT
/-- .. or is caught: by the first entry that takes it, behind entries that name classes that it isn't of -/
theorem bT.catch (G : bG D cl tys Γ own cc nL ret nm tb rm) (pre : bTb) (x : Nat × Nat × Nat × Nat) (suf : bTb) (htb : tb = pre ++ x :: suf) (C : String) (hx : covers ⟨x.1, x.2.1, x.2.2.1, x.2.2.2⟩ pc = true) (h0 : x.2.2.2 ≠ 0) (hlink : Cond.classLink own x.2.2.2 C ∈ bw) (hcast : Cond.castable E C ∈ bw)
    (hpass : ∀ y ∈ pre, y.2.2.2 ≠ 0 ∧ ∃ C', Cond.classLink own y.2.2.2 C' ∈ bw ∧ (E, C') ∈ bnots)
    (kk : ∀ a : Nat, bV D cl Γ nL ws k n x.2.2.1 lv [.ref a]) : bT D cl Γ nL ws k n pc lv E := by
  obtain ⟨p, l, e, R, s, m, args, below, meth, c, A, Q⟩ := Γ
  obtain ⟨hx1, hb, hml, hown, hts, hK, hA, hst, hX, hlk, hret, hnm, htab, hR, htr⟩ := G
  intro H locs ls st a ce hP hD hS hl hnew hce hcs hcl T hT X
  have hpl : e.platform.magicAccessors = ({} : Platform).magicAccessors := by rw [X.admits.platform]
  obtain ⟨c', hc', hl1⟩ := Cond.classLink_spec hown (hts _ hlink) e.platform hpl
  obtain ⟨c3, c4, hc3, hc4, hasg⟩ := Cond.castable_spec (hts _ hcast)
  cases Option.some.inj (hcl.symm.trans hc3)
  cases Option.some.inj (hc'.symm.trans hc4)
  obtain ⟨dk, _, _, kt, _, _, _, _, _, hkt, _, _⟩ := hl1.here
  have hk0 : ∃ k, s.vm.classes[ce.cls]? = some k := Vm.classAt_of_assignable hasg ⟨kt, hkt⟩
  have hps : ∀ y ∈ tableOf pre, bt_pass e.platform s m.cls pc ce.cls y := by
    intro y hy
    obtain ⟨z, hz, rfl⟩ := List.mem_map.mp hy
    obtain ⟨hz0, C', hz1, hz2⟩ := hpass z hz
    obtain ⟨c5, hc5, hl5⟩ := Cond.classLink_spec hown (hts _ hz1) e.platform hpl
    obtain ⟨e1, e2, he1, he2, he3⟩ := hX.2.2.2.1 _ hz2
    cases Option.some.inj (hcl.symm.trans he1)
    cases Option.some.inj (hc5.symm.trans he2)
    exact Or.inr ⟨hz0, c5, hl5, he3⟩
  have htab2 : c.exceptionTable.toList = tableOf pre ++ ⟨x.1, x.2.1, x.2.2.1, x.2.2.2⟩ :: tableOf suf := by
    rw [htab, htb]; simp [tableOf]
  obtain ⟨vm', hW', hf⟩ := bt_find (e := e) (s := s) (f := F0 m pc ls st) (a := a) (cell := ce) (VmData.ne_statics_of hcs) hk0 (x := ⟨x.1, x.2.1, x.2.2.1, x.2.2.2⟩) (rest := tableOf suf) hx h0 hl1 hasg (tableOf pre) ((T.setTop (F0 m pc ls st)).pushFrame (.throwing a)) X.warmed (by show T.heap[a]? = _; rw [hT]; exact hce) hps
  obtain ⟨X', st'⟩ := bt_caught X a (g := F0 m pc ls st) rfl hW' (pc := x.2.2.1) (fun Q E d acts => by
    rw [W.findHandler_eq (meth := meth) (code := c) X.method' X.code, htab2]
    exact hf Q E d acts)
  obtain ⟨t, a1, b1⟩ := kk a H locs ls hP hD hS hl (T.setVm vm') hT X'
  exact ⟨t, st' t a1, b1⟩
end BTR
/-- A CALL: the callee comes back, or throws -/
theorem bcall {p : Program} {l : Launch} {e : Env} {R : Room} {s : State} {m : MethodId} {args : Array Value} {below : List Frame} {meth : Method} {c : Code} {T : State} {locs : List Loc} {k n : Nat} (X : Stand p l e R s m args below meth c T locs k n)
    {y : MethodName} {rm : Room} {Pc : Array Value → State → Prop} {Qc : Array Value → State → Outcome → State → Prop} {free : Addr → Prop} (hM : bMet l y (headSpec bw rm) Pc Qc rm.cells rm.slots free) (hbl : FrameBlind Pc) (hts : ∀ w ∈ bw, w.before args s = true)
    {mk : MethodId} {methY : Method} {cY : Code} {kY : Class} {maxL : Nat} (hn : T.methodNamed? y = some mk) (hmY : T.vm.method? mk = some methY) (hcY : methY.code = some cY) (hlY : cY.maxLocals = maxL) (hkY : T.vm.classes[mk.cls]? = some kY) (hiY : kY.init = .initialized)
    (hfr : rm.frames + 1 ≤ R.frames) (hlo : 8 + (maxL + 11) + rm.locals ≤ R.locals) (hc : k + rm.cells ≤ R.cells) (hs : n + rm.slots ≤ R.slots)
    {g : JFrame} (hg : g.method = m) (hsize : g.locals.size = c.maxLocals) {ig : Instr} {len : Nat} (hdg : decode c.code g.pc = .ok (ig, len)) (hW : 2 * g.monitorRoom + (g.stack.map fun v => v.category).sum ≤ 8) {a : Array Value} (hP : Pc a T) :
    ∃ (o : Outcome) (t T' : State) (L : List Loc), Stand p l e R s m args below meth c T' (locs ++ L) (k + rm.cells) (n + rm.slots) ∧ (∀ q ∈ L, free q.base) ∧ T'.heap = t.heap ∧ T'.vm = t.vm ∧ Qc a (T.calling g mk a) o t ∧
      ((∃ v, o = .returned v ∧ Steps p.tables e below (doInvoke e (T.setTop g) [] mk a).1 (T'.setTop { g with pc := g.pc + len, stack := v.toList ++ g.stack })) ∨
       (∃ x, o = .threw x ∧ Steps p.tables e below (doInvoke e (T.setTop g) [] mk a).1 ((T'.setTop g).pushFrame (.throwing x)))) := by
  have h : At T g.method c below := by rw [hg]; exact X.here
  have hpre : (headSpec bw rm).pre.before a T = true := atoms_intro fun w hw => bw_warm hw X.warmed (hts w hw)
  have happ : (headSpec bw rm).appliesLoose y e.platform (T.calling g mk a) = true :=
    Spec.appliesLoose_calling (g := g) h hdg hn hkY hiY (X.room_calling (g := g) (R' := rm) hsize hmY hcY hfr (by rw [hlY]; omega) hc hs) hpre
  obtain ⟨mid, hmid⟩ := h.above
  have hfr2 : (T.setTop g).frames = (.java g :: mid) ++ below := by rw [State.frames_setTop' g h.top, hmid]; rfl
  obtain ⟨o, s₂, hsteps, -, hend, hq, L, hfe, hL⟩ := Steps.callFree hM p X.admits X.cas X.clock (acts := []) hfr2 happ (hbl _ _ _ _ hP) trivial
  rw [State.frames_setTop' g h.top] at hend
  obtain ⟨hov, hW₂, e2, q2, q3, q4, q5, q6⟩ := id hfe
  have hW' : T.WarmedH s₂.vm := hW₂
  have e3 : s₂ = ({ (T.calling g mk a).setFrames s₂.frames with heap := s₂.heap, slotsUsed := s₂.slotsUsed } : State).setVm s₂.vm := by
    have h1 : s₂ = ({ s₂ with vm := (T.calling g mk a).vm } : State).setVm s₂.vm := rfl
    rw [e2] at h1
    exact h1
  obtain ⟨g₀, hg0⟩ := Option.isSome_iff_exists.mp h.top
  obtain ⟨r, hr⟩ := State.topJava?_eq_some.mp hg0
  have hr' : (({ T with heap := s₂.heap, slotsUsed := s₂.slotsUsed } : State).setVm s₂.vm).frames = .java g₀ :: r := hr
  have hsame : T.sameButNew ({ T with heap := s₂.heap, slotsUsed := s₂.slotsUsed } : State) L rm.cells rm.slots := by
    refine ⟨?_, q2, q3, q4, q5, q6⟩
    obtain ⟨t, ht, -⟩ := State.frames_cons hr
    show ({ T with heap := s₂.heap, slotsUsed := s₂.slotsUsed } : State) = { T.setFrames T.frames with heap := s₂.heap, slotsUsed := s₂.slotsUsed }
    rw [State.setFrames_self ht]
  have hX' : Stand p l e R s m args below meth c (({ T with heap := s₂.heap, slotsUsed := s₂.slotsUsed } : State).setVm s₂.vm) (locs ++ L) (k + rm.cells) (n + rm.slots) :=
    ⟨X.admits, X.cas, X.clock, X.frames, X.room, X.hears, X.method, X.code, (X.here.setHeapUsed s₂.heap s₂.slotsUsed).setVm hW'.alike, X.tail, State.WarmedH.trans X.warmed hW', X.limits, X.bytes, X.same.trans (hsame.setVm s.vm)⟩
  refine ⟨o, s₂, _, L, hX', hL, rfl, rfl, hq, ?_⟩
  rcases hov with ⟨v, rfl⟩ | ⟨x, rfl⟩
  · refine Or.inl ⟨v, rfl, ?_⟩
    obtain ⟨c₂, i₂, len₂, hc₂, hd₂, hf₂⟩ := hend
    have hcc : c₂ = c := by
      have h1 : s₂.code? g.method = T.code? g.method := by rw [State.code?_eq, State.code?_eq, hW'.alike.method?]
      exact Option.some.inj (hc₂.symm.trans (h1.trans h.code))
    subst hcc
    have hlen : len₂ = len := by rw [hdg] at hd₂; cases hd₂; rfl
    subst hlen
    have hs₂ : s₂ = (({ T with heap := s₂.heap, slotsUsed := s₂.slotsUsed } : State).setVm s₂.vm).setTop { g with pc := g.pc + len₂, stack := v.toList ++ g.stack } := by
      refine e3.trans ?_
      rw [hf₂, State.calling_eq h.top, State.setFrames_setFrames, State.setTop_of_frames _ hr', hr]
      rfl
    rw [← hs₂]
    exact hsteps
  · refine Or.inr ⟨x, rfl, ?_⟩
    have hf₂ : s₂.frames = .throwing x :: .java g :: T.frames.tail := hend
    have hs₂ : s₂ = ((({ T with heap := s₂.heap, slotsUsed := s₂.slotsUsed } : State).setVm s₂.vm).setTop g).pushFrame (.throwing x) := by
      refine e3.trans ?_
      rw [hf₂, State.calling_eq h.top, State.setFrames_setFrames, State.pushFrame, State.frames_setTop _ hr', State.setTop_of_frames _ hr', State.setFrames_setFrames, hr]
      rfl
    rw [← hs₂]
    exact hsteps
/-- what the rows of calls have in common: the callee's contract, met at the caller's world -/
theorem bcallW {D : va_G} {cl : List vw_C} {tys : List (ClassId × FieldType)} {p : Program} {l : Launch} {e : Env} {R : Room} {s : State} {m : MethodId} {args : Array Value} {below : List Frame} {meth : Method} {c : Code} {A : Nat → Prop} {Q : State → Prop} {own : String} {cc : ByteArray} {nL : Nat} {ret : Option FieldType} {nm : String} {tb : bTb}
    (G : bG D cl tys (p, l, e, R, s, m, args, below, meth, c, A, Q) own cc nL ret nm tb R) {y : MethodName} {b' : ByteArray} {n' : Nat} {r' : Option FieldType} {tb' : bTb} (hy : bcode y b' n' r' tb') (hini : Cond.initialized y.cls ∈ bw) {rm : Room} {ws : va_W} {av : List Value} {post : bo → va_W → Prop} (hM : bC D cl tys y rm ws av post)
    (hR : rm.frames + 1 ≤ R.frames ∧ 8 + (n' + 11) + rm.locals ≤ R.locals) {k n pc : Nat} (hcs : k + rm.cells ≤ R.cells ∧ n + rm.slots ≤ R.slots) {lv : List (Nat × Value)} {rest : List Value} (hsum : (rest.map fun v => v.category).sum ≤ 8) {ig : Instr} (hd : decode cc pc = .ok (ig, 3))
    (kr : ∀ (v : Option Value) (ws' : va_W), post (.inl v) ws' → bV D cl (p, l, e, R, s, m, args, below, meth, c, A, Q) nL ws' (k + rm.cells) (n + rm.slots) (pc + 3) lv (v.toList ++ rest))
    (kt : ∀ (E : String) (ws' : va_W), post (.inr E) ws' → bT D cl (p, l, e, R, s, m, args, below, meth, c, A, Q) nL ws' (k + rm.cells) (n + rm.slots) pc lv E)
    {H : Heap} {locs : List Loc} {ls : Array Slot} (hP : va_P D cl ws H) (hDw : va_D A ws) (hS : va_S A s.heap H locs) (hl : lv_has ls nL lv) {T : State} (hT : T.heap = H) (X : Stand p l e R s m args below meth c T locs k n) {mk : MethodId} (hmk : s.methodNamed? y = some mk) :
    ∃ t, Steps p.tables e below (doInvoke e (T.setTop (F0 m pc ls rest)) [] mk av.toArray).1 t ∧ Q t := by
  obtain ⟨hx, hb, hml, hown, hts, hK, hA, hst, hX, hlk, hret, hnm, htab, -, htr⟩ := G
  obtain ⟨mk', methY, cY, q0, q1, q2, -, q4, -, -, -, -⟩ := hy.spec hts
  cases hmk.symm.trans q0
  obtain ⟨kY, hkY, -⟩ := className_of_methodNamed hmk
  have hiY : kY.init = .initialized := Cond.initialized_spec (findClass_of_methodNamed hmk) hkY (hts _ hini)
  obtain ⟨kY', hkY', heY⟩ := X.warmed.alike.2.2 _ _ hkY
  have hfree : ∀ q, va_A ws H.size q → A q := by
    intro q hq
    rcases hq with ⟨j, e1, hj⟩ | hq
    · exact hDw.2 j _ hj
    · exact hA q (Nat.le_trans hS.1 hq)
  have hstat : ∀ (a : Nat) (cell : Cell), s.heap[a]? = some cell → cell.vm.isStatics = true → T.heap[a]? = some cell := by
    intro a cell h1 h2
    have h3 : ¬ A a := fun h => by rw [hst a cell h h1] at h2; cases h2
    rw [hT, hS.2.1 a (Array.getElem?_eq_some_iff.mp h1).1 h3]
    exact h1
  have hPc : bP D cl tys ws H.size av av.toArray T := ⟨rfl, by rw [hT], by rw [hT]; exact hP, va_K.moved X.warmed.alike hK, hDw.weaken (fun _ _ _ _ => trivial), bX.go X.warmed hstat hX⟩
  obtain ⟨o, t, T', L, X', hL, e1, e2, ⟨r, ws1, ho, hpost, hP1, hD1, hF1⟩, hcase⟩ := bcall X (hM l htr H.size) bP.blind hts (X.named hmk) (by rw [X.warmed.alike.method?]; exact q1) q2 q4 hkY' (by rw [heY]; exact hiY) hR.1 hR.2 hcs.1 hcs.2
    (g := F0 m pc ls rest) rfl (hl.1.trans hml.symm) (by rw [hb]; exact hd) (lv_room hsum) hPc
  have hT1 : (T.calling (F0 m pc ls rest) mk av.toArray).heap = H := hT
  have hS1 : va_S A s.heap T'.heap (locs ++ L) := by
    refine ⟨Nat.le_trans hS.1 (by rw [e1]; exact hT1 ▸ hF1.1), fun q h1 h2 => ?_, fun q hq => ?_⟩
    · have h3 : q < H.size := Nat.lt_of_lt_of_le h1 hS.1
      rw [e1, hF1.2 q (by rw [hT1]; exact h3) (fun z => h2 (hfree q z)), hT1]
      exact hS.2.1 q h1 h2
    · rcases List.mem_append.mp hq with h | h
      · exact hS.2.2 q h
      · exact hfree _ (hL q h)
  have hP2 : va_P D cl ws1 T'.heap := by rw [e1]; exact hP1
  have hD2 : va_D A ws1 := hD1.weaken (fun _ q _ h => hfree q.1 h)
  rcases hcase with ⟨v, rfl, hgo⟩ | ⟨x, rfl, hgo⟩
  · cases r with
    | inl v' =>
      cases ho
      obtain ⟨t2, a1, b1⟩ := kr v ws1 hpost T'.heap (locs ++ L) ls hP2 hD2 hS1 hl T' rfl X'
      exact ⟨t2, hgo.trans a1, b1⟩
    | inr E => obtain ⟨a, ce, h1, -⟩ := ho; cases h1
  · cases r with
    | inl v' => cases ho
    | inr E =>
      obtain ⟨a, ce, h1, h2, h3, h4, h5⟩ := ho
      cases h1
      obtain ⟨t2, a1, b1⟩ := kt E ws1 hpost T'.heap (locs ++ L) ls rest x ce hP2 hD2 hS1 hl (Nat.le_trans hS.1 h2) (by rw [e1]; exact h3) h4 (by rw [← e2, X'.warmed.alike.findClass] at h5; exact h5) T' rfl X'
      exact ⟨t2, hgo.trans a1, b1⟩
/-- a walk seen from a start that has the heap as it is now -/
theorem bre {p : Program} {l : Launch} {e : Env} {R : Room} {s : State} {m : MethodId} {args : Array Value} {below : List Frame} {meth : Method} {c : Code} {T : State} {locs : List Loc} {k n : Nat} (X : Stand p l e R s m args below meth c T locs k n) (hk : k ≤ R.cells) (hn : n ≤ R.slots) :
    Stand p l e { R with cells := R.cells - k, slots := R.slots - n } ({ s with heap := T.heap, slotsUsed := T.slotsUsed } : State) m args below meth c T [] 0 0 := by
  have h1 := X.same.1
  refine ⟨X.admits, X.cas, X.clock, X.frames, ?_, X.hears, X.method, X.code, X.here, X.tail, X.warmed, X.limits, X.bytes, ?_⟩
  · have r0 := X.room
    have b := X.book
    have hs := X.heapSize
    have hu := X.used
    simp only [State.hasRoom, Bool.and_eq_true, decide_eq_true_eq] at r0 ⊢
    refine ⟨⟨⟨⟨r0.1.1.1.1, r0.1.1.1.2⟩, ?_⟩, ?_⟩, b⟩
    · show T.heap.size + (R.cells - k) ≤ _
      have := r0.1.1.2
      omega
    · show T.slotsUsed + (R.slots - n) ≤ _
      have := r0.1.2
      omega
  · refine ⟨h1, Nat.le_refl _, Nat.le_refl _, ?_, ?_, ?_⟩
    · show T.slotsUsed = T.slotsUsed + ((T.heap.toList.drop T.heap.size).map (·.slots.size)).sum
      rw [← Array.length_toList, List.drop_length]
      rfl
    · show ((T.heap.toList.drop T.heap.size).map (·.slots.size)).sum ≤ 0
      rw [← Array.length_toList, List.drop_length]
      exact Nat.le_refl _
    · intro a c hc
      exact ⟨c, hc, rfl, rfl, fun i _ => rfl⟩
section BVC
variable {D : va_G} {cl : List vw_C} {tys : List (ClassId × FieldType)} {Γ : bCtx} {own : String} {cc : ByteArray} {nL : Nat} {ret : Option FieldType} {nm : String} {tb : bTb} {rm : Room} {ws ws0 : va_W} {k n pc : Nat} {lv : List (Nat × Value)} {rest st : List Value}
/-- what is known of a method: its code; its class is initialised; how many parameters -/
def bMd (y : MethodName) (b : ByteArray) (nl : Nat) (r : Option FieldType) (tb : bTb) (np : Nat) : Prop := bcode y b nl r tb ∧ Cond.initialized y.cls ∈ bw ∧ (y.cls ≠ "java/lang/invoke/MethodHandle" ∧ y.cls ≠ "java/lang/invoke/VarHandle") ∧ (parseMethodDescriptor y.desc).map (fun d => d.parameters.length) = some np
theorem bMd.len {y : MethodName} {b : ByteArray} {nl : Nat} {r : Option FieldType} {tb : bTb} {np : Nat} (h : bMd y b nl r tb np) {sig : MethodDescriptor} (hs : parseMethodDescriptor y.desc = some sig) : np = sig.parameters.length := by
  have h2 := h.2.2.2
  rw [hs] at h2
  exact (Option.some.inj h2).symm
theorem bV.callV (G : bG D cl tys Γ own cc nL ret nm tb rm) {y : MethodName} {b' : ByteArray} {n' np : Nat} {r' : Option FieldType} {tb' : bTb} (hy : bMd y b' n' r' tb' np) (hw2 : Cond.instanceMethod y ∈ bw) (hw3 : Cond.selects y.cls y y ∈ bw) {idx : Nat} (hw : Cond.methodLink own idx y ∈ bw)
    {rm' : Room} {a : Nat} {As : List Value} {post : bo → va_W → Prop} (hM : bC D cl tys y rm' ws (.ref a :: As) post) (q0 : Nat) {ci : Nat} {fs : List Value} {q : vw_C} (he : ws[q0]? = some (a, .inr (ci, fs))) (hc : cl[ci]? = some q) (hq : q.1 = y.cls) (hnp : As.length = np) (hst0 : st = As.reverse ++ .ref a :: rest)
    (hR : rm'.frames + 1 ≤ rm.frames ∧ 8 + (n' + 11) + rm'.locals ≤ rm.locals) (hcs : k + rm'.cells ≤ rm.cells ∧ n + rm'.slots ≤ rm.slots) (hsum : (rest.map fun v => v.category).sum ≤ 8) (hd : decode cc pc = .ok (.invokevirtual idx, 3))
    (kr : ∀ (v : Option Value) (ws' : va_W), post (.inl v) ws' → bV D cl Γ nL ws' (k + rm'.cells) (n + rm'.slots) (pc + 3) lv (v.toList ++ rest))
    (kt : ∀ (E : String) (ws' : va_W), post (.inr E) ws' → bT D cl Γ nL ws' (k + rm'.cells) (n + rm'.slots) pc lv E) : bV D cl Γ nL ws k n pc lv st := by
  obtain ⟨p, l, e, R, s, m, args, below, meth, c, A, Q⟩ := Γ
  have G' := id G
  obtain ⟨hx, hb, hml, hown, hts, hK, hA, hst, hX, hlk, hret, hnm, htab, hR0, htr⟩ := G
  subst hst0; subst hR0
  intro H locs ls hP hD hS hl T hT X
  obtain ⟨mk, methM, hnamed, hmethM, hstM, habM⟩ := Cond.instanceMethod_spec (hts _ hw2)
  obtain ⟨mk', meth', c', q0', q1', q2', -, -, -, -, -, hsig⟩ := hy.1.spec hts
  cases hnamed.symm.trans q0'
  cases hmethM.symm.trans q1'
  obtain ⟨cellB, hcB, hoB, hclB⟩ := va_recv hK hP hc he
  obtain ⟨c2, r2, m2, e1, e2, e3, e4, kP, hkP, hkPi⟩ := Cond.selects_spec (hts _ hw3)
  rw [hq] at hclB
  cases hclB.symm.trans e1
  cases (State.methodFound?_of_named hnamed hy.2.2.1).symm.trans e2
  cases hnamed.symm.trans e3
  have hselP : selectMethod e.platform s.vm cellB.cls mk = .method mk := by rw [Launch.admits_selectMethod X.admits]; exact e4
  obtain ⟨vm₁, X₁, hstep₁⟩ := X.invokevirtual hx hown (hts _ hw) hnamed hmethM hstM hkP hkPi hy.2.2.1 (a := a) (cell := cellB) (by rw [hT]; exact hcB) (fun z h => by rw [h] at hoB; cases hoB) hselP hmethM habM hkP hkPi (g := F0 m pc ls (As.reverse ++ .ref a :: rest)) rfl (argsL := As) (rest := rest) (hnp.trans (hy.len hsig)) rfl (by rw [hb]; exact hd)
  obtain ⟨t, a1, b1⟩ := bcallW G' hy.1 hy.2.1 hM hR hcs hsum hd kr kt hP hD hS hl (T := T.setVm vm₁) hT X₁ hnamed
  exact ⟨t, hstep₁ _ (fun acts => by rw [doInvoke_state]; exact a1), b1⟩
theorem bV.callS (G : bG D cl tys Γ own cc nL ret nm tb rm) {y : MethodName} {b' : ByteArray} {n' np : Nat} {r' : Option FieldType} {tb' : bTb} (hy : bMd y b' n' r' tb' np) (hw2 : Cond.static y ∈ bw) {idx : Nat} (hw : Cond.methodLink own idx y ∈ bw)
    {rm' : Room} {As : List Value} {post : bo → va_W → Prop} (hM : bC D cl tys y rm' ws As post) (hnp : As.length = np) (hst0 : st = As.reverse ++ rest)
    (hR : rm'.frames + 1 ≤ rm.frames ∧ 8 + (n' + 11) + rm'.locals ≤ rm.locals) (hcs : k + rm'.cells ≤ rm.cells ∧ n + rm'.slots ≤ rm.slots) (hsum : (rest.map fun v => v.category).sum ≤ 8) (hd : decode cc pc = .ok (.invokestatic idx, 3))
    (kr : ∀ (v : Option Value) (ws' : va_W), post (.inl v) ws' → bV D cl Γ nL ws' (k + rm'.cells) (n + rm'.slots) (pc + 3) lv (v.toList ++ rest))
    (kt : ∀ (E : String) (ws' : va_W), post (.inr E) ws' → bT D cl Γ nL ws' (k + rm'.cells) (n + rm'.slots) pc lv E) : bV D cl Γ nL ws k n pc lv st := by
  obtain ⟨p, l, e, R, s, m, args, below, meth, c, A, Q⟩ := Γ
  have G' := id G
  obtain ⟨hx, hb, hml, hown, hts, hK, hA, hst, hX, hlk, hret, hnm, htab, hR0, htr⟩ := G
  subst hst0; subst hR0
  intro H locs ls hP hD hS hl T hT X
  obtain ⟨mk, methM, cM, hnamed, hmethM, -, -, -, -, -, -, hsig⟩ := hy.1.spec hts
  have hstatic : methM.isStatic = true := Cond.static_spec hnamed hmethM (hts _ hw2)
  obtain ⟨kP, hkP, -⟩ := className_of_methodNamed hnamed
  have hinitP : kP.init = .initialized := Cond.initialized_spec (findClass_of_methodNamed hnamed) hkP (hts _ hy.2.1)
  obtain ⟨vm₁, X₁, hstep₁⟩ := X.invokestatic hx hown (hts _ hw) hnamed hmethM hstatic hkP hinitP hy.2.2.1 (g := F0 m pc ls (As.reverse ++ rest)) rfl (argsL := As) (rest := rest) (hnp.trans (hy.len hsig)) rfl (by rw [hb]; exact hd)
  obtain ⟨t, a1, b1⟩ := bcallW G' hy.1 hy.2.1 hM hR hcs hsum hd kr kt hP hD hS hl (T := T.setVm vm₁) hT X₁ hnamed
  exact ⟨t, hstep₁ _ (fun acts => by rw [doInvoke_state]; exact a1), b1⟩
theorem bV.callSN (G : bG D cl tys Γ own cc nL ret nm tb rm) {y : MethodName} {b' : ByteArray} {n' np : Nat} {r' : Option FieldType} {tb' : bTb} (hy : bMd y b' n' r' tb' np) (hw2 : Cond.static y ∈ bw) {idx : Nat} {host : String} (hw : (own, idx, y, host) ∈ bnests)
    {rm' : Room} {As : List Value} {post : bo → va_W → Prop} (hM : bC D cl tys y rm' ws As post) (hnp : As.length = np) (hst0 : st = As.reverse ++ rest)
    (hR : rm'.frames + 1 ≤ rm.frames ∧ 8 + (n' + 11) + rm'.locals ≤ rm.locals) (hcs : k + rm'.cells ≤ rm.cells ∧ n + rm'.slots ≤ rm.slots) (hsum : (rest.map fun v => v.category).sum ≤ 8) (hd : decode cc pc = .ok (.invokestatic idx, 3))
    (kr : ∀ (v : Option Value) (ws' : va_W), post (.inl v) ws' → bV D cl Γ nL ws' (k + rm'.cells) (n + rm'.slots) (pc + 3) lv (v.toList ++ rest))
    (kt : ∀ (E : String) (ws' : va_W), post (.inr E) ws' → bT D cl Γ nL ws' (k + rm'.cells) (n + rm'.slots) pc lv E) : bV D cl Γ nL ws k n pc lv st := by
  obtain ⟨p, l, e, R, s, m, args, below, meth, c, A, Q⟩ := Γ
  have G' := id G
  obtain ⟨hx, hb, hml, hown, hts, hK, hA, hst, hX, hlk, hret, hnm, htab, hR0, htr⟩ := G
  subst hst0; subst hR0
  intro H locs ls hP hD hS hl T hT X
  obtain ⟨mk, methM, cM, hnamed, hmethM, -, -, -, -, -, -, hsig⟩ := hy.1.spec hts
  have hstatic : methM.isStatic = true := Cond.static_spec hnamed hmethM (hts _ hw2)
  obtain ⟨kP, hkP, -⟩ := className_of_methodNamed hnamed
  have hinitP : kP.init = .initialized := Cond.initialized_spec (findClass_of_methodNamed hnamed) hkP (hts _ hy.2.1)
  obtain ⟨vm₁, X₁, hstep₁⟩ := X.invokestaticNest hx hown (va_Nw.use (A := args) rfl (hX.2.2.2.2 _ hw)) hnamed hmethM hstatic hkP hinitP hy.2.2.1 (g := F0 m pc ls (As.reverse ++ rest)) rfl (argsL := As) (rest := rest) (hnp.trans (hy.len hsig)) rfl (by rw [hb]; exact hd)
  obtain ⟨t, a1, b1⟩ := bcallW G' hy.1 hy.2.1 hM hR hcs hsum hd kr kt hP hD hS hl (T := T.setVm vm₁) hT X₁ hnamed
  exact ⟨t, hstep₁ _ (fun acts => by rw [doInvoke_state]; exact a1), b1⟩
theorem bV.callI (G : bG D cl tys Γ own cc nL ret nm tb rm) {y : MethodName} {b' : ByteArray} {n' np : Nat} (hy : bMd y b' n' none [] np) (hyn : y.name = "<init>") (hw2 : Cond.instanceMethod y ∈ bw) (hw3 : Cond.code y b' n' none ∈ bw) {idx : Nat} (hw : Cond.methodLink own idx y ∈ bw)
    {rm' : Room} {a : Nat} {As : List Value} {post : bo → va_W → Prop} (hM : bC D cl tys y rm' ws (.ref a :: As) post) (hnp : As.length = np) (hst0 : st = As.reverse ++ .ref a :: rest)
    (hR : rm'.frames + 1 ≤ rm.frames ∧ 8 + (n' + 11) + rm'.locals ≤ rm.locals) (hcs : k + rm'.cells ≤ rm.cells ∧ n + rm'.slots ≤ rm.slots) (hsum : (rest.map fun v => v.category).sum ≤ 8) (hd : decode cc pc = .ok (.invokespecial idx, 3))
    (kr : ∀ (v : Option Value) (ws' : va_W), post (.inl v) ws' → bV D cl Γ nL ws' (k + rm'.cells) (n + rm'.slots) (pc + 3) lv (v.toList ++ rest))
    (kt : ∀ (E : String) (ws' : va_W), post (.inr E) ws' → bT D cl Γ nL ws' (k + rm'.cells) (n + rm'.slots) pc lv E) : bV D cl Γ nL ws k n pc lv st := by
  obtain ⟨p, l, e, R, s, m, args, below, meth, c, A, Q⟩ := Γ
  have G' := id G
  obtain ⟨hx, hb, hml, hown, hts, hK, hA, hst, hX, hlk, hret, hnm, htab, hR0, htr⟩ := G
  subst hst0; subst hR0
  intro H locs ls hP hD hS hl T hT X
  have hpl : e.platform.magicAccessors = ({} : Platform).magicAccessors := by rw [X.admits.platform]
  obtain ⟨mk, methM, cM, kP, vm₁, hnamed, hmethM, hcodeM, -, hlocalsM, -, hkP, -, hW₁, hstep₁⟩ := Steps.initColdArgs (e := e) X.here hx X.warmed hpl hown hyn hy.2.2.1 (hts _ hw) (hts _ hw2) (hts _ hw3) (f := F0 m pc ls (As.reverse ++ .ref a :: rest)) rfl (argsL := As) (rest := rest) (a := a) (fun sig h => hnp.trans (hy.len h)) rfl (by rw [hb]; exact hd)
  have X₁ := X.noted hW₁
  obtain ⟨t, a1, b1⟩ := bcallW G' hy.1 hy.2.1 hM hR hcs hsum hd kr kt hP hD hS hl (T := T.setVm vm₁) hT X₁ hnamed
  exact ⟨t, hstep₁ _ (fun acts => by rw [doInvoke_state]; exact a1), b1⟩
/-- throw new E("..") -/
theorem bV.throwNew (G : bG D cl tys Γ own cc nL ret nm tb rm) {post : bo → va_W → Prop} (E0 : bE D cl Γ ws0 post rm) {E tx : String} {names : List String} {ia ib ic : Nat} (hfit : Bundle.fit E = true) (hnames : ∀ z ∈ names, Bundle.fit z = true) (hat : ∀ w ∈ Bundle.ownAtoms own ic E names, w ∈ bw ∨ w = .laysStatic Bundle.tN "UNASSIGNED_STACK" Bundle.steD ∨ w = .laysStatic Bundle.tN "SUPPRESSED_SENTINEL" Bundle.listD ∨ w = .isRef (.static Bundle.tN "UNASSIGNED_STACK" Bundle.steD) ∨ w = .isRef (.static Bundle.tN "SUPPRESSED_SENTINEL" Bundle.listD))
    (hw : Cond.classLink own ia E ∈ bw) (hw2 : Cond.instantiable E 6 ∈ bw) (hw3 : Cond.initialized E ∈ bw) (hstr : (own, ib, tx) ∈ bstrs)
    (hc : k + 1 ≤ rm.cells) (hs : n + 6 ≤ rm.slots) (hfr : names.length + 3 < rm.frames) (hlo : (rest.map fun v => v.category).sum + 1 + (13 * (names.length + 1) + 42) ≤ rm.locals) (htb : (tableOf tb).all (fun x => !covers x (pc + 9)) = true)
    (hd0 : decode cc pc = .ok (.new ia, 3)) (hd3 : decode cc (pc + 3) = .ok (.dup, 1)) (hd4 : decode cc (pc + 4) = .ok (.ldc ib, 2)) (hd6 : decode cc (pc + 6) = .ok (.invokespecial ic, 3)) (hd9 : decode cc (pc + 9) = .ok (.athrow, 1))
    (hp : post (.inr E) ws) : bV D cl Γ nL ws k n pc lv rest := by
  obtain ⟨p, l, e, R, s0, m, args, below, meth, c, A, Q⟩ := Γ
  obtain ⟨hx, hb, hml, hown0, hts0, hK, hA, hst, hX0, hlk, hret, hnm, htab, hR0, htr⟩ := G
  obtain ⟨rfl, rfl⟩ := E0
  subst hR0
  intro H locs ls hP hD hS hl T hT X0
  -- the same walk, seen from a start that has the heap as it is now
  have X := bre X0 (by omega) (by omega)
  have hstat : ∀ (a : Nat) (cell : Cell), s0.heap[a]? = some cell → cell.vm.isStatics = true → T.heap[a]? = some cell := by
    intro a cell h1 h2
    have h3 : ¬ va_A ws0 s0.heap.size a := fun h => by rw [hst a cell h h1] at h2; cases h2
    rw [hT, hS.2.1 a (Array.getElem?_eq_some_iff.mp h1).1 h3]
    exact h1
  obtain ⟨s, hse⟩ : ∃ s : State, s = { s0 with heap := T.heap, slotsUsed := T.slotsUsed } := ⟨_, rfl⟩
  rw [← hse] at X
  have hWs : s0.WarmedH s.vm := by rw [hse]; exact State.WarmedH.refl s0
  have hts : ∀ w ∈ bw, w.before args s = true := fun w h => bw_warm h hWs (hts0 w h)
  have hX : bX s := bX.go hWs (fun a cell h1 h2 => by rw [hse]; exact hstat a cell h1 h2) hX0
  have hown : s.vm.findClass own = some m.cls := by rw [hse]; exact hown0
  have hsh : s.heap = T.heap := by rw [hse]
  have htr' : e.platform.stackTraces = false := by rw [Example.NoTraceControls.admits_follows X.admits]; exact htr
  obtain ⟨str, hstr1, hstr2⟩ := hX.2.2.1 _ hstr
  obtain ⟨vm₁, cX, kX, hfX, hkX, -, -, X₁, st1⟩ := X.newCold hx hown (hts _ hw) (hts _ hw2) (hts _ hw3) (g := F0 m pc ls rest) rfl (by rw [hb]; exact hd0) (by show 0 + 1 ≤ R.cells - k; omega) (by show 0 + 6 ≤ R.slots - n; omega)
  generalize hT1 : (T.setVm vm₁).pushCell { cls := cX, slots := kX.instanceTypes.map defaultValue, vm := .none } = T1 at X₁ st1
  have hcellA : T1.heap[T.heap.size]? = some (freshCell cX kX) := by rw [← hT1]; exact State.heap_pushCell_size _ _
  have hall : ∀ w ∈ Bundle.ownAtoms own ic E names, w.before args s = true := by
    intro w hw0
    rcases hat w hw0 with h | rfl | rfl | rfl | rfl
    · exact hts _ h
    · exact hX.1.1
    · exact hX.2.1.1
    · exact hX.1.2
    · exact hX.2.1.2
  obtain ⟨U, hsteps, hrun, hend, hW, hsame, ce, hce, K⟩ := X₁.ctorThrowS hx htr' (own := own) (cls := E) (names := names) (ic := ic) hown hfit hnames hall
    (fun x hx0 => by cases hx0) hfX hkX hcellA (by rw [hsh]; exact Nat.le_refl _) (msg := .ref str) rfl
    (g := F0 m (pc + 6) ls (.ref str :: .ref T.heap.size :: .ref T.heap.size :: rest)) rfl (hl.1.trans hml.symm) rfl rfl (rest := rest) rfl
    (by rw [hb]; exact hd6) (by rw [hb]; exact hd9) (outside_of_table htab htb) hfr (by show 2 * 0 + ((Value.ref T.heap.size :: rest).map fun v => v.category).sum + _ ≤ R.locals; simp only [List.map_cons, List.sum_cons, Value.category]; omega) hlk
  have hold : ∀ (q : Nat) (cell : Cell), H[q]? = some cell → U.heap[q]? = some cell := fun q cell h => hsame.old_cell (by rw [hsh, hT]; exact h)
  have hold2 : ∀ q : Nat, q < H.size → U.heap[q]? = H[q]? := by
    intro q hq
    rw [hold q H[q] (Array.getElem?_eq_getElem hq), Array.getElem?_eq_getElem hq]
  have hWU : s0.WarmedH U.vm := State.WarmedH.trans hWs hW
  have hsz : H.size ≤ U.heap.size := by
    have := hsame.2.1
    rw [hsh, hT] at this
    exact this
  refine ⟨U, ?_, .threw T.heap.size, hrun, hend, ⟨.inr E, ws, ⟨T.heap.size, ce, rfl, by rw [hT]; exact hS.1, hce, by rw [K.vm]; rfl, by rw [hW.alike.findClass]; exact K.cls⟩, hp, hP.kept (fun j q hq => hold2 q.1 (hP j q hq).lt), hD, Nat.le_trans hS.1 hsz, fun q h1 h2 => ?_⟩, locs ++ [], ⟨Or.inr ⟨_, rfl⟩, hWU, ?_⟩, by rw [List.append_nil]; exact hS.2.2⟩
  · refine st1 _ ?_
    show Steps p.tables e below (T1.setTop (F0 m (pc + 3) ls (.ref T.heap.size :: rest))) _
    jvm_step X₁.here [X₁.here.top, hx, hb, hd3, Value.category]
    exact X₁.ldcString hx hown (text := tx) (a := str) hstr1 hstr2 (g := F0 m (pc + 4) ls (.ref T.heap.size :: .ref T.heap.size :: rest)) rfl (by rw [hb]; exact hd4) _ hsteps
  · rw [hold2 q (Nat.lt_of_lt_of_le h1 hS.1)]
    exact hS.2.1 q h1 h2
  · have h6 : (T.setVm s0.vm).sameButNew ({ U with vm := s0.vm } : State) [] 1 6 := by
      have hsame' : s.sameButNew ({ U with vm := s.vm } : State) [] (0 + 1) (0 + 6) := hsame
      rw [hse] at hsame'
      obtain ⟨g1, g2⟩ := hsame'
      refine ⟨?_, g2⟩
      have g3 := X0.same.1
      rw [g3]
      show ({ U with vm := s0.vm } : State) = { (s0.setFrames (T.setVm s0.vm).frames).setFrames U.frames with heap := U.heap, slotsUsed := U.slotsUsed }
      rw [State.setFrames_setFrames]
      exact g1
    exact (X0.same.trans h6).mono hc hs
end BVC
end
