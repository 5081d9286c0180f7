section
-- ===== PART A: goes FIRST, ahead of the names: the tables' words, and 'selects' of the private methods out of them =====
/-- a private method of a class that the tables say can be made, by its rows of tables_1 -/
def lw_okq (q : MethodName × Nat) : Prop := (q.1.cls ≠ "java/lang/invoke/MethodHandle" ∧ q.1.cls ≠ "java/lang/invoke/VarHandle") ∧ Cond.instantiable q.1.cls q.2 ∈ tables_1 ∧ Cond.privateMethod q.1 ∈ tables_1 ∧ Cond.instanceMethod q.1 ∈ tables_1
theorem lw_p0 : lw_okq (⟨"BoardStore", "requireRunning", "()V"⟩, 9) := ⟨⟨by decide +kernel, by decide +kernel⟩, List.mem_of_getElem? (i := 14) (by decide +kernel), List.mem_of_getElem? (i := 113) (by decide +kernel), List.mem_of_getElem? (i := 114) (by decide +kernel)⟩
theorem lw_p1 : lw_okq (⟨"java/lang/Throwable", "fillInStackTrace", "(I)Ljava/lang/Throwable;"⟩, 6) := ⟨⟨by decide +kernel, by decide +kernel⟩, List.mem_of_getElem? (i := 155) (by decide +kernel), List.mem_of_getElem? (i := 153) (by decide +kernel), List.mem_of_getElem? (i := 154) (by decide +kernel)⟩
theorem lw_p2 : lw_okq (⟨"BoardStore", "equalOfFed", "()I"⟩, 9) := ⟨⟨by decide +kernel, by decide +kernel⟩, List.mem_of_getElem? (i := 14) (by decide +kernel), List.mem_of_getElem? (i := 204) (by decide +kernel), List.mem_of_getElem? (i := 205) (by decide +kernel)⟩
theorem lw_p3 : lw_okq (⟨"BoardStore", "takeNewBlock", "()I"⟩, 9) := ⟨⟨by decide +kernel, by decide +kernel⟩, List.mem_of_getElem? (i := 14) (by decide +kernel), List.mem_of_getElem? (i := 229) (by decide +kernel), List.mem_of_getElem? (i := 230) (by decide +kernel)⟩
theorem lw_p4 : lw_okq (⟨"BoardStore", "closeFed", "()I"⟩, 9) := ⟨⟨by decide +kernel, by decide +kernel⟩, List.mem_of_getElem? (i := 14) (by decide +kernel), List.mem_of_getElem? (i := 250) (by decide +kernel), List.mem_of_getElem? (i := 251) (by decide +kernel)⟩
theorem lw_p5 : lw_okq (⟨"BoardStore", "takeOldBlock", "(I)I"⟩, 9) := ⟨⟨by decide +kernel, by decide +kernel⟩, List.mem_of_getElem? (i := 14) (by decide +kernel), List.mem_of_getElem? (i := 262) (by decide +kernel), List.mem_of_getElem? (i := 263) (by decide +kernel)⟩
theorem lw_p6 : lw_okq (⟨"BoardStore", "requireVersion", "(I)V"⟩, 9) := ⟨⟨by decide +kernel, by decide +kernel⟩, List.mem_of_getElem? (i := 14) (by decide +kernel), List.mem_of_getElem? (i := 285) (by decide +kernel), List.mem_of_getElem? (i := 286) (by decide +kernel)⟩
theorem lw_p7 : lw_okq (⟨"BoardStore", "requireBlock", "(I)V"⟩, 9) := ⟨⟨by decide +kernel, by decide +kernel⟩, List.mem_of_getElem? (i := 14) (by decide +kernel), List.mem_of_getElem? (i := 309) (by decide +kernel), List.mem_of_getElem? (i := 310) (by decide +kernel)⟩
theorem lw_p8 : lw_okq (⟨"BoardStore", "hasBlock", "(II)Z"⟩, 9) := ⟨⟨by decide +kernel, by decide +kernel⟩, List.mem_of_getElem? (i := 14) (by decide +kernel), List.mem_of_getElem? (i := 314) (by decide +kernel), List.mem_of_getElem? (i := 315) (by decide +kernel)⟩
theorem lw_p9 : lw_okq (⟨"BoardStore", "lengthOfVersion", "(I)I"⟩, 9) := ⟨⟨by decide +kernel, by decide +kernel⟩, List.mem_of_getElem? (i := 14) (by decide +kernel), List.mem_of_getElem? (i := 318) (by decide +kernel), List.mem_of_getElem? (i := 319) (by decide +kernel)⟩
theorem lw_p10 : lw_okq (⟨"BoardStore", "removeUnheldBlocks", "()I"⟩, 9) := ⟨⟨by decide +kernel, by decide +kernel⟩, List.mem_of_getElem? (i := 14) (by decide +kernel), List.mem_of_getElem? (i := 347) (by decide +kernel), List.mem_of_getElem? (i := 348) (by decide +kernel)⟩
theorem lw_p11 : lw_okq (⟨"BoardStore", "markHeldBlocks", "()V"⟩, 9) := ⟨⟨by decide +kernel, by decide +kernel⟩, List.mem_of_getElem? (i := 14) (by decide +kernel), List.mem_of_getElem? (i := 351) (by decide +kernel), List.mem_of_getElem? (i := 352) (by decide +kernel)⟩
theorem lw_p12 : lw_okq (⟨"BoardStore", "countUnpacked", "()I"⟩, 9) := ⟨⟨by decide +kernel, by decide +kernel⟩, List.mem_of_getElem? (i := 14) (by decide +kernel), List.mem_of_getElem? (i := 370) (by decide +kernel), List.mem_of_getElem? (i := 371) (by decide +kernel)⟩
theorem lw_p13 : lw_okq (⟨"BoardStore", "isUnpacked", "(I)Z"⟩, 9) := ⟨⟨by decide +kernel, by decide +kernel⟩, List.mem_of_getElem? (i := 14) (by decide +kernel), List.mem_of_getElem? (i := 374) (by decide +kernel), List.mem_of_getElem? (i := 375) (by decide +kernel)⟩
theorem lw_p14 : lw_okq (⟨"BoardStore", "addToOpenPack", "(I)V"⟩, 9) := ⟨⟨by decide +kernel, by decide +kernel⟩, List.mem_of_getElem? (i := 14) (by decide +kernel), List.mem_of_getElem? (i := 378) (by decide +kernel), List.mem_of_getElem? (i := 379) (by decide +kernel)⟩
theorem lw_p15 : lw_okq (⟨"BoardStore", "closePack", "()V"⟩, 9) := ⟨⟨by decide +kernel, by decide +kernel⟩, List.mem_of_getElem? (i := 14) (by decide +kernel), List.mem_of_getElem? (i := 382) (by decide +kernel), List.mem_of_getElem? (i := 383) (by decide +kernel)⟩
def lw_privs_1 : List (MethodName × Nat) := [(⟨"BoardStore", "requireRunning", "()V"⟩, 9), (⟨"java/lang/Throwable", "fillInStackTrace", "(I)Ljava/lang/Throwable;"⟩, 6), (⟨"BoardStore", "equalOfFed", "()I"⟩, 9), (⟨"BoardStore", "takeNewBlock", "()I"⟩, 9), (⟨"BoardStore", "closeFed", "()I"⟩, 9), (⟨"BoardStore", "takeOldBlock", "(I)I"⟩, 9), (⟨"BoardStore", "requireVersion", "(I)V"⟩, 9), (⟨"BoardStore", "requireBlock", "(I)V"⟩, 9), (⟨"BoardStore", "hasBlock", "(II)Z"⟩, 9), (⟨"BoardStore", "lengthOfVersion", "(I)I"⟩, 9), (⟨"BoardStore", "removeUnheldBlocks", "()I"⟩, 9), (⟨"BoardStore", "markHeldBlocks", "()V"⟩, 9), (⟨"BoardStore", "countUnpacked", "()I"⟩, 9), (⟨"BoardStore", "isUnpacked", "(I)Z"⟩, 9), (⟨"BoardStore", "addToOpenPack", "(I)V"⟩, 9), (⟨"BoardStore", "closePack", "()V"⟩, 9)]
theorem lw_r1 : ∀ q ∈ lw_privs_1, lw_okq q := List.forall_mem_cons.mpr ⟨lw_p0, List.forall_mem_cons.mpr ⟨lw_p1, List.forall_mem_cons.mpr ⟨lw_p2, List.forall_mem_cons.mpr ⟨lw_p3, List.forall_mem_cons.mpr ⟨lw_p4, List.forall_mem_cons.mpr ⟨lw_p5, List.forall_mem_cons.mpr ⟨lw_p6, List.forall_mem_cons.mpr ⟨lw_p7, List.forall_mem_cons.mpr ⟨lw_p8, List.forall_mem_cons.mpr ⟨lw_p9, List.forall_mem_cons.mpr ⟨lw_p10, List.forall_mem_cons.mpr ⟨lw_p11, List.forall_mem_cons.mpr ⟨lw_p12, List.forall_mem_cons.mpr ⟨lw_p13, List.forall_mem_cons.mpr ⟨lw_p14, List.forall_mem_cons.mpr ⟨lw_p15, fun _ h => absurd h List.not_mem_nil⟩⟩⟩⟩⟩⟩⟩⟩⟩⟩⟩⟩⟩⟩⟩⟩
theorem lw_p16 : lw_okq (⟨"BoardStore", "requireNotNegative", "(I)V"⟩, 9) := ⟨⟨by decide +kernel, by decide +kernel⟩, List.mem_of_getElem? (i := 14) (by decide +kernel), List.mem_of_getElem? (i := 397) (by decide +kernel), List.mem_of_getElem? (i := 398) (by decide +kernel)⟩
theorem lw_p17 : lw_okq (⟨"BoardStore", "requireKeepable", "(I)V"⟩, 9) := ⟨⟨by decide +kernel, by decide +kernel⟩, List.mem_of_getElem? (i := 14) (by decide +kernel), List.mem_of_getElem? (i := 410) (by decide +kernel), List.mem_of_getElem? (i := 411) (by decide +kernel)⟩
theorem lw_p18 : lw_okq (⟨"BoardStore", "forgetAllButLog", "()V"⟩, 9) := ⟨⟨by decide +kernel, by decide +kernel⟩, List.mem_of_getElem? (i := 14) (by decide +kernel), List.mem_of_getElem? (i := 438) (by decide +kernel), List.mem_of_getElem? (i := 439) (by decide +kernel)⟩
theorem lw_p19 : lw_okq (⟨"BoardStore", "requireCrashed", "()V"⟩, 9) := ⟨⟨by decide +kernel, by decide +kernel⟩, List.mem_of_getElem? (i := 14) (by decide +kernel), List.mem_of_getElem? (i := 453) (by decide +kernel), List.mem_of_getElem? (i := 454) (by decide +kernel)⟩
theorem lw_p20 : lw_okq (⟨"BoardStore$Log", "lengthByKind", "(I)I"⟩, 2) := ⟨⟨by decide +kernel, by decide +kernel⟩, List.mem_of_getElem? (i := 22) (by decide +kernel), List.mem_of_getElem? (i := 462) (by decide +kernel), List.mem_of_getElem? (i := 463) (by decide +kernel)⟩
theorem lw_p21 : lw_okq (⟨"BoardStore", "redo", "(I)V"⟩, 9) := ⟨⟨by decide +kernel, by decide +kernel⟩, List.mem_of_getElem? (i := 14) (by decide +kernel), List.mem_of_getElem? (i := 471) (by decide +kernel), List.mem_of_getElem? (i := 472) (by decide +kernel)⟩
theorem lw_p22 : lw_okq (⟨"BoardStore", "redoNewBlock", "(I)V"⟩, 9) := ⟨⟨by decide +kernel, by decide +kernel⟩, List.mem_of_getElem? (i := 14) (by decide +kernel), List.mem_of_getElem? (i := 476) (by decide +kernel), List.mem_of_getElem? (i := 477) (by decide +kernel)⟩
theorem lw_p23 : lw_okq (⟨"BoardStore", "requireByteOfPack", "(II)V"⟩, 9) := ⟨⟨by decide +kernel, by decide +kernel⟩, List.mem_of_getElem? (i := 14) (by decide +kernel), List.mem_of_getElem? (i := 487) (by decide +kernel), List.mem_of_getElem? (i := 488) (by decide +kernel)⟩
theorem lw_p24 : lw_okq (⟨"BoardStore", "isBad", "(I)Z"⟩, 9) := ⟨⟨by decide +kernel, by decide +kernel⟩, List.mem_of_getElem? (i := 14) (by decide +kernel), List.mem_of_getElem? (i := 503) (by decide +kernel), List.mem_of_getElem? (i := 504) (by decide +kernel)⟩
theorem lw_p25 : lw_okq (⟨"BoardStore", "requireByteOfSum", "(I)V"⟩, 9) := ⟨⟨by decide +kernel, by decide +kernel⟩, List.mem_of_getElem? (i := 14) (by decide +kernel), List.mem_of_getElem? (i := 521) (by decide +kernel), List.mem_of_getElem? (i := 522) (by decide +kernel)⟩
theorem lw_p26 : lw_okq (⟨"BoardStoreModel", "isReady", "(I)Z"⟩, 21) := ⟨⟨by decide +kernel, by decide +kernel⟩, List.mem_of_getElem? (i := 540) (by decide +kernel), List.mem_of_getElem? (i := 618) (by decide +kernel), List.mem_of_getElem? (i := 619) (by decide +kernel)⟩
theorem lw_p27 : lw_okq (⟨"BoardStoreModel", "walk", "()V"⟩, 21) := ⟨⟨by decide +kernel, by decide +kernel⟩, List.mem_of_getElem? (i := 540) (by decide +kernel), List.mem_of_getElem? (i := 622) (by decide +kernel), List.mem_of_getElem? (i := 623) (by decide +kernel)⟩
theorem lw_p28 : lw_okq (⟨"BoardStoreModel", "sizeOf", "(I)I"⟩, 21) := ⟨⟨by decide +kernel, by decide +kernel⟩, List.mem_of_getElem? (i := 540) (by decide +kernel), List.mem_of_getElem? (i := 626) (by decide +kernel), List.mem_of_getElem? (i := 627) (by decide +kernel)⟩
theorem lw_p29 : lw_okq (⟨"BoardStoreModel", "act", "(I)V"⟩, 21) := ⟨⟨by decide +kernel, by decide +kernel⟩, List.mem_of_getElem? (i := 540) (by decide +kernel), List.mem_of_getElem? (i := 630) (by decide +kernel), List.mem_of_getElem? (i := 631) (by decide +kernel)⟩
theorem lw_p30 : lw_okq (⟨"BoardStoreModel", "append", "(I)V"⟩, 21) := ⟨⟨by decide +kernel, by decide +kernel⟩, List.mem_of_getElem? (i := 540) (by decide +kernel), List.mem_of_getElem? (i := 634) (by decide +kernel), List.mem_of_getElem? (i := 635) (by decide +kernel)⟩
theorem lw_p31 : lw_okq (⟨"BoardStoreModel", "sweepAll", "()V"⟩, 21) := ⟨⟨by decide +kernel, by decide +kernel⟩, List.mem_of_getElem? (i := 540) (by decide +kernel), List.mem_of_getElem? (i := 638) (by decide +kernel), List.mem_of_getElem? (i := 639) (by decide +kernel)⟩
def lw_privs_2 : List (MethodName × Nat) := [(⟨"BoardStore", "requireNotNegative", "(I)V"⟩, 9), (⟨"BoardStore", "requireKeepable", "(I)V"⟩, 9), (⟨"BoardStore", "forgetAllButLog", "()V"⟩, 9), (⟨"BoardStore", "requireCrashed", "()V"⟩, 9), (⟨"BoardStore$Log", "lengthByKind", "(I)I"⟩, 2), (⟨"BoardStore", "redo", "(I)V"⟩, 9), (⟨"BoardStore", "redoNewBlock", "(I)V"⟩, 9), (⟨"BoardStore", "requireByteOfPack", "(II)V"⟩, 9), (⟨"BoardStore", "isBad", "(I)Z"⟩, 9), (⟨"BoardStore", "requireByteOfSum", "(I)V"⟩, 9), (⟨"BoardStoreModel", "isReady", "(I)Z"⟩, 21), (⟨"BoardStoreModel", "walk", "()V"⟩, 21), (⟨"BoardStoreModel", "sizeOf", "(I)I"⟩, 21), (⟨"BoardStoreModel", "act", "(I)V"⟩, 21), (⟨"BoardStoreModel", "append", "(I)V"⟩, 21), (⟨"BoardStoreModel", "sweepAll", "()V"⟩, 21)]
theorem lw_r2 : ∀ q ∈ lw_privs_2, lw_okq q := List.forall_mem_cons.mpr ⟨lw_p16, List.forall_mem_cons.mpr ⟨lw_p17, List.forall_mem_cons.mpr ⟨lw_p18, List.forall_mem_cons.mpr ⟨lw_p19, List.forall_mem_cons.mpr ⟨lw_p20, List.forall_mem_cons.mpr ⟨lw_p21, List.forall_mem_cons.mpr ⟨lw_p22, List.forall_mem_cons.mpr ⟨lw_p23, List.forall_mem_cons.mpr ⟨lw_p24, List.forall_mem_cons.mpr ⟨lw_p25, List.forall_mem_cons.mpr ⟨lw_p26, List.forall_mem_cons.mpr ⟨lw_p27, List.forall_mem_cons.mpr ⟨lw_p28, List.forall_mem_cons.mpr ⟨lw_p29, List.forall_mem_cons.mpr ⟨lw_p30, List.forall_mem_cons.mpr ⟨lw_p31, fun _ h => absurd h List.not_mem_nil⟩⟩⟩⟩⟩⟩⟩⟩⟩⟩⟩⟩⟩⟩⟩⟩
theorem lw_p32 : lw_okq (⟨"BoardStoreModel", "isHeld", "(I)Z"⟩, 21) := ⟨⟨by decide +kernel, by decide +kernel⟩, List.mem_of_getElem? (i := 540) (by decide +kernel), List.mem_of_getElem? (i := 642) (by decide +kernel), List.mem_of_getElem? (i := 643) (by decide +kernel)⟩
theorem lw_p33 : lw_okq (⟨"BoardStoreModel", "isFood", "(I)Z"⟩, 21) := ⟨⟨by decide +kernel, by decide +kernel⟩, List.mem_of_getElem? (i := 540) (by decide +kernel), List.mem_of_getElem? (i := 653) (by decide +kernel), List.mem_of_getElem? (i := 654) (by decide +kernel)⟩
theorem lw_p34 : lw_okq (⟨"BoardStoreModel", "write", "(I)V"⟩, 21) := ⟨⟨by decide +kernel, by decide +kernel⟩, List.mem_of_getElem? (i := 540) (by decide +kernel), List.mem_of_getElem? (i := 657) (by decide +kernel), List.mem_of_getElem? (i := 658) (by decide +kernel)⟩
theorem lw_p35 : lw_okq (⟨"BoardStoreModel", "isVersion", "(I)Z"⟩, 21) := ⟨⟨by decide +kernel, by decide +kernel⟩, List.mem_of_getElem? (i := 540) (by decide +kernel), List.mem_of_getElem? (i := 673) (by decide +kernel), List.mem_of_getElem? (i := 674) (by decide +kernel)⟩
theorem lw_p36 : lw_okq (⟨"BoardStoreModel", "isBlock", "(I)Z"⟩, 21) := ⟨⟨by decide +kernel, by decide +kernel⟩, List.mem_of_getElem? (i := 540) (by decide +kernel), List.mem_of_getElem? (i := 681) (by decide +kernel), List.mem_of_getElem? (i := 682) (by decide +kernel)⟩
theorem lw_p37 : lw_okq (⟨"BoardStoreModel", "put", "(I)V"⟩, 21) := ⟨⟨by decide +kernel, by decide +kernel⟩, List.mem_of_getElem? (i := 540) (by decide +kernel), List.mem_of_getElem? (i := 709) (by decide +kernel), List.mem_of_getElem? (i := 710) (by decide +kernel)⟩
theorem lw_p38 : lw_okq (⟨"BoardStoreModel", "sumOf", "(I)I"⟩, 21) := ⟨⟨by decide +kernel, by decide +kernel⟩, List.mem_of_getElem? (i := 540) (by decide +kernel), List.mem_of_getElem? (i := 713) (by decide +kernel), List.mem_of_getElem? (i := 714) (by decide +kernel)⟩
theorem lw_p39 : lw_okq (⟨"BoardStoreModel", "isPackByte", "(II)Z"⟩, 21) := ⟨⟨by decide +kernel, by decide +kernel⟩, List.mem_of_getElem? (i := 540) (by decide +kernel), List.mem_of_getElem? (i := 721) (by decide +kernel), List.mem_of_getElem? (i := 722) (by decide +kernel)⟩
def lw_privs_3 : List (MethodName × Nat) := [(⟨"BoardStoreModel", "isHeld", "(I)Z"⟩, 21), (⟨"BoardStoreModel", "isFood", "(I)Z"⟩, 21), (⟨"BoardStoreModel", "write", "(I)V"⟩, 21), (⟨"BoardStoreModel", "isVersion", "(I)Z"⟩, 21), (⟨"BoardStoreModel", "isBlock", "(I)Z"⟩, 21), (⟨"BoardStoreModel", "put", "(I)V"⟩, 21), (⟨"BoardStoreModel", "sumOf", "(I)I"⟩, 21), (⟨"BoardStoreModel", "isPackByte", "(II)Z"⟩, 21)]
theorem lw_r3 : ∀ q ∈ lw_privs_3, lw_okq q := List.forall_mem_cons.mpr ⟨lw_p32, List.forall_mem_cons.mpr ⟨lw_p33, List.forall_mem_cons.mpr ⟨lw_p34, List.forall_mem_cons.mpr ⟨lw_p35, List.forall_mem_cons.mpr ⟨lw_p36, List.forall_mem_cons.mpr ⟨lw_p37, List.forall_mem_cons.mpr ⟨lw_p38, List.forall_mem_cons.mpr ⟨lw_p39, fun _ h => absurd h List.not_mem_nil⟩⟩⟩⟩⟩⟩⟩⟩
def lw_privs : List (MethodName × Nat) := lw_privs_1 ++ (lw_privs_2 ++ (lw_privs_3))
def lw_tbl : List Cond := k2_sels lw_privs ++ tables_1
theorem lw_privs_ok : ∀ q ∈ lw_privs, lw_okq q := by
  show ∀ q ∈ lw_privs_1 ++ (lw_privs_2 ++ (lw_privs_3)), lw_okq q
  exact List.forall_mem_append.mpr ⟨lw_r1, List.forall_mem_append.mpr ⟨lw_r2, lw_r3⟩⟩
end
section
/-! names: classes by a letter (S the store, L its log, K marks, P pieces, M the reference, W the law), their fields in the order of the slots; methods: code and name -/
def F_L : u_T := fun k => match k with
  | 0 => ("BoardStore$Log", "bytes", "[I", true)
  | _ => ("BoardStore$Log", "size", "I", false)
def t_L : Nat → FieldType := fun k => match k with
  | 0 => .array .int
  | _ => .int
theorem n_L : ∀ a, a < 2 → ∀ b, b < 2 → a ≠ b → (F_L a).2.1 ≠ (F_L b).2.1 := by decide +kernel
theorem t_L_ok : ∀ k, k < 2 → parseFieldDescriptor (F_L k).2.2.1 = some (t_L k) := by decide +kernel
def F_K : u_T := fun k => match k with
  | _ => ("BoardStore$Marks", "on", "[Z", true)
def t_K : Nat → FieldType := fun k => match k with
  | _ => .array .boolean
theorem n_K : ∀ a, a < 1 → ∀ b, b < 1 → a ≠ b → (F_K a).2.1 ≠ (F_K b).2.1 := by decide +kernel
theorem t_K_ok : ∀ k, k < 1 → parseFieldDescriptor (F_K k).2.2.1 = some (t_K k) := by decide +kernel
def F_P : u_T := fun k => match k with
  | 0 => ("BoardStore$Pieces", "items", "[I", true)
  | 1 => ("BoardStore$Pieces", "starts", "[I", true)
  | 2 => ("BoardStore$Pieces", "size", "I", false)
  | _ => ("BoardStore$Pieces", "count", "I", false)
def t_P : Nat → FieldType := fun k => match k with
  | 0 => .array .int
  | 1 => .array .int
  | 2 => .int
  | _ => .int
theorem n_P : ∀ a, a < 4 → ∀ b, b < 4 → a ≠ b → (F_P a).2.1 ≠ (F_P b).2.1 := by decide +kernel
theorem t_P_ok : ∀ k, k < 4 → parseFieldDescriptor (F_P k).2.2.1 = some (t_P k) := by decide +kernel
def F_S : u_T := fun k => match k with
  | 0 => ("BoardStore", "log", "LBoardStore$Log;", true)
  | 1 => ("BoardStore", "blocks", "LBoardStore$Pieces;", true)
  | 2 => ("BoardStore", "there", "LBoardStore$Marks;", true)
  | 3 => ("BoardStore", "packed", "LBoardStore$Marks;", true)
  | 4 => ("BoardStore", "held", "LBoardStore$Marks;", true)
  | 5 => ("BoardStore", "versions", "LBoardStore$Pieces;", true)
  | 6 => ("BoardStore", "dropped", "LBoardStore$Marks;", true)
  | 7 => ("BoardStore", "packs", "LBoardStore$Pieces;", true)
  | _ => ("BoardStore", "crashed", "Z", false)
def t_S : Nat → FieldType := fun k => match k with
  | 0 => .object "BoardStore$Log"
  | 1 => .object "BoardStore$Pieces"
  | 2 => .object "BoardStore$Marks"
  | 3 => .object "BoardStore$Marks"
  | 4 => .object "BoardStore$Marks"
  | 5 => .object "BoardStore$Pieces"
  | 6 => .object "BoardStore$Marks"
  | 7 => .object "BoardStore$Pieces"
  | _ => .boolean
theorem n_S : ∀ a, a < 9 → ∀ b, b < 9 → a ≠ b → (F_S a).2.1 ≠ (F_S b).2.1 := by decide +kernel
theorem t_S_ok : ∀ k, k < 9 → parseFieldDescriptor (F_S k).2.2.1 = some (t_S k) := by decide +kernel
def F_M : u_T := fun k => match k with
  | 0 => ("BoardStoreModel", "thrown", "I", false)
  | 1 => ("BoardStoreModel", "mostPacks", "I", true)
  | 2 => ("BoardStoreModel", "crashed", "Z", false)
  | 3 => ("BoardStoreModel", "fed", "I", false)
  | 4 => ("BoardStoreModel", "food", "[I", true)
  | 5 => ("BoardStoreModel", "size", "I", false)
  | 6 => ("BoardStoreModel", "log", "[I", true)
  | 7 => ("BoardStoreModel", "packs", "I", false)
  | 8 => ("BoardStoreModel", "packSize", "[I", true)
  | 9 => ("BoardStoreModel", "packBytes", "[I", true)
  | 10 => ("BoardStoreModel", "isPacked", "[Z", true)
  | 11 => ("BoardStoreModel", "blocks", "I", false)
  | 12 => ("BoardStoreModel", "from", "[I", true)
  | 13 => ("BoardStoreModel", "lengths", "[I", true)
  | 14 => ("BoardStoreModel", "there", "[Z", true)
  | 15 => ("BoardStoreModel", "versions", "I", false)
  | 16 => ("BoardStoreModel", "counts", "[I", true)
  | 17 => ("BoardStoreModel", "rows", "[I", true)
  | 18 => ("BoardStoreModel", "dropped", "[Z", true)
  | 19 => ("BoardStoreModel", "end", "I", false)
  | _ => ("BoardStoreModel", "swept", "I", false)
def t_M : Nat → FieldType := fun k => match k with
  | 0 => .int
  | 1 => .int
  | 2 => .boolean
  | 3 => .int
  | 4 => .array .int
  | 5 => .int
  | 6 => .array .int
  | 7 => .int
  | 8 => .array .int
  | 9 => .array .int
  | 10 => .array .boolean
  | 11 => .int
  | 12 => .array .int
  | 13 => .array .int
  | 14 => .array .boolean
  | 15 => .int
  | 16 => .array .int
  | 17 => .array .int
  | 18 => .array .boolean
  | 19 => .int
  | _ => .int
theorem n_M : ∀ a, a < 21 → ∀ b, b < 21 → a ≠ b → (F_M a).2.1 ≠ (F_M b).2.1 := by decide +kernel
theorem t_M_ok : ∀ k, k < 21 → parseFieldDescriptor (F_M k).2.2.1 = some (t_M k) := by decide +kernel
abbrev bcl : List vw_C := [("BoardStore$Log", F_L, 2), ("BoardStore$Marks", F_K, 1), ("BoardStore$Pieces", F_P, 4), ("BoardStore", F_S, 9), ("BoardStoreModel", F_M, 21)]
abbrev b_S_init : ByteArray := prog_1_method_1_code
abbrev y_S_init : MethodName := ⟨"BoardStore", "<init>", "(I)V"⟩
abbrev b_S_feed : ByteArray := prog_1_method_2_code
abbrev y_S_feed : MethodName := ⟨"BoardStore", "feed", "(I)Z"⟩
abbrev b_S_block : ByteArray := prog_1_method_3_code
abbrev y_S_block : MethodName := ⟨"BoardStore", "block", "()I"⟩
abbrev b_S_version : ByteArray := prog_1_method_4_code
abbrev y_S_version : MethodName := ⟨"BoardStore", "version", "()I"⟩
abbrev b_S_holds : ByteArray := prog_1_method_5_code
abbrev y_S_holds : MethodName := ⟨"BoardStore", "holds", "(II)Z"⟩
abbrev b_S_root : ByteArray := prog_1_method_6_code
abbrev y_S_root : MethodName := ⟨"BoardStore", "root", "(I)I"⟩
abbrev b_S_sweep : ByteArray := prog_1_method_7_code
abbrev y_S_sweep : MethodName := ⟨"BoardStore", "sweep", "()I"⟩
abbrev b_S_pack : ByteArray := prog_1_method_8_code
abbrev y_S_pack : MethodName := ⟨"BoardStore", "pack", "()I"⟩
abbrev b_S_byteAt : ByteArray := prog_1_method_9_code
abbrev y_S_byteAt : MethodName := ⟨"BoardStore", "byteAt", "(II)I"⟩
abbrev b_S_crash : ByteArray := prog_1_method_10_code
abbrev y_S_crash : MethodName := ⟨"BoardStore", "crash", "(I)Z"⟩
abbrev b_S_reopen : ByteArray := prog_1_method_11_code
abbrev y_S_reopen : MethodName := ⟨"BoardStore", "reopen", "()I"⟩
abbrev b_S_poke : ByteArray := prog_1_method_12_code
abbrev y_S_poke : MethodName := ⟨"BoardStore", "poke", "(III)Z"⟩
abbrev b_S_badAt : ByteArray := prog_1_method_13_code
abbrev y_S_badAt : MethodName := ⟨"BoardStore", "badAt", "()I"⟩
abbrev b_S_packByte : ByteArray := prog_1_method_14_code
abbrev y_S_packByte : MethodName := ⟨"BoardStore", "packByte", "(II)I"⟩
abbrev b_S_digest : ByteArray := prog_1_method_15_code
abbrev y_S_digest : MethodName := ⟨"BoardStore", "digest", "(II)I"⟩
abbrev b_S_out : ByteArray := prog_1_method_16_code
abbrev y_S_out : MethodName := ⟨"BoardStore", "out", "(II)I"⟩
abbrev b_S_drop : ByteArray := prog_1_method_17_code
abbrev y_S_drop : MethodName := ⟨"BoardStore", "drop", "(I)Z"⟩
abbrev b_S_requireRunning : ByteArray := prog_1_method_18_code
abbrev y_S_requireRunning : MethodName := ⟨"BoardStore", "requireRunning", "()V"⟩
abbrev b_S_requireCrashed : ByteArray := prog_1_method_19_code
abbrev y_S_requireCrashed : MethodName := ⟨"BoardStore", "requireCrashed", "()V"⟩
abbrev b_S_requireVersion : ByteArray := prog_1_method_20_code
abbrev y_S_requireVersion : MethodName := ⟨"BoardStore", "requireVersion", "(I)V"⟩
abbrev b_S_requireBlock : ByteArray := prog_1_method_21_code
abbrev y_S_requireBlock : MethodName := ⟨"BoardStore", "requireBlock", "(I)V"⟩
abbrev b_S_requireByteOfPack : ByteArray := prog_1_method_22_code
abbrev y_S_requireByteOfPack : MethodName := ⟨"BoardStore", "requireByteOfPack", "(II)V"⟩
abbrev b_S_requireByteOfSum : ByteArray := prog_1_method_23_code
abbrev y_S_requireByteOfSum : MethodName := ⟨"BoardStore", "requireByteOfSum", "(I)V"⟩
abbrev b_S_requireNotNegative : ByteArray := prog_1_method_24_code
abbrev y_S_requireNotNegative : MethodName := ⟨"BoardStore", "requireNotNegative", "(I)V"⟩
abbrev b_S_requireKeepable : ByteArray := prog_1_method_25_code
abbrev y_S_requireKeepable : MethodName := ⟨"BoardStore", "requireKeepable", "(I)V"⟩
abbrev b_S_equalOfFed : ByteArray := prog_1_method_26_code
abbrev y_S_equalOfFed : MethodName := ⟨"BoardStore", "equalOfFed", "()I"⟩
abbrev b_S_takeNewBlock : ByteArray := prog_1_method_27_code
abbrev y_S_takeNewBlock : MethodName := ⟨"BoardStore", "takeNewBlock", "()I"⟩
abbrev b_S_takeOldBlock : ByteArray := prog_1_method_28_code
abbrev y_S_takeOldBlock : MethodName := ⟨"BoardStore", "takeOldBlock", "(I)I"⟩
abbrev b_S_closeFed : ByteArray := prog_1_method_29_code
abbrev y_S_closeFed : MethodName := ⟨"BoardStore", "closeFed", "()I"⟩
abbrev b_S_removeUnheldBlocks : ByteArray := prog_1_method_30_code
abbrev y_S_removeUnheldBlocks : MethodName := ⟨"BoardStore", "removeUnheldBlocks", "()I"⟩
abbrev b_S_markHeldBlocks : ByteArray := prog_1_method_31_code
abbrev y_S_markHeldBlocks : MethodName := ⟨"BoardStore", "markHeldBlocks", "()V"⟩
abbrev b_S_hasBlock : ByteArray := prog_1_method_32_code
abbrev y_S_hasBlock : MethodName := ⟨"BoardStore", "hasBlock", "(II)Z"⟩
abbrev b_S_lengthOfVersion : ByteArray := prog_1_method_33_code
abbrev y_S_lengthOfVersion : MethodName := ⟨"BoardStore", "lengthOfVersion", "(I)I"⟩
abbrev b_S_isUnpacked : ByteArray := prog_1_method_34_code
abbrev y_S_isUnpacked : MethodName := ⟨"BoardStore", "isUnpacked", "(I)Z"⟩
abbrev b_S_countUnpacked : ByteArray := prog_1_method_35_code
abbrev y_S_countUnpacked : MethodName := ⟨"BoardStore", "countUnpacked", "()I"⟩
abbrev b_S_addToOpenPack : ByteArray := prog_1_method_36_code
abbrev y_S_addToOpenPack : MethodName := ⟨"BoardStore", "addToOpenPack", "(I)V"⟩
abbrev b_S_closePack : ByteArray := prog_1_method_37_code
abbrev y_S_closePack : MethodName := ⟨"BoardStore", "closePack", "()V"⟩
abbrev b_S_isBad : ByteArray := prog_1_method_38_code
abbrev y_S_isBad : MethodName := ⟨"BoardStore", "isBad", "(I)Z"⟩
abbrev b_S_forgetAllButLog : ByteArray := prog_1_method_39_code
abbrev y_S_forgetAllButLog : MethodName := ⟨"BoardStore", "forgetAllButLog", "()V"⟩
abbrev b_S_redo : ByteArray := prog_1_method_40_code
abbrev y_S_redo : MethodName := ⟨"BoardStore", "redo", "(I)V"⟩
abbrev b_S_redoNewBlock : ByteArray := prog_1_method_41_code
abbrev y_S_redoNewBlock : MethodName := ⟨"BoardStore", "redoNewBlock", "(I)V"⟩
abbrev b_S_nextSum : ByteArray := prog_1_method_42_code
abbrev y_S_nextSum : MethodName := ⟨"BoardStore", "nextSum", "(II)I"⟩
abbrev b_S_byteOfSum : ByteArray := prog_1_method_43_code
abbrev y_S_byteOfSum : MethodName := ⟨"BoardStore", "byteOfSum", "(II)I"⟩
abbrev b_M_init : ByteArray := prog_6_method_1_code
abbrev y_M_init : MethodName := ⟨"BoardStoreModel", "<init>", "(I)V"⟩
abbrev b_M_thrown : ByteArray := prog_6_method_2_code
abbrev y_M_thrown : MethodName := ⟨"BoardStoreModel", "thrown", "()I"⟩
abbrev b_M_append : ByteArray := prog_6_method_3_code
abbrev y_M_append : MethodName := ⟨"BoardStoreModel", "append", "(I)V"⟩
abbrev b_M_isHeld : ByteArray := prog_6_method_4_code
abbrev y_M_isHeld : MethodName := ⟨"BoardStoreModel", "isHeld", "(I)Z"⟩
abbrev b_M_sweepAll : ByteArray := prog_6_method_5_code
abbrev y_M_sweepAll : MethodName := ⟨"BoardStoreModel", "sweepAll", "()V"⟩
abbrev b_M_sizeOf : ByteArray := prog_6_method_6_code
abbrev y_M_sizeOf : MethodName := ⟨"BoardStoreModel", "sizeOf", "(I)I"⟩
abbrev b_M_act : ByteArray := prog_6_method_7_code
abbrev y_M_act : MethodName := ⟨"BoardStoreModel", "act", "(I)V"⟩
abbrev b_M_walk : ByteArray := prog_6_method_8_code
abbrev y_M_walk : MethodName := ⟨"BoardStoreModel", "walk", "()V"⟩
abbrev b_M_isReady : ByteArray := prog_6_method_9_code
abbrev y_M_isReady : MethodName := ⟨"BoardStoreModel", "isReady", "(I)Z"⟩
abbrev b_M_write : ByteArray := prog_6_method_10_code
abbrev y_M_write : MethodName := ⟨"BoardStoreModel", "write", "(I)V"⟩
abbrev b_M_isByte : ByteArray := prog_6_method_11_code
abbrev y_M_isByte : MethodName := ⟨"BoardStoreModel", "isByte", "(I)Z"⟩
abbrev b_M_feed : ByteArray := prog_6_method_12_code
abbrev y_M_feed : MethodName := ⟨"BoardStoreModel", "feed", "(I)Z"⟩
abbrev b_M_isFood : ByteArray := prog_6_method_13_code
abbrev y_M_isFood : MethodName := ⟨"BoardStoreModel", "isFood", "(I)Z"⟩
abbrev b_M_block : ByteArray := prog_6_method_14_code
abbrev y_M_block : MethodName := ⟨"BoardStoreModel", "block", "()I"⟩
abbrev b_M_version : ByteArray := prog_6_method_15_code
abbrev y_M_version : MethodName := ⟨"BoardStoreModel", "version", "()I"⟩
abbrev b_M_sweep : ByteArray := prog_6_method_16_code
abbrev y_M_sweep : MethodName := ⟨"BoardStoreModel", "sweep", "()I"⟩
abbrev b_M_isVersion : ByteArray := prog_6_method_17_code
abbrev y_M_isVersion : MethodName := ⟨"BoardStoreModel", "isVersion", "(I)Z"⟩
abbrev b_M_isBlock : ByteArray := prog_6_method_18_code
abbrev y_M_isBlock : MethodName := ⟨"BoardStoreModel", "isBlock", "(I)Z"⟩
abbrev b_M_drop : ByteArray := prog_6_method_19_code
abbrev y_M_drop : MethodName := ⟨"BoardStoreModel", "drop", "(I)Z"⟩
abbrev b_M_holds : ByteArray := prog_6_method_20_code
abbrev y_M_holds : MethodName := ⟨"BoardStoreModel", "holds", "(II)Z"⟩
abbrev b_M_next : ByteArray := prog_6_method_21_code
abbrev y_M_next : MethodName := ⟨"BoardStoreModel", "next", "(II)I"⟩
abbrev b_M_root : ByteArray := prog_6_method_22_code
abbrev y_M_root : MethodName := ⟨"BoardStoreModel", "root", "(I)I"⟩
abbrev b_M_out : ByteArray := prog_6_method_23_code
abbrev y_M_out : MethodName := ⟨"BoardStoreModel", "out", "(II)I"⟩
abbrev b_M_byteAt : ByteArray := prog_6_method_24_code
abbrev y_M_byteAt : MethodName := ⟨"BoardStoreModel", "byteAt", "(II)I"⟩
abbrev b_M_digest : ByteArray := prog_6_method_25_code
abbrev y_M_digest : MethodName := ⟨"BoardStoreModel", "digest", "(II)I"⟩
abbrev b_M_put : ByteArray := prog_6_method_26_code
abbrev y_M_put : MethodName := ⟨"BoardStoreModel", "put", "(I)V"⟩
abbrev b_M_sumOf : ByteArray := prog_6_method_27_code
abbrev y_M_sumOf : MethodName := ⟨"BoardStoreModel", "sumOf", "(I)I"⟩
abbrev b_M_pack : ByteArray := prog_6_method_28_code
abbrev y_M_pack : MethodName := ⟨"BoardStoreModel", "pack", "()I"⟩
abbrev b_M_isPackByte : ByteArray := prog_6_method_29_code
abbrev y_M_isPackByte : MethodName := ⟨"BoardStoreModel", "isPackByte", "(II)Z"⟩
abbrev b_M_packByte : ByteArray := prog_6_method_30_code
abbrev y_M_packByte : MethodName := ⟨"BoardStoreModel", "packByte", "(II)I"⟩
abbrev b_M_poke : ByteArray := prog_6_method_31_code
abbrev y_M_poke : MethodName := ⟨"BoardStoreModel", "poke", "(III)Z"⟩
abbrev b_M_badAt : ByteArray := prog_6_method_32_code
abbrev y_M_badAt : MethodName := ⟨"BoardStoreModel", "badAt", "()I"⟩
abbrev b_M_crash : ByteArray := prog_6_method_33_code
abbrev y_M_crash : MethodName := ⟨"BoardStoreModel", "crash", "(I)Z"⟩
abbrev b_M_reopen : ByteArray := prog_6_method_34_code
abbrev y_M_reopen : MethodName := ⟨"BoardStoreModel", "reopen", "()I"⟩
abbrev b_L_init : ByteArray := prog_2_method_1_code
abbrev y_L_init : MethodName := ⟨"BoardStore$Log", "<init>", "()V"⟩
abbrev b_L_length : ByteArray := prog_2_method_2_code
abbrev y_L_length : MethodName := ⟨"BoardStore$Log", "length", "()I"⟩
abbrev b_L_hasRoom : ByteArray := prog_2_method_3_code
abbrev y_L_hasRoom : MethodName := ⟨"BoardStore$Log", "hasRoom", "(I)Z"⟩
abbrev b_L_add : ByteArray := prog_2_method_4_code
abbrev y_L_add : MethodName := ⟨"BoardStore$Log", "add", "(I)V"⟩
abbrev b_L_at : ByteArray := prog_2_method_5_code
abbrev y_L_at : MethodName := ⟨"BoardStore$Log", "at", "(I)I"⟩
abbrev b_L_cutTo : ByteArray := prog_2_method_6_code
abbrev y_L_cutTo : MethodName := ⟨"BoardStore$Log", "cutTo", "(I)V"⟩
abbrev b_L_lengthOfRecord : ByteArray := prog_2_method_7_code
abbrev y_L_lengthOfRecord : MethodName := ⟨"BoardStore$Log", "lengthOfRecord", "(I)I"⟩
abbrev b_L_lengthByKind : ByteArray := prog_2_method_8_code
abbrev y_L_lengthByKind : MethodName := ⟨"BoardStore$Log", "lengthByKind", "(I)I"⟩
abbrev b_K_init : ByteArray := prog_3_method_1_code
abbrev y_K_init : MethodName := ⟨"BoardStore$Marks", "<init>", "(I)V"⟩
abbrev b_K_isOn : ByteArray := prog_3_method_2_code
abbrev y_K_isOn : MethodName := ⟨"BoardStore$Marks", "isOn", "(I)Z"⟩
abbrev b_K_turnOn : ByteArray := prog_3_method_3_code
abbrev y_K_turnOn : MethodName := ⟨"BoardStore$Marks", "turnOn", "(I)V"⟩
abbrev b_K_turnOff : ByteArray := prog_3_method_4_code
abbrev y_K_turnOff : MethodName := ⟨"BoardStore$Marks", "turnOff", "(I)V"⟩
abbrev b_K_clear : ByteArray := prog_3_method_5_code
abbrev y_K_clear : MethodName := ⟨"BoardStore$Marks", "clear", "()V"⟩
abbrev b_P_init : ByteArray := prog_4_method_1_code
abbrev y_P_init : MethodName := ⟨"BoardStore$Pieces", "<init>", "(II)V"⟩
abbrev b_P_count : ByteArray := prog_4_method_2_code
abbrev y_P_count : MethodName := ⟨"BoardStore$Pieces", "count", "()I"⟩
abbrev b_P_stillFree : ByteArray := prog_4_method_3_code
abbrev y_P_stillFree : MethodName := ⟨"BoardStore$Pieces", "stillFree", "()I"⟩
abbrev b_P_isFull : ByteArray := prog_4_method_4_code
abbrev y_P_isFull : MethodName := ⟨"BoardStore$Pieces", "isFull", "()Z"⟩
abbrev b_P_has : ByteArray := prog_4_method_5_code
abbrev y_P_has : MethodName := ⟨"BoardStore$Pieces", "has", "(I)Z"⟩
abbrev b_P_length : ByteArray := prog_4_method_6_code
abbrev y_P_length : MethodName := ⟨"BoardStore$Pieces", "length", "(I)I"⟩
abbrev b_P_at : ByteArray := prog_4_method_7_code
abbrev y_P_at : MethodName := ⟨"BoardStore$Pieces", "at", "(II)I"⟩
abbrev b_P_put : ByteArray := prog_4_method_8_code
abbrev y_P_put : MethodName := ⟨"BoardStore$Pieces", "put", "(III)V"⟩
abbrev b_P_openLength : ByteArray := prog_4_method_9_code
abbrev y_P_openLength : MethodName := ⟨"BoardStore$Pieces", "openLength", "()I"⟩
abbrev b_P_openAt : ByteArray := prog_4_method_10_code
abbrev y_P_openAt : MethodName := ⟨"BoardStore$Pieces", "openAt", "(I)I"⟩
abbrev b_P_add : ByteArray := prog_4_method_11_code
abbrev y_P_add : MethodName := ⟨"BoardStore$Pieces", "add", "(I)V"⟩
abbrev b_P_close : ByteArray := prog_4_method_12_code
abbrev y_P_close : MethodName := ⟨"BoardStore$Pieces", "close", "()I"⟩
abbrev b_P_clearOpen : ByteArray := prog_4_method_13_code
abbrev y_P_clearOpen : MethodName := ⟨"BoardStore$Pieces", "clearOpen", "()V"⟩
abbrev b_P_clear : ByteArray := prog_4_method_14_code
abbrev y_P_clear : MethodName := ⟨"BoardStore$Pieces", "clear", "()V"⟩
abbrev b_P_equalsOpen : ByteArray := prog_4_method_15_code
abbrev y_P_equalsOpen : MethodName := ⟨"BoardStore$Pieces", "equalsOpen", "(I)Z"⟩
abbrev b_P_sum : ByteArray := prog_4_method_16_code
abbrev y_P_sum : MethodName := ⟨"BoardStore$Pieces", "sum", "(III)I"⟩
abbrev b_W_cell : ByteArray := method_2_code
abbrev y_W_cell : MethodName := ⟨"BoardStoreLaw", "cell", "([II)I"⟩
abbrev b_W_feed : ByteArray := method_3_code
abbrev y_W_feed : MethodName := ⟨"BoardStoreLaw", "feed", "(LBoardStore;I[J)I"⟩
abbrev b_W_block : ByteArray := method_4_code
abbrev y_W_block : MethodName := ⟨"BoardStoreLaw", "block", "(LBoardStore;[J)I"⟩
abbrev b_W_version : ByteArray := method_5_code
abbrev y_W_version : MethodName := ⟨"BoardStoreLaw", "version", "(LBoardStore;[J)I"⟩
abbrev b_W_holds : ByteArray := method_6_code
abbrev y_W_holds : MethodName := ⟨"BoardStoreLaw", "holds", "(LBoardStore;II[J)I"⟩
abbrev b_W_root : ByteArray := method_7_code
abbrev y_W_root : MethodName := ⟨"BoardStoreLaw", "root", "(LBoardStore;I[J)I"⟩
abbrev b_W_sweep : ByteArray := method_8_code
abbrev y_W_sweep : MethodName := ⟨"BoardStoreLaw", "sweep", "(LBoardStore;[J)I"⟩
abbrev b_W_pack : ByteArray := method_9_code
abbrev y_W_pack : MethodName := ⟨"BoardStoreLaw", "pack", "(LBoardStore;[J)I"⟩
abbrev b_W_byteAt : ByteArray := method_10_code
abbrev y_W_byteAt : MethodName := ⟨"BoardStoreLaw", "byteAt", "(LBoardStore;II[J)I"⟩
abbrev b_W_crash : ByteArray := method_11_code
abbrev y_W_crash : MethodName := ⟨"BoardStoreLaw", "crash", "(LBoardStore;I[J)I"⟩
abbrev b_W_reopen : ByteArray := method_12_code
abbrev y_W_reopen : MethodName := ⟨"BoardStoreLaw", "reopen", "(LBoardStore;[J)I"⟩
abbrev b_W_poke : ByteArray := method_13_code
abbrev y_W_poke : MethodName := ⟨"BoardStoreLaw", "poke", "(LBoardStore;III[J)I"⟩
abbrev b_W_badAt : ByteArray := method_14_code
abbrev y_W_badAt : MethodName := ⟨"BoardStoreLaw", "badAt", "(LBoardStore;[J)I"⟩
abbrev b_W_packByte : ByteArray := method_15_code
abbrev y_W_packByte : MethodName := ⟨"BoardStoreLaw", "packByte", "(LBoardStore;II[J)I"⟩
abbrev b_W_digest : ByteArray := method_16_code
abbrev y_W_digest : MethodName := ⟨"BoardStoreLaw", "digest", "(LBoardStore;II[J)I"⟩
abbrev b_W_out : ByteArray := method_17_code
abbrev y_W_out : MethodName := ⟨"BoardStoreLaw", "out", "(LBoardStore;II[J)I"⟩
abbrev b_W_drop : ByteArray := method_18_code
abbrev y_W_drop : MethodName := ⟨"BoardStoreLaw", "drop", "(LBoardStore;I[J)I"⟩
def bstrs : List (String × Nat × String) := [("BoardStore", 185, "it crashed"), ("BoardStore", 197, "no such version"), ("BoardStore", 200, "no block had that number"), ("BoardStore", 206, "a byte's index is below 0"), ("BoardStore", 210, "the log does not have so many bytes"), ("BoardStore", 190, "it did not crash"), ("BoardStore", 202, "no such pack or byte"), ("BoardStore", 204, "no such byte of a sum")]
def bnests : List (String × Nat × MethodName × String) := [("BoardStore", 11, ⟨"BoardStore$Log", "<init>", "()V"⟩, "BoardStore"), ("BoardStore$Pieces", 51, ⟨"BoardStore", "nextSum", "(II)I"⟩, "BoardStore")]
def bnots : List (String × String) := [("java/lang/IllegalStateException", "java/lang/IndexOutOfBoundsException"), ("java/lang/IllegalStateException", "java/lang/IllegalArgumentException")]
end
section
/-! ===== bV: a walk over a world alone. The four judgements of the heap (va_P, va_D, va_S, the locals) are bundled; a method's world is its caller's whole world; a contract speaks of what comes back: a value, or the class of what was thrown ===== -/
-- the tables' words that stay true under warmer tables: one list for all methods
def bw_ok (w : Cond) : Bool := (w.onTables && w.keepsFace) || (match w with | .arrayClass _ => true | _ => false)
def bw : List Cond := lw_tbl.filter bw_ok
theorem bw_of {w : Cond} (h : w ∈ lw_tbl) (ho : bw_ok w = true) : w ∈ bw := List.mem_filter.mpr ⟨h, ho⟩
theorem bw_good {w : Cond} (h : bw_ok w = true) : (w.onTables = true ∧ w.keepsFace = true) ∨ ∃ ty, w = .arrayClass ty := by
  unfold bw_ok at h
  cases hk : (w.onTables && w.keepsFace) with
  | true => exact Or.inl (by simpa using hk)
  | false =>
    rw [hk, Bool.false_or] at h
    refine Or.inr ?_
    split at h
    · exact ⟨_, rfl⟩
    · cases h
theorem bw_warm {w : Cond} (h : w ∈ bw) {a a' : Array Value} {s U : State} (hW : s.WarmedH U.vm) (hb : w.before a s = true) : w.before a' U = true := by
  rcases bw_good (List.mem_filter.mp h).2 with ⟨h1, h2⟩ | h1
  · have h3 : w.before a (s.setVm U.vm) = true := Cond.before_shiftedFace (State.Shifted.of_warmed hW) w h2 hb
    rw [Cond.onTables_vm (A := a) (A' := a') (U := s) (U' := U) U.vm w h1, State.setVm_self] at h3
    exact h3
  · exact word_at hW (Or.inr h1) hb
-- locals by their numbers
def bl_get : List (Nat × Value) → Nat → Option Value
  | [], _ => none
  | q :: r, i => if q.1 = i then some q.2 else bl_get r i
theorem bl_mem : ∀ (lv : List (Nat × Value)) (i : Nat) (v : Value), bl_get lv i = some v → (i, v) ∈ lv := by
  intro lv
  induction lv with
  | nil => intro i v h; cases h
  | cons q r ih =>
    intro i v h
    unfold bl_get at h
    by_cases hq : q.1 = i
    · rw [if_pos hq] at h
      have h2 : q = (i, v) := by
        obtain ⟨a, b⟩ := q
        cases h
        cases hq
        rfl
      rw [h2]
      exact List.mem_cons_self
    · rw [if_neg hq] at h
      exact List.mem_cons_of_mem _ (ih i v h)
theorem bl_at {ls : Array Slot} {nL : Nat} {lv : List (Nat × Value)} {i : Nat} {v : Value} (hl : lv_has ls nL lv) (h : bl_get lv i = some v) : ls[i]? = some (.val v) := hl.2.2 (i, v) (bl_mem lv i v h)
def bl_set (lv : List (Nat × Value)) (i : Nat) (v : Value) : List (Nat × Value) := if (lv.any (fun q => q.1 == i)) = true then lv.map (fun q => if q.1 = i then (i, v) else q) else lv ++ [(i, v)]
theorem bl_set_mem {lv : List (Nat × Value)} {i : Nat} {v : Value} {q : Nat × Value} (h : q ∈ bl_set lv i v) : q = (i, v) ∨ (q ∈ lv ∧ q.1 ≠ i) := by
  unfold bl_set at h
  split at h
  · obtain ⟨z, hz, rfl⟩ := List.mem_map.mp h
    by_cases hq : z.1 = i
    · exact Or.inl (if_pos hq)
    · rw [if_neg hq]; exact Or.inr ⟨hz, hq⟩
  · rename_i hn
    rcases List.mem_append.mp h with h | h
    · by_cases hq : q.1 = i
      · exact absurd (List.any_eq_true.mpr ⟨q, h, by simpa using hq⟩) hn
      · exact Or.inr ⟨h, hq⟩
    · exact Or.inl (List.mem_singleton.mp h)
theorem bl_put {ls : Array Slot} {nL : Nat} {lv lv' : List (Nat × Value)} {i : Nat} {v : Value} (h : lv_has ls nL ((i, v) :: lv.filter (fun q => !(q.1 == i) && !(q.1 + 1 == i && q.2.category == 2)))) (hc : lv.all (fun q => q.2.category == 1) = true) (he : bl_set lv i v = lv') : lv_has ls nL lv' := by
  subst he
  refine ⟨h.1, h.2.1, fun q hq => ?_⟩
  rcases bl_set_mem hq with rfl | ⟨h1, h2⟩
  · exact h.2.2 _ List.mem_cons_self
  · refine h.2.2 q (List.mem_cons_of_mem _ (List.mem_filter.mpr ⟨h1, ?_⟩))
    have h3 : q.2.category = 1 := by simpa using List.all_eq_true.mp hc q h1
    simp [h2, h3]
-- what lies outside of every world: the statics that a Throwable's constructor reads, the String constants, words that are no words of bw
def bZ (C n d : String) (U : State) : Prop := (Cond.laysStatic C n d).before #[] U = true ∧ (Cond.isRef (.static C n d)).before #[] U = true
theorem bZ.go {C n d : String} {s U : State} (hW : s.vm.Alike U.vm) (hk : ∀ (a : Nat) (cell : Cell), s.heap[a]? = some cell → cell.vm.isStatics = true → U.heap[a]? = some cell) (h : bZ C n d s) : bZ C n d U := by
  obtain ⟨h1, h2⟩ := h
  obtain ⟨c, k, i, f, a, cell, hc, hi, hst, ha, hcell, hs, hcls, hlt, hty⟩ := Cond.laysStatic_spec h1
  obtain ⟨k', hi', he⟩ := State.fieldFound?_setVm hW hi
  have hi2 : U.fieldFound? C n d = some (c, k', i, f) := hi'
  have hcell' := hk a cell hcell hs
  refine ⟨Cond.laysStatic_of (by rw [hW.findClass]; exact hc) hi2 hst (by rw [he]; exact ha) hcell' hs hcls hlt (by rw [he]; exact hty), ?_⟩
  cases hv : (Term.static C n d).eval #[] s none [] s with
  | none => simp [Cond.before, Cond.holds, Cond.value, hv] at h2
  | some v =>
    obtain ⟨-, a', cell2, ha', hcell2, -, hsl⟩ := Term.static_spec hi hv
    cases ha.symm.trans ha'
    cases hcell.symm.trans hcell2
    have hv2 : (Term.static C n d).eval #[] U none [] U = some v := Term.static_eval hi2 hst (by rw [he]; exact ha) hcell' hs hsl
    simp only [Cond.before, Cond.holds, Cond.value, hv] at h2
    simp only [Cond.before, Cond.holds, Cond.value, hv2]
    exact h2
def bX (U : State) : Prop := bZ Bundle.tN "UNASSIGNED_STACK" Bundle.steD U ∧ bZ Bundle.tN "SUPPRESSED_SENTINEL" Bundle.listD U ∧ (∀ q ∈ bstrs, ∃ a, vk_R q.1 q.2.1 q.2.2 a U) ∧ (∀ q ∈ bnots, va_Nc q.1 q.2 U) ∧ (∀ q ∈ bnests, va_Nw (.methodLinkNest q.1 q.2.1 q.2.2.1 q.2.2.2) U)
theorem bX.same {u U : State} (hv : U.vm = u.vm) (hh : U.heap = u.heap) (h : bX u) : bX U := by
  have hal : u.vm.Alike U.vm := by rw [hv]; exact Vm.Alike.refl _
  have hk : ∀ (a : Nat) (cell : Cell), u.heap[a]? = some cell → cell.vm.isStatics = true → U.heap[a]? = some cell := fun a cell h1 _ => by rw [hh]; exact h1
  obtain ⟨h1, h2, h3, h4, h5⟩ := h
  exact ⟨h1.go hal hk, h2.go hal hk, fun q hq => (h3 q hq).imp fun a ha => vk_R.same hv ha, fun q hq => (h4 q hq).moved hal, fun q hq => va_Nw.same rfl hv.symm (h5 q hq)⟩
theorem bX.go {s U : State} (hW : s.WarmedH U.vm) (hk : ∀ (a : Nat) (cell : Cell), s.heap[a]? = some cell → cell.vm.isStatics = true → U.heap[a]? = some cell) (h : bX s) : bX U := by
  obtain ⟨h1, h2, h3, h4, h5⟩ := h
  exact ⟨h1.go hW.alike hk, h2.go hW.alike hk, fun q hq => (h3 q hq).imp fun a ha => vk_R.warm hW ha, fun q hq => (h4 q hq).moved hW.alike, fun q hq => va_Nw.warmM hW (h5 q hq)⟩
-- a walk's fixed things
abbrev bCtx := Program × Launch × Env × Room × State × MethodId × Array Value × List Frame × Method × Code × (Nat → Prop) × (State → Prop)
abbrev bTb := List (Nat × Nat × Nat × Nat)
def bV (D : va_G) (cl : List vw_C) (Γ : bCtx) (nL : Nat) (ws : va_W) (k n pc : Nat) (lv : List (Nat × Value)) (st : List Value) : Prop := match Γ with
  | (p, l, e, R, s, m, args, below, meth, c, A, Q) => ∀ (H : Heap) (locs : List Loc) (ls : Array Slot), va_P D cl ws H → va_D A ws → va_S A s.heap H locs → lv_has ls nL lv → W p l e R s m args below meth c H locs k n Q (F0 m pc ls st)
-- .. and an exception of the class E comes out of the instruction at pc
def bT (D : va_G) (cl : List vw_C) (Γ : bCtx) (nL : Nat) (ws : va_W) (k n pc : Nat) (lv : List (Nat × Value)) (E : String) : Prop := match Γ with
  | (p, l, e, R, s, m, args, below, meth, c, A, Q) => ∀ (H : Heap) (locs : List Loc) (ls : Array Slot) (st : List Value) (a : Addr) (ce : Cell), va_P D cl ws H → va_D A ws → va_S A s.heap H locs → lv_has ls nL lv → s.heap.size ≤ a → H[a]? = some ce → ce.vm.isStatics = false → s.vm.findClass E = some ce.cls →
    ∀ T : State, T.heap = H → Stand p l e R s m args below meth c T locs k n → ∃ t, Steps p.tables e below ((T.setTop (F0 m pc ls st)).pushFrame (.throwing a)) t ∧ Q t
def bG (D : va_G) (cl : List vw_C) (tys : List (ClassId × FieldType)) (Γ : bCtx) (own : String) (cc : ByteArray) (nL : Nat) (ret : Option FieldType) (nm : String) (tb : bTb) (rm : Room) : Prop := match Γ with
  | (p, l, e, R, s, m, args, below, meth, c, A, Q) => p.tables.exec = Jvm.exec ∧ c.code = cc ∧ c.maxLocals = nL ∧ s.vm.findClass own = some m.cls ∧ (∀ w ∈ bw, w.before args s = true) ∧ va_K D cl tys s ∧ (∀ q, s.heap.size ≤ q → A q) ∧ (∀ (q : Nat) (cell : Cell), A q → s.heap[q]? = some cell → cell.vm.isStatics = false) ∧ bX s ∧
    meth.locks = false ∧ meth.sig.returnType = ret ∧ meth.name = nm ∧ c.exceptionTable.toList = tableOf tb ∧ R = rm ∧ l.stackTraces = false
-- what a method gives back
abbrev bo := Option Value ⊕ String
def bo_is (r : bo) (o : Outcome) (t : State) (sz : Nat) : Prop := match r with
  | .inl v => o = .returned v
  | .inr E => ∃ (a : Addr) (ce : Cell), o = .threw a ∧ sz ≤ a ∧ t.heap[a]? = some ce ∧ ce.vm.isStatics = false ∧ t.vm.findClass E = some ce.cls
def bq (D : va_G) (cl : List vw_C) (ws0 : va_W) (sz : Nat) (post : bo → va_W → Prop) : Array Value → State → Outcome → State → Prop := fun _ st o t =>
  ∃ (r : bo) (ws1 : va_W), bo_is r o t sz ∧ post r ws1 ∧ va_P D cl ws1 t.heap ∧ va_D (va_A ws0 sz) ws1 ∧ va_F (va_A ws0 sz) st t
def bEnd (st : State) (o : Outcome) (t : State) (L : List Loc) (k n : Nat) : Prop := ((∃ v, o = .returned v) ∨ ∃ a, o = .threw a) ∧ st.WarmedH t.vm ∧ st.sameButNew ({ t with vm := st.vm } : State) L k n
def bMQ (below : List Frame) (Qc : Array Value → State → Outcome → State → Prop) (a : Array Value) (s : State) (mc ms : Nat) (free : Addr → Prop) : State → Prop := fun t =>
  ∃ o, t.status = .running ∧ Ended t below o ∧ Qc a s o t ∧ ∃ L, bEnd s o t L mc ms ∧ ∀ q ∈ L, free q.base
def bMet (l : Launch) (y : MethodName) (S : Spec) (Pc : Array Value → State → Prop) (Qc : Array Value → State → Outcome → State → Prop) (mc ms : Nat) (free : Addr → Prop) : Prop :=
  MetFree l y S Pc (fun _ _ _ _ _ => True) (fun a st o t => Qc a st o t ∧ ∃ L, bEnd st o t L mc ms ∧ ∀ q ∈ L, free q.base)
def bP (D : va_G) (cl : List vw_C) (tys : List (ClassId × FieldType)) (ws : va_W) (sz : Nat) (av : List Value) : Array Value → State → Prop := fun v U =>
  v = av.toArray ∧ U.heap.size = sz ∧ va_P D cl ws U.heap ∧ va_K D cl tys U ∧ va_D (fun _ => True) ws ∧ bX U
/-- THE CONTRACT of y: from any heap that holds the world ws, at the arguments av, within the room rm: 'post' of what comes back and of the world behind it -/
def bC (D : va_G) (cl : List vw_C) (tys : List (ClassId × FieldType)) (y : MethodName) (rm : Room) (ws : va_W) (av : List Value) (post : bo → va_W → Prop) : Prop :=
  ∀ l : Launch, l.stackTraces = false → ∀ sz : Nat, bMet l y (headSpec bw rm) (bP D cl tys ws sz av) (bq D cl ws sz post) rm.cells rm.slots (va_A ws sz)
theorem bP.blind {D : va_G} {cl : List vw_C} {tys : List (ClassId × FieldType)} {ws : va_W} {sz : Nat} {av : List Value} : FrameBlind (bP D cl tys ws sz av) := by
  intro a U g mk h
  obtain ⟨h1, h2, h3, h4, h5, h6⟩ := h
  exact ⟨h1, h2, h3, va_K.moved (u := U) (U := U.calling g mk a) (Vm.Alike.refl U.vm) h4, h5, bX.same (u := U) (U := U.calling g mk a) rfl rfl h6⟩
/-- Q and A are those of a method's contract -/
def bE (D : va_G) (cl : List vw_C) (Γ : bCtx) (ws0 : va_W) (post : bo → va_W → Prop) (rm : Room) : Prop := match Γ with
  | (_, _, _, _, s, _, args, below, _, _, A, Q) => A = va_A ws0 s.heap.size ∧ Q = bMQ below (bq D cl ws0 s.heap.size post) args s rm.cells rm.slots (va_A ws0 s.heap.size)
theorem bW_mono {p : Program} {l : Launch} {e : Env} {R : Room} {s : State} {m : MethodId} {args : Array Value} {below : List Frame} {meth : Method} {c : Code} {H : Heap} {locs : List Loc} {k n : Nat} {Q Q' : State → Prop} {g : JFrame} (h : ∀ t, Q t → Q' t) (hw : W p l e R s m args below meth c H locs k n Q g) : W p l e R s m args below meth c H locs k n Q' g := by
  intro T hT X
  obtain ⟨t, a, b⟩ := hw T hT X
  exact ⟨t, a, h t b⟩
theorem bMQ_of {below : List Frame} {Qc : Array Value → State → Outcome → State → Prop} {a : Array Value} {s : State} {mc ms : Nat} {free : Addr → Prop} {t : State} (h : MQ below Qc a s mc ms free t) : bMQ below Qc a s mc ms free t := by
  obtain ⟨o, h1, h2, h3, L, ⟨h4, h5, h6⟩, h7⟩ := h
  exact ⟨o, h1, h2, h3, L, ⟨Or.inl h4, h5, h6⟩, h7⟩
-- the code of a method, by its word
def bcode (y : MethodName) (b : ByteArray) (n : Nat) (r : Option FieldType) (tb : bTb) : Prop := (Cond.code y b n r ∈ bw ∧ tb = []) ∨ Cond.codeWith y b n r tb ∈ bw
theorem bcode.spec {y : MethodName} {b : ByteArray} {n : Nat} {r : Option FieldType} {tb : bTb} (h : bcode y b n r tb) {args : Array Value} {s : State} (hts : ∀ w ∈ bw, w.before args s = true) :
    ∃ mk meth c, s.methodNamed? y = some mk ∧ s.vm.method? mk = some meth ∧ meth.code = some c ∧ c.code = b ∧ c.maxLocals = n ∧ meth.sig.returnType = r ∧ meth.locks = false ∧ c.exceptionTable.toList = tableOf tb ∧ parseMethodDescriptor y.desc = some meth.sig := by
  rcases h with ⟨h, rfl⟩ | h
  · obtain ⟨mk, hn⟩ := Cond.code_named (hts _ h)
    obtain ⟨meth, c, h1, h2, h3, h4, h5, h6, h7, h8⟩ := Cond.code_spec hn (hts _ h)
    refine ⟨mk, meth, c, hn, h1, h2, h3, h4, h5, h6, ?_, h8⟩
    have h9 : c.exceptionTable = #[] := by simpa using h7
    rw [h9]; rfl
  · obtain ⟨mk, meth, c, hn, h1, h2, h3, h4, h7, h5, h6, h8⟩ := Cond.codeWith_spec (hts _ h)
    exact ⟨mk, meth, c, hn, h1, h2, h3, h4, h5, h6, by rw [← h7, table_eq], h8⟩
/-- a contract out of a walk of the body -/
theorem bC.of {D : va_G} {cl : List vw_C} {tys : List (ClassId × FieldType)} {y : MethodName} {b : ByteArray} {nL : Nat} {ret : Option FieldType} {tb : bTb} {rm : Room} {ws : va_W} {av : List Value} {post : bo → va_W → Prop}
    (hy : plainName y.cls = true) (hc : bcode y b nL ret tb) (hav : (lg_sl av).length ≤ nL)
    (body : ∀ Γ : bCtx, bG D cl tys Γ y.cls b nL ret y.name tb rm → bE D cl Γ ws post rm → bV D cl Γ nL ws 0 0 0 (lv_args 0 av) []) : bC D cl tys y rm ws av post := by
  intro l hl sz
  refine MetFree.of_bodyS (code := b) (maxLocals := nL) (ret := ret) hy ?_ ?_
  · intro args s m h hn
    obtain ⟨mk, meth, c, h0, h1, h2, h3, h4, h5, h6, -, -⟩ := hc.spec (atoms_spec (ws := bw) h)
    cases hn.symm.trans h0
    exact ⟨meth, c, h1, h2, h3, h4, h5, h6⟩
  · intro p e s m args below meth c s₁ B hml hP _
    obtain ⟨rfl, hsz, hPw, hK, hD0, hX⟩ := hP
    subst hsz
    have hts := atoms_spec (ws := bw) B.pre
    have hh0 : s₁.heap = s.heap := by rw [B.state]; rfl
    obtain ⟨mk, meth', c', q0, q1, q2, -, -, -, -, q7, -⟩ := hc.spec hts
    cases B.named.symm.trans q0
    cases B.method.symm.trans q1
    cases (Stand.of_body B).code.symm.trans q2
    have hst : ∀ (q : Nat) (cell : Cell), va_A ws s.heap.size q → s.heap[q]? = some cell → cell.vm.isStatics = false := by
      intro q cell hq hcell
      rcases hq with ⟨k, e, hk⟩ | hq
      · have h1 := hPw k _ hk
        cases e with
        | inl x =>
          have h2 : s.heap[q]? = some (vp_cell x.1 x.2) := h1
          cases hcell.symm.trans h2
          obtain ⟨cA, nn, f | f | f | f | f⟩ := x <;> rfl
        | inr o =>
          obtain ⟨r, -, cell', h2, -, h3, -⟩ := h1
          cases hcell.symm.trans h2
          rw [h3]; rfl
      · have := (Array.getElem?_eq_some_iff.mp hcell).1
        omega
    have hl2 := lv_entry av (n := nL) hav
    have K := body (p, l, e, rm, s, m, av.toArray, below, meth, c, va_A ws s.heap.size, bMQ below (bq D cl ws s.heap.size post) av.toArray s rm.cells rm.slots (va_A ws s.heap.size))
      ⟨B.exec, B.bytes, hml, findClass_of_methodNamed B.named, hts, hK, fun q h => Or.inr h, hst, hX, B.notSynchronized, B.returns, (name_of_methodNamed B.named B.method).1, q7, rfl, hl⟩ ⟨rfl, rfl⟩
    have K2 : W p l e rm s m av.toArray below meth c s.heap [] 0 0 (bMQ below (bq D cl ws s.heap.size post) av.toArray s rm.cells rm.slots (va_A ws s.heap.size)) (entryFrame m av.toArray nL) := by
      rw [lg_entry_eq]
      exact K s.heap [] _ hPw hD0.self va_S.rf hl2
    obtain ⟨t, a1, o, b1, b2, b3⟩ := K2 s₁ hh0 (Stand.of_body B)
    exact ⟨t, o, a1, b1, b2, b3⟩
end
section
section BVR
variable {D : va_G} {cl : List vw_C} {tys : List (ClassId × FieldType)} {Γ : bCtx} {own : String} {cc : ByteArray} {nL : Nat} {ret : Option FieldType} {nm : String} {tb : bTb} {rm : Room} {ws : va_W} {k n pc : Nat} {lv : List (Nat × Value)} {rest : List Value}
theorem bV.iconst (G : bG D cl tys Γ own cc nL ret nm tb rm) {i : Int} {v : Int32} (hd : decode cc pc = .ok (.iconst i, 1)) (hv : Int32.ofInt i = v) (kk : bV D cl Γ nL ws k n (pc + 1) lv (.int v :: rest)) : bV D cl Γ nL ws k n (pc) lv (rest) := by
  obtain ⟨p, l, e, R, s, m, args, below, meth, c, A, Q⟩ := Γ
  obtain ⟨hx, hb, hml, hown, hts, -⟩ := G
  intro H locs ls hP hD hS hl
  exact lv_iconst hx hb hd hv (kk H locs ls hP hD hS hl)
theorem bV.bipush (G : bG D cl tys Γ own cc nL ret nm tb rm) {i : Int} {v : Int32} (hd : decode cc pc = .ok (.bipush i, 2)) (hv : (Int8.ofInt i).toInt32 = v) (kk : bV D cl Γ nL ws k n (pc + 2) lv (.int v :: rest)) : bV D cl Γ nL ws k n (pc) lv (rest) := by
  obtain ⟨p, l, e, R, s, m, args, below, meth, c, A, Q⟩ := Γ
  obtain ⟨hx, hb, hml, hown, hts, -⟩ := G
  intro H locs ls hP hD hS hl
  exact lv_bipush hx hb hd hv (kk H locs ls hP hD hS hl)
theorem bV.sipush (G : bG D cl tys Γ own cc nL ret nm tb rm) {i : Int} {v : Int32} (hd : decode cc pc = .ok (.sipush i, 3)) (hv : (Int16.ofInt i).toInt32 = v) (kk : bV D cl Γ nL ws k n (pc + 3) lv (.int v :: rest)) : bV D cl Γ nL ws k n (pc) lv (rest) := by
  obtain ⟨p, l, e, R, s, m, args, below, meth, c, A, Q⟩ := Γ
  obtain ⟨hx, hb, hml, hown, hts, -⟩ := G
  intro H locs ls hP hD hS hl
  exact lv_sipush hx hb hd hv (kk H locs ls hP hD hS hl)
theorem bV.lconst (G : bG D cl tys Γ own cc nL ret nm tb rm) {i : Fin 2} {v : Int64} (hd : decode cc pc = .ok (.lconst i, 1)) (hv : Int64.ofNat (i : Nat) = v) (kk : bV D cl Γ nL ws k n (pc + 1) lv (.long v :: rest)) : bV D cl Γ nL ws k n (pc) lv (rest) := by
  obtain ⟨p, l, e, R, s, m, args, below, meth, c, A, Q⟩ := Γ
  obtain ⟨hx, hb, hml, hown, hts, -⟩ := G
  intro H locs ls hP hD hS hl
  exact lv_lconst hx hb hd hv (kk H locs ls hP hD hS hl)
theorem bV.ldc (G : bG D cl tys Γ own cc nL ret nm tb rm) {i : Nat} {v : Int32} (hd : decode cc pc = .ok (.ldc i, 2)) (hw : Jvm.Cond.constant own i v ∈ bw) (kk : bV D cl Γ nL ws k n (pc + 2) lv (.int v :: rest)) : bV D cl Γ nL ws k n (pc) lv (rest) := by
  obtain ⟨p, l, e, R, s, m, args, below, meth, c, A, Q⟩ := Γ
  obtain ⟨hx, hb, hml, hown, hts, -⟩ := G
  intro H locs ls hP hD hS hl
  exact lv_ldc hx hb hown (hts _ hw) hd (kk H locs ls hP hD hS hl)
theorem bV.iload_n (G : bG D cl tys Γ own cc nL ret nm tb rm) {i : Fin 4} {x : Int32} (hd : decode cc pc = .ok (.iload_n i, 1)) (hg : bl_get lv (i : Nat) = some (.int x)) (kk : bV D cl Γ nL ws k n (pc + 1) lv (.int x :: rest)) : bV D cl Γ nL ws k n (pc) lv (rest) := by
  obtain ⟨p, l, e, R, s, m, args, below, meth, c, A, Q⟩ := Γ
  obtain ⟨hx, hb, hml, hown, hts, -⟩ := G
  intro H locs ls hP hD hS hl
  exact lv_iload_n hx hb hd rfl (bl_at hl hg) (kk H locs ls hP hD hS hl)
theorem bV.iload (G : bG D cl tys Γ own cc nL ret nm tb rm) {i : Nat} {x : Int32} (hd : decode cc pc = .ok (.iload i, 2)) (hg : bl_get lv i = some (.int x)) (kk : bV D cl Γ nL ws k n (pc + 2) lv (.int x :: rest)) : bV D cl Γ nL ws k n (pc) lv (rest) := by
  obtain ⟨p, l, e, R, s, m, args, below, meth, c, A, Q⟩ := Γ
  obtain ⟨hx, hb, hml, hown, hts, -⟩ := G
  intro H locs ls hP hD hS hl
  exact lv_iload hx hb hd (bl_at hl hg) (kk H locs ls hP hD hS hl)
theorem bV.istore_n (G : bG D cl tys Γ own cc nL ret nm tb rm) {i : Fin 4} {x : Int32} {lv' : List (Nat × Value)} (hd : decode cc pc = .ok (.istore_n i, 1)) (hn : (i : Nat) < nL) (hc : lv.all (fun q => q.2.category == 1) = true) (he : bl_set lv (i : Nat) (.int x) = lv') (kk : bV D cl Γ nL ws k n (pc + 1) lv' (rest)) : bV D cl Γ nL ws k n (pc) lv (.int x :: rest) := by
  obtain ⟨p, l, e, R, s, m, args, below, meth, c, A, Q⟩ := Γ
  obtain ⟨hx, hb, hml, hown, hts, -⟩ := G
  intro H locs ls hP hD hS hl
  exact lv_istore_n hx hb hd rfl hl hn rfl (fun ls' hl' => kk H locs ls' hP hD hS (bl_put hl' hc he))
theorem bV.istore (G : bG D cl tys Γ own cc nL ret nm tb rm) {i : Nat} {x : Int32} {lv' : List (Nat × Value)} (hd : decode cc pc = .ok (.istore i, 2)) (hn : i < nL) (hc : lv.all (fun q => q.2.category == 1) = true) (he : bl_set lv i (.int x) = lv') (kk : bV D cl Γ nL ws k n (pc + 2) lv' (rest)) : bV D cl Γ nL ws k n (pc) lv (.int x :: rest) := by
  obtain ⟨p, l, e, R, s, m, args, below, meth, c, A, Q⟩ := Γ
  obtain ⟨hx, hb, hml, hown, hts, -⟩ := G
  intro H locs ls hP hD hS hl
  exact lv_istore hx hb hd hl hn rfl (fun ls' hl' => kk H locs ls' hP hD hS (bl_put hl' hc he))
theorem bV.aload_n (G : bG D cl tys Γ own cc nL ret nm tb rm) {i : Fin 4} {x : Nat} (hd : decode cc pc = .ok (.aload_n i, 1)) (hg : bl_get lv (i : Nat) = some (.ref x)) (kk : bV D cl Γ nL ws k n (pc + 1) lv (.ref x :: rest)) : bV D cl Γ nL ws k n (pc) lv (rest) := by
  obtain ⟨p, l, e, R, s, m, args, below, meth, c, A, Q⟩ := Γ
  obtain ⟨hx, hb, hml, hown, hts, -⟩ := G
  intro H locs ls hP hD hS hl
  exact lv_aload_n hx hb hd rfl (bl_at hl hg) (kk H locs ls hP hD hS hl)
theorem bV.aload (G : bG D cl tys Γ own cc nL ret nm tb rm) {i : Nat} {x : Nat} (hd : decode cc pc = .ok (.aload i, 2)) (hg : bl_get lv i = some (.ref x)) (kk : bV D cl Γ nL ws k n (pc + 2) lv (.ref x :: rest)) : bV D cl Γ nL ws k n (pc) lv (rest) := by
  obtain ⟨p, l, e, R, s, m, args, below, meth, c, A, Q⟩ := Γ
  obtain ⟨hx, hb, hml, hown, hts, -⟩ := G
  intro H locs ls hP hD hS hl
  exact lv_aload hx hb hd (bl_at hl hg) (kk H locs ls hP hD hS hl)
theorem bV.astore_n (G : bG D cl tys Γ own cc nL ret nm tb rm) {i : Fin 4} {x : Nat} {lv' : List (Nat × Value)} (hd : decode cc pc = .ok (.astore_n i, 1)) (hn : (i : Nat) < nL) (hc : lv.all (fun q => q.2.category == 1) = true) (he : bl_set lv (i : Nat) (.ref x) = lv') (kk : bV D cl Γ nL ws k n (pc + 1) lv' (rest)) : bV D cl Γ nL ws k n (pc) lv (.ref x :: rest) := by
  obtain ⟨p, l, e, R, s, m, args, below, meth, c, A, Q⟩ := Γ
  obtain ⟨hx, hb, hml, hown, hts, -⟩ := G
  intro H locs ls hP hD hS hl
  exact lv_astore_n hx hb hd rfl hl hn rfl (fun ls' hl' => kk H locs ls' hP hD hS (bl_put hl' hc he))
theorem bV.astore (G : bG D cl tys Γ own cc nL ret nm tb rm) {i : Nat} {x : Nat} {lv' : List (Nat × Value)} (hd : decode cc pc = .ok (.astore i, 2)) (hn : i < nL) (hc : lv.all (fun q => q.2.category == 1) = true) (he : bl_set lv i (.ref x) = lv') (kk : bV D cl Γ nL ws k n (pc + 2) lv' (rest)) : bV D cl Γ nL ws k n (pc) lv (.ref x :: rest) := by
  obtain ⟨p, l, e, R, s, m, args, below, meth, c, A, Q⟩ := Γ
  obtain ⟨hx, hb, hml, hown, hts, -⟩ := G
  intro H locs ls hP hD hS hl
  exact lv_astore hx hb hd hl hn rfl (fun ls' hl' => kk H locs ls' hP hD hS (bl_put hl' hc he))
theorem bl_idx {lv : List (Nat × Value)} {i : Nat} {v : Value} (h : bl_get lv i = some v) : ∃ j : Nat, lv[j]? = some (i, v) := List.getElem?_of_mem (bl_mem lv i v h)
theorem bV.iinc (G : bG D cl tys Γ own cc nL ret nm tb rm) {i : Nat} {d : Int} {x v : Int32} {lv' : List (Nat × Value)} (hd : decode cc pc = .ok (.iinc i d, 3)) (hg : bl_get lv i = some (.int x)) (hv : x + Int32.ofInt d = v) (hn : i < nL) (hc : lv.all (fun q => q.2.category == 1) = true) (he : bl_set lv i (.int v) = lv') (kk : bV D cl Γ nL ws k n (pc + 3) lv' (rest)) : bV D cl Γ nL ws k n (pc) lv (rest) := by
  obtain ⟨p, l, e, R, s, m, args, below, meth, c, A, Q⟩ := Γ
  obtain ⟨hx, hb, hml, hown, hts, -⟩ := G
  intro H locs ls hP hD hS hl
  obtain ⟨j, hj⟩ := bl_idx hg
  exact lv_iinc hx hb hd hl hj hv hn rfl (fun ls' hl' => kk H locs ls' hP hD hS (bl_put hl' hc he))
theorem bV.iadd (G : bG D cl tys Γ own cc nL ret nm tb rm) {x y : Int32} (hd : decode cc pc = .ok (.iadd, 1)) (kk : bV D cl Γ nL ws k n (pc + 1) lv (.int (x + y) :: rest)) : bV D cl Γ nL ws k n (pc) lv (.int y :: .int x :: rest) := by
  obtain ⟨p, l, e, R, s, m, args, below, meth, c, A, Q⟩ := Γ
  obtain ⟨hx, hb, hml, hown, hts, -⟩ := G
  intro H locs ls hP hD hS hl
  exact lv_iadd hx hb hd (kk H locs ls hP hD hS hl)
theorem bV.isub (G : bG D cl tys Γ own cc nL ret nm tb rm) {x y : Int32} (hd : decode cc pc = .ok (.isub, 1)) (kk : bV D cl Γ nL ws k n (pc + 1) lv (.int (x - y) :: rest)) : bV D cl Γ nL ws k n (pc) lv (.int y :: .int x :: rest) := by
  obtain ⟨p, l, e, R, s, m, args, below, meth, c, A, Q⟩ := Γ
  obtain ⟨hx, hb, hml, hown, hts, -⟩ := G
  intro H locs ls hP hD hS hl
  exact lv_isub hx hb hd (kk H locs ls hP hD hS hl)
theorem bV.imul (G : bG D cl tys Γ own cc nL ret nm tb rm) {x y : Int32} (hd : decode cc pc = .ok (.imul, 1)) (kk : bV D cl Γ nL ws k n (pc + 1) lv (.int (x * y) :: rest)) : bV D cl Γ nL ws k n (pc) lv (.int y :: .int x :: rest) := by
  obtain ⟨p, l, e, R, s, m, args, below, meth, c, A, Q⟩ := Γ
  obtain ⟨hx, hb, hml, hown, hts, -⟩ := G
  intro H locs ls hP hD hS hl
  exact lv_imul hx hb hd (kk H locs ls hP hD hS hl)
theorem bV.iand (G : bG D cl tys Γ own cc nL ret nm tb rm) {x y : Int32} (hd : decode cc pc = .ok (.iand, 1)) (kk : bV D cl Γ nL ws k n (pc + 1) lv (.int (x &&& y) :: rest)) : bV D cl Γ nL ws k n (pc) lv (.int y :: .int x :: rest) := by
  obtain ⟨p, l, e, R, s, m, args, below, meth, c, A, Q⟩ := Γ
  obtain ⟨hx, hb, hml, hown, hts, -⟩ := G
  intro H locs ls hP hD hS hl
  exact lv_iand hx hb hd (kk H locs ls hP hD hS hl)
theorem bV.ior (G : bG D cl tys Γ own cc nL ret nm tb rm) {x y : Int32} (hd : decode cc pc = .ok (.ior, 1)) (kk : bV D cl Γ nL ws k n (pc + 1) lv (.int (x ||| y) :: rest)) : bV D cl Γ nL ws k n (pc) lv (.int y :: .int x :: rest) := by
  obtain ⟨p, l, e, R, s, m, args, below, meth, c, A, Q⟩ := Γ
  obtain ⟨hx, hb, hml, hown, hts, -⟩ := G
  intro H locs ls hP hD hS hl
  exact lv_ior hx hb hd (kk H locs ls hP hD hS hl)
theorem bV.ixor (G : bG D cl tys Γ own cc nL ret nm tb rm) {x y : Int32} (hd : decode cc pc = .ok (.ixor, 1)) (kk : bV D cl Γ nL ws k n (pc + 1) lv (.int (x ^^^ y) :: rest)) : bV D cl Γ nL ws k n (pc) lv (.int y :: .int x :: rest) := by
  obtain ⟨p, l, e, R, s, m, args, below, meth, c, A, Q⟩ := Γ
  obtain ⟨hx, hb, hml, hown, hts, -⟩ := G
  intro H locs ls hP hD hS hl
  exact lv_ixor hx hb hd (kk H locs ls hP hD hS hl)
theorem bV.ishl (G : bG D cl tys Γ own cc nL ret nm tb rm) {x y : Int32} (hd : decode cc pc = .ok (.ishl, 1)) (kk : bV D cl Γ nL ws k n (pc + 1) lv (.int (x <<< (y &&& 31)) :: rest)) : bV D cl Γ nL ws k n (pc) lv (.int y :: .int x :: rest) := by
  obtain ⟨p, l, e, R, s, m, args, below, meth, c, A, Q⟩ := Γ
  obtain ⟨hx, hb, hml, hown, hts, -⟩ := G
  intro H locs ls hP hD hS hl
  exact lv_ishl hx hb hd (kk H locs ls hP hD hS hl)
theorem bV.ishr (G : bG D cl tys Γ own cc nL ret nm tb rm) {x y : Int32} (hd : decode cc pc = .ok (.ishr, 1)) (kk : bV D cl Γ nL ws k n (pc + 1) lv (.int (x >>> (y &&& 31)) :: rest)) : bV D cl Γ nL ws k n (pc) lv (.int y :: .int x :: rest) := by
  obtain ⟨p, l, e, R, s, m, args, below, meth, c, A, Q⟩ := Γ
  obtain ⟨hx, hb, hml, hown, hts, -⟩ := G
  intro H locs ls hP hD hS hl
  exact lv_ishr hx hb hd (kk H locs ls hP hD hS hl)
theorem bV.iushr (G : bG D cl tys Γ own cc nL ret nm tb rm) {x y : Int32} (hd : decode cc pc = .ok (.iushr, 1)) (kk : bV D cl Γ nL ws k n (pc + 1) lv (.int (x.toUInt32 >>> (y.toUInt32 &&& Int32.toUInt32 31)).toInt32 :: rest)) : bV D cl Γ nL ws k n (pc) lv (.int y :: .int x :: rest) := by
  obtain ⟨p, l, e, R, s, m, args, below, meth, c, A, Q⟩ := Γ
  obtain ⟨hx, hb, hml, hown, hts, -⟩ := G
  intro H locs ls hP hD hS hl
  exact lv_iushr hx hb hd rfl (kk H locs ls hP hD hS hl)
theorem bV.ineg (G : bG D cl tys Γ own cc nL ret nm tb rm) {x : Int32} (hd : decode cc pc = .ok (.ineg, 1)) (kk : bV D cl Γ nL ws k n (pc + 1) lv (.int (-x) :: rest)) : bV D cl Γ nL ws k n (pc) lv (.int x :: rest) := by
  obtain ⟨p, l, e, R, s, m, args, below, meth, c, A, Q⟩ := Γ
  obtain ⟨hx, hb, hml, hown, hts, -⟩ := G
  intro H locs ls hP hD hS hl
  exact lv_ineg hx hb hd (kk H locs ls hP hD hS hl)
theorem bV.i2l (G : bG D cl tys Γ own cc nL ret nm tb rm) {x : Int32} (hd : decode cc pc = .ok (.i2l, 1)) (kk : bV D cl Γ nL ws k n (pc + 1) lv (.long x.toInt64 :: rest)) : bV D cl Γ nL ws k n (pc) lv (.int x :: rest) := by
  obtain ⟨p, l, e, R, s, m, args, below, meth, c, A, Q⟩ := Γ
  obtain ⟨hx, hb, hml, hown, hts, -⟩ := G
  intro H locs ls hP hD hS hl
  exact lv_i2l hx hb hd rfl (kk H locs ls hP hD hS hl)
theorem bV.lcmp (G : bG D cl tys Γ own cc nL ret nm tb rm) {x y : Int64} (hd : decode cc pc = .ok (.lcmp, 1)) (kk : bV D cl Γ nL ws k n (pc + 1) lv (.int (lg_cmp x y) :: rest)) : bV D cl Γ nL ws k n (pc) lv (.long y :: .long x :: rest) := by
  obtain ⟨p, l, e, R, s, m, args, below, meth, c, A, Q⟩ := Γ
  obtain ⟨hx, hb, hml, hown, hts, -⟩ := G
  intro H locs ls hP hD hS hl
  exact W.lcmp hx hb hd (kk H locs ls hP hD hS hl)
theorem bV.dup (G : bG D cl tys Γ own cc nL ret nm tb rm) {va : Value} (hd : decode cc pc = .ok (.dup, 1)) (hva : va.category = 1) (kk : bV D cl Γ nL ws k n (pc + 1) lv (va :: va :: rest)) : bV D cl Γ nL ws k n (pc) lv (va :: rest) := by
  obtain ⟨p, l, e, R, s, m, args, below, meth, c, A, Q⟩ := Γ
  obtain ⟨hx, hb, hml, hown, hts, -⟩ := G
  intro H locs ls hP hD hS hl
  exact lv_dup hx hb hd hva (kk H locs ls hP hD hS hl)
theorem bV.pop (G : bG D cl tys Γ own cc nL ret nm tb rm) {va : Value} (hd : decode cc pc = .ok (.pop, 1)) (hva : va.category = 1) (kk : bV D cl Γ nL ws k n (pc + 1) lv (rest)) : bV D cl Γ nL ws k n (pc) lv (va :: rest) := by
  obtain ⟨p, l, e, R, s, m, args, below, meth, c, A, Q⟩ := Γ
  obtain ⟨hx, hb, hml, hown, hts, -⟩ := G
  intro H locs ls hP hD hS hl
  exact lv_pop hx hb hd hva (kk H locs ls hP hD hS hl)
theorem bV.dup_x1 (G : bG D cl tys Γ own cc nL ret nm tb rm) {va vb : Value} (hd : decode cc pc = .ok (.dup_x1, 1)) (hva : va.category = 1) (hvb : vb.category = 1) (kk : bV D cl Γ nL ws k n (pc + 1) lv (va :: vb :: va :: rest)) : bV D cl Γ nL ws k n (pc) lv (va :: vb :: rest) := by
  obtain ⟨p, l, e, R, s, m, args, below, meth, c, A, Q⟩ := Γ
  obtain ⟨hx, hb, hml, hown, hts, -⟩ := G
  intro H locs ls hP hD hS hl
  exact lv_dup_x1 hx hb hd hva hvb (kk H locs ls hP hD hS hl)
theorem bV.dup_x2 (G : bG D cl tys Γ own cc nL ret nm tb rm) {va vb vd : Value} (hd : decode cc pc = .ok (.dup_x2, 1)) (hva : va.category = 1) (hvb : vb.category = 1) (hvd : vd.category = 1) (kk : bV D cl Γ nL ws k n (pc + 1) lv (va :: vb :: vd :: va :: rest)) : bV D cl Γ nL ws k n (pc) lv (va :: vb :: vd :: rest) := by
  obtain ⟨p, l, e, R, s, m, args, below, meth, c, A, Q⟩ := Γ
  obtain ⟨hx, hb, hml, hown, hts, -⟩ := G
  intro H locs ls hP hD hS hl
  exact lv_dup_x2 hx hb hd hva hvb hvd (kk H locs ls hP hD hS hl)
theorem bV.dup2 (G : bG D cl tys Γ own cc nL ret nm tb rm) {va vb : Value} (hd : decode cc pc = .ok (.dup2, 1)) (hva : va.category = 1) (hvb : vb.category = 1) (kk : bV D cl Γ nL ws k n (pc + 1) lv (va :: vb :: va :: vb :: rest)) : bV D cl Γ nL ws k n (pc) lv (va :: vb :: rest) := by
  obtain ⟨p, l, e, R, s, m, args, below, meth, c, A, Q⟩ := Γ
  obtain ⟨hx, hb, hml, hown, hts, -⟩ := G
  intro H locs ls hP hD hS hl
  exact lv_dup2_11 hx hb hd hva hvb (kk H locs ls hP hD hS hl)
theorem bV.goto (G : bG D cl tys Γ own cc nL ret nm tb rm) {off : Int} {tgt : Nat} (hd : decode cc pc = .ok (.goto off, 3)) (ht : (pc : Int) + off = (tgt : Int)) (kk : bV D cl Γ nL ws k n (tgt) lv (rest)) : bV D cl Γ nL ws k n (pc) lv (rest) := by
  obtain ⟨p, l, e, R, s, m, args, below, meth, c, A, Q⟩ := Γ
  obtain ⟨hx, hb, hml, hown, hts, -⟩ := G
  intro H locs ls hP hD hS hl
  exact lv_goto hx hb hd ht (kk H locs ls hP hD hS hl)
theorem bV.if_eq (G : bG D cl tys Γ own cc nL ret nm tb rm) {x : Int32} {off : Int} {tgt : Nat} (hd : decode cc pc = .ok (.ifCond .eq off, 3)) (ht : (pc : Int) + off = (tgt : Int)) (kt : x = 0 → bV D cl Γ nL ws k n (tgt) lv (rest)) (kf : ¬ x = 0 → bV D cl Γ nL ws k n (pc + 3) lv (rest)) : bV D cl Γ nL ws k n (pc) lv (.int x :: rest) := by
  obtain ⟨p, l, e, R, s, m, args, below, meth, c, A, Q⟩ := Γ
  obtain ⟨hx, hb, hml, hown, hts, -⟩ := G
  intro H locs ls hP hD hS hl
  exact lv_if_eq hx hb hd ht (fun h => kt h H locs ls hP hD hS hl) (fun h => kf h H locs ls hP hD hS hl)
theorem bV.if_ne (G : bG D cl tys Γ own cc nL ret nm tb rm) {x : Int32} {off : Int} {tgt : Nat} (hd : decode cc pc = .ok (.ifCond .ne off, 3)) (ht : (pc : Int) + off = (tgt : Int)) (kt : ¬ x = 0 → bV D cl Γ nL ws k n (tgt) lv (rest)) (kf : x = 0 → bV D cl Γ nL ws k n (pc + 3) lv (rest)) : bV D cl Γ nL ws k n (pc) lv (.int x :: rest) := by
  obtain ⟨p, l, e, R, s, m, args, below, meth, c, A, Q⟩ := Γ
  obtain ⟨hx, hb, hml, hown, hts, -⟩ := G
  intro H locs ls hP hD hS hl
  exact lv_if_ne hx hb hd ht (fun h => kt h H locs ls hP hD hS hl) (fun h => kf h H locs ls hP hD hS hl)
theorem bV.if_lt (G : bG D cl tys Γ own cc nL ret nm tb rm) {x : Int32} {off : Int} {tgt : Nat} (hd : decode cc pc = .ok (.ifCond .lt off, 3)) (ht : (pc : Int) + off = (tgt : Int)) (kt : x < 0 → bV D cl Γ nL ws k n (tgt) lv (rest)) (kf : ¬ x < 0 → bV D cl Γ nL ws k n (pc + 3) lv (rest)) : bV D cl Γ nL ws k n (pc) lv (.int x :: rest) := by
  obtain ⟨p, l, e, R, s, m, args, below, meth, c, A, Q⟩ := Γ
  obtain ⟨hx, hb, hml, hown, hts, -⟩ := G
  intro H locs ls hP hD hS hl
  exact lv_if_lt hx hb hd ht (fun h => kt h H locs ls hP hD hS hl) (fun h => kf h H locs ls hP hD hS hl)
theorem bV.if_ge (G : bG D cl tys Γ own cc nL ret nm tb rm) {x : Int32} {off : Int} {tgt : Nat} (hd : decode cc pc = .ok (.ifCond .ge off, 3)) (ht : (pc : Int) + off = (tgt : Int)) (kt : 0 ≤ x → bV D cl Γ nL ws k n (tgt) lv (rest)) (kf : ¬ 0 ≤ x → bV D cl Γ nL ws k n (pc + 3) lv (rest)) : bV D cl Γ nL ws k n (pc) lv (.int x :: rest) := by
  obtain ⟨p, l, e, R, s, m, args, below, meth, c, A, Q⟩ := Γ
  obtain ⟨hx, hb, hml, hown, hts, -⟩ := G
  intro H locs ls hP hD hS hl
  exact lv_if_ge hx hb hd ht (fun h => kt h H locs ls hP hD hS hl) (fun h => kf h H locs ls hP hD hS hl)
theorem bV.if_gt (G : bG D cl tys Γ own cc nL ret nm tb rm) {x : Int32} {off : Int} {tgt : Nat} (hd : decode cc pc = .ok (.ifCond .gt off, 3)) (ht : (pc : Int) + off = (tgt : Int)) (kt : 0 < x → bV D cl Γ nL ws k n (tgt) lv (rest)) (kf : ¬ 0 < x → bV D cl Γ nL ws k n (pc + 3) lv (rest)) : bV D cl Γ nL ws k n (pc) lv (.int x :: rest) := by
  obtain ⟨p, l, e, R, s, m, args, below, meth, c, A, Q⟩ := Γ
  obtain ⟨hx, hb, hml, hown, hts, -⟩ := G
  intro H locs ls hP hD hS hl
  exact lv_if_gt hx hb hd ht (fun h => kt h H locs ls hP hD hS hl) (fun h => kf h H locs ls hP hD hS hl)
theorem bV.if_le (G : bG D cl tys Γ own cc nL ret nm tb rm) {x : Int32} {off : Int} {tgt : Nat} (hd : decode cc pc = .ok (.ifCond .le off, 3)) (ht : (pc : Int) + off = (tgt : Int)) (kt : x ≤ 0 → bV D cl Γ nL ws k n (tgt) lv (rest)) (kf : ¬ x ≤ 0 → bV D cl Γ nL ws k n (pc + 3) lv (rest)) : bV D cl Γ nL ws k n (pc) lv (.int x :: rest) := by
  obtain ⟨p, l, e, R, s, m, args, below, meth, c, A, Q⟩ := Γ
  obtain ⟨hx, hb, hml, hown, hts, -⟩ := G
  intro H locs ls hP hD hS hl
  exact lv_if_le hx hb hd ht (fun h => kt h H locs ls hP hD hS hl) (fun h => kf h H locs ls hP hD hS hl)
theorem bV.icmp_eq (G : bG D cl tys Γ own cc nL ret nm tb rm) {x y : Int32} {off : Int} {tgt : Nat} (hd : decode cc pc = .ok (.if_icmp .eq off, 3)) (ht : (pc : Int) + off = (tgt : Int)) (kt : x = y → bV D cl Γ nL ws k n (tgt) lv (rest)) (kf : ¬ x = y → bV D cl Γ nL ws k n (pc + 3) lv (rest)) : bV D cl Γ nL ws k n (pc) lv (.int y :: .int x :: rest) := by
  obtain ⟨p, l, e, R, s, m, args, below, meth, c, A, Q⟩ := Γ
  obtain ⟨hx, hb, hml, hown, hts, -⟩ := G
  intro H locs ls hP hD hS hl
  exact lv_icmp_eq hx hb hd ht (fun h => kt h H locs ls hP hD hS hl) (fun h => kf h H locs ls hP hD hS hl)
theorem bV.icmp_ne (G : bG D cl tys Γ own cc nL ret nm tb rm) {x y : Int32} {off : Int} {tgt : Nat} (hd : decode cc pc = .ok (.if_icmp .ne off, 3)) (ht : (pc : Int) + off = (tgt : Int)) (kt : ¬ x = y → bV D cl Γ nL ws k n (tgt) lv (rest)) (kf : x = y → bV D cl Γ nL ws k n (pc + 3) lv (rest)) : bV D cl Γ nL ws k n (pc) lv (.int y :: .int x :: rest) := by
  obtain ⟨p, l, e, R, s, m, args, below, meth, c, A, Q⟩ := Γ
  obtain ⟨hx, hb, hml, hown, hts, -⟩ := G
  intro H locs ls hP hD hS hl
  exact lv_icmp_ne hx hb hd ht (fun h => kt h H locs ls hP hD hS hl) (fun h => kf h H locs ls hP hD hS hl)
theorem bV.icmp_lt (G : bG D cl tys Γ own cc nL ret nm tb rm) {x y : Int32} {off : Int} {tgt : Nat} (hd : decode cc pc = .ok (.if_icmp .lt off, 3)) (ht : (pc : Int) + off = (tgt : Int)) (kt : x < y → bV D cl Γ nL ws k n (tgt) lv (rest)) (kf : ¬ x < y → bV D cl Γ nL ws k n (pc + 3) lv (rest)) : bV D cl Γ nL ws k n (pc) lv (.int y :: .int x :: rest) := by
  obtain ⟨p, l, e, R, s, m, args, below, meth, c, A, Q⟩ := Γ
  obtain ⟨hx, hb, hml, hown, hts, -⟩ := G
  intro H locs ls hP hD hS hl
  exact lv_icmp_lt hx hb hd ht (fun h => kt h H locs ls hP hD hS hl) (fun h => kf h H locs ls hP hD hS hl)
theorem bV.icmp_ge (G : bG D cl tys Γ own cc nL ret nm tb rm) {x y : Int32} {off : Int} {tgt : Nat} (hd : decode cc pc = .ok (.if_icmp .ge off, 3)) (ht : (pc : Int) + off = (tgt : Int)) (kt : y ≤ x → bV D cl Γ nL ws k n (tgt) lv (rest)) (kf : ¬ y ≤ x → bV D cl Γ nL ws k n (pc + 3) lv (rest)) : bV D cl Γ nL ws k n (pc) lv (.int y :: .int x :: rest) := by
  obtain ⟨p, l, e, R, s, m, args, below, meth, c, A, Q⟩ := Γ
  obtain ⟨hx, hb, hml, hown, hts, -⟩ := G
  intro H locs ls hP hD hS hl
  exact lv_icmp_ge hx hb hd ht (fun h => kt h H locs ls hP hD hS hl) (fun h => kf h H locs ls hP hD hS hl)
theorem bV.icmp_gt (G : bG D cl tys Γ own cc nL ret nm tb rm) {x y : Int32} {off : Int} {tgt : Nat} (hd : decode cc pc = .ok (.if_icmp .gt off, 3)) (ht : (pc : Int) + off = (tgt : Int)) (kt : y < x → bV D cl Γ nL ws k n (tgt) lv (rest)) (kf : ¬ y < x → bV D cl Γ nL ws k n (pc + 3) lv (rest)) : bV D cl Γ nL ws k n (pc) lv (.int y :: .int x :: rest) := by
  obtain ⟨p, l, e, R, s, m, args, below, meth, c, A, Q⟩ := Γ
  obtain ⟨hx, hb, hml, hown, hts, -⟩ := G
  intro H locs ls hP hD hS hl
  exact lv_icmp_gt hx hb hd ht (fun h => kt h H locs ls hP hD hS hl) (fun h => kf h H locs ls hP hD hS hl)
theorem bV.icmp_le (G : bG D cl tys Γ own cc nL ret nm tb rm) {x y : Int32} {off : Int} {tgt : Nat} (hd : decode cc pc = .ok (.if_icmp .le off, 3)) (ht : (pc : Int) + off = (tgt : Int)) (kt : x ≤ y → bV D cl Γ nL ws k n (tgt) lv (rest)) (kf : ¬ x ≤ y → bV D cl Γ nL ws k n (pc + 3) lv (rest)) : bV D cl Γ nL ws k n (pc) lv (.int y :: .int x :: rest) := by
  obtain ⟨p, l, e, R, s, m, args, below, meth, c, A, Q⟩ := Γ
  obtain ⟨hx, hb, hml, hown, hts, -⟩ := G
  intro H locs ls hP hD hS hl
  exact lv_icmp_le hx hb hd ht (fun h => kt h H locs ls hP hD hS hl) (fun h => kf h H locs ls hP hD hS hl)
theorem bV.tableOut (G : bG D cl tys Γ own cc nL ret nm tb rm) {dflt lo hi : Int} {offs : Array Int} {len : Nat} {x : Int32} {tgt : Nat} (hd : decode cc pc = .ok (.tableswitch dflt lo hi offs, len)) (h : x.toInt < lo ∨ hi < x.toInt) (ht : (pc : Int) + dflt = (tgt : Int)) (kk : bV D cl Γ nL ws k n (tgt) lv (rest)) : bV D cl Γ nL ws k n (pc) lv (.int x :: rest) := by
  obtain ⟨p, l, e, R, s, m, args, below, meth, c, A, Q⟩ := Γ
  obtain ⟨hx, hb, hml, hown, hts, -⟩ := G
  intro H locs ls hP hD hS hl
  exact lv_tableOut hx hb hd h ht (kk H locs ls hP hD hS hl)
theorem bV.tableIn (G : bG D cl tys Γ own cc nL ret nm tb rm) {dflt lo hi : Int} {offs : Array Int} {len : Nat} {x : Int32} {off : Int} {tgt : Nat} (hd : decode cc pc = .ok (.tableswitch dflt lo hi offs, len)) (h1 : ¬ x.toInt < lo) (h2 : ¬ hi < x.toInt) (ho : offs[(x.toInt - lo).toNat]? = some off) (ht : (pc : Int) + off = (tgt : Int)) (kk : bV D cl Γ nL ws k n (tgt) lv (rest)) : bV D cl Γ nL ws k n (pc) lv (.int x :: rest) := by
  obtain ⟨p, l, e, R, s, m, args, below, meth, c, A, Q⟩ := Γ
  obtain ⟨hx, hb, hml, hown, hts, -⟩ := G
  intro H locs ls hP hD hS hl
  exact lv_tableIn hx hb hd h1 h2 ho ht (kk H locs ls hP hD hS hl)
theorem bV.lookup (G : bG D cl tys Γ own cc nL ret nm tb rm) {dflt : Int} {ps : Array (Int × Int)} {len : Nat} {x : Int32} {off : Int} {tgt : Nat} (hd : decode cc pc = .ok (.lookupswitch dflt ps, len)) (hp : (ps.toList.zip (ps.toList.drop 1)).all (fun (a, next) => a.1 < next.1) = true) (ho : Op.lookupswitch.offset ps.toList dflt x.toInt = off) (ht : (pc : Int) + off = (tgt : Int)) (kk : bV D cl Γ nL ws k n (tgt) lv (rest)) : bV D cl Γ nL ws k n (pc) lv (.int x :: rest) := by
  obtain ⟨p, l, e, R, s, m, args, below, meth, c, A, Q⟩ := Γ
  obtain ⟨hx, hb, hml, hown, hts, -⟩ := G
  intro H locs ls hP hD hS hl
  exact lv_lookup hx hb hd hp ho ht (kk H locs ls hP hD hS hl)
end BVR
end
section
/-! ===== rows of the heap: fields, arrays, new things, returns, throws, calls ===== -/
def bCl (cl : List vw_C) (ci : Nat) (C : String) (T : u_T) (N : Nat) (ty : Nat → FieldType) : Prop :=
  cl[ci]? = some (C, T, N) ∧ (∀ w ∈ u_ws C T N, w ∈ bw) ∧ (∀ k, k < N → parseFieldDescriptor (T k).2.2.1 = some (ty k)) ∧ (∀ a, a < N → ∀ b, b < N → a ≠ b → (T a).2.1 ≠ (T b).2.1)
section BVH
variable {D : va_G} {cl : List vw_C} {tys : List (ClassId × FieldType)} {Γ : bCtx} {own : String} {cc : ByteArray} {nL : Nat} {ret : Option FieldType} {nm : String} {tb : bTb} {rm : Room} {ws ws' ws0 : va_W} {k n pc : Nat} {lv : List (Nat × Value)} {rest : List Value} {post : bo → va_W → Prop}
theorem bV.widen {k' n' : Nat} {st : List Value} (h1 : k ≤ k') (h2 : n ≤ n') (kk : bV D cl Γ nL ws k' n' pc lv st) : bV D cl Γ nL ws k n pc lv st := by
  obtain ⟨p, l, e, R, s, m, args, below, meth, c, A, Q⟩ := Γ
  intro H locs ls hP hD hS hl
  exact W.widen h1 h2 (kk H locs ls hP hD hS hl)
theorem bV.perm {st : List Value} (is : List Nat) (hn : va_nd is = true) (hs : is.map (fun i => ws[i]?) = ws'.map some) (kk : bV D cl Γ nL ws' k n pc lv st) : bV D cl Γ nL ws k n pc lv st := by
  obtain ⟨p, l, e, R, s, m, args, below, meth, c, A, Q⟩ := Γ
  intro H locs ls hP hD hS hl
  refine kk H locs ls (fun j q hq => ?_) (hD.sub is hn hs) hS hl
  have h1 : (is.map (fun i => ws[i]?))[j]? = some (some q) := by rw [hs, List.getElem?_map, hq]; rfl
  rw [List.getElem?_map] at h1
  cases hi : is[j]? with
  | none => rw [hi] at h1; cases h1
  | some i => rw [hi] at h1; exact hP i q (Option.some.inj h1)
theorem bV.locals {st : List Value} {lv' : List (Nat × Value)} (h : ∀ q ∈ lv', q ∈ lv) (kk : bV D cl Γ nL ws k n pc lv' st) : bV D cl Γ nL ws k n pc lv st := by
  obtain ⟨p, l, e, R, s, m, args, below, meth, c, A, Q⟩ := Γ
  intro H locs ls hP hD hS hl
  exact kk H locs ls hP hD hS ⟨hl.1, hl.2.1, fun q hq => hl.2.2 q (h q hq)⟩
theorem bV.getf (G : bG D cl tys Γ own cc nL ret nm tb rm) {ci N : Nat} {C : String} {T : u_T} {ty : Nat → FieldType} (B : bCl cl ci C T N ty) (q0 j : Nat) {idx a : Nat} {fs : List Value} {v : Value} (he : ws[q0]? = some (a, .inr (ci, fs))) (hj : j < N) (hw : Cond.fieldLink own idx (T j).1 (T j).2.1 (T j).2.2.1 ∈ bw) (hv : fs[j]? = some v) (hd : decode cc pc = .ok (.getfield idx, 3))
    (kk : bV D cl Γ nL ws k n (pc + 3) lv (v :: rest)) : bV D cl Γ nL ws k n pc lv (.ref a :: rest) := by
  obtain ⟨p, l, e, R, s, m, args, below, meth, c, A, Q⟩ := Γ
  obtain ⟨hx, hb, hml, hown, hts, hK, -⟩ := G
  intro H locs ls hP hD hS hl
  exact va_get (D := D) hx hb hts B.2.1 hown hK hP q0 he B.1 j hj (hts _ hw) (fun _ h => h) hv hd (kk H locs ls hP hD hS hl)
theorem bV.putf (G : bG D cl tys Γ own cc nL ret nm tb rm) {ci N : Nat} {C : String} {T : u_T} {ty : Nat → FieldType} (B : bCl cl ci C T N ty) (q0 j : Nat) {idx a : Nat} {fs : List Value} {v : Value} (he : ws[q0]? = some (a, .inr (ci, fs))) (hj : j < N) (hw : Cond.fieldLink own idx (T j).1 (T j).2.1 (T j).2.2.1 ∈ bw) (hfin : (T j).2.2.2 = false) (hn : narrow (ty j) v = v) (hfit : fits (ty j) v = true) (hlen : j < fs.length) (hd : decode cc pc = .ok (.putfield idx, 3)) (hws : ws.set q0 (a, .inr (ci, fs.set j v)) = ws')
    (kk : bV D cl Γ nL ws' k n (pc + 3) lv rest) : bV D cl Γ nL ws k n pc lv (v :: .ref a :: rest) := by
  obtain ⟨p, l, e, R, s, m, args, below, meth, c, A, Q⟩ := Γ
  obtain ⟨hx, hb, hml, hown, hts, hK, -⟩ := G
  intro H locs ls hP hD hS hl
  subst hws
  exact va_put (D := D) hx hb hts B.2.1 ty B.2.2.1 B.2.2.2 hown hK hP hD hS q0 he B.1 j hj (hts _ hw) (fun _ h => h) hfin (B.2.2.1 j hj) hn hfit hlen hd (fun H1 locs1 hP1 hD1 hS1 => kk H1 locs1 ls hP1 hD1 hS1 hl)
theorem bV.putF (G : bG D cl tys Γ own cc nL ret "<init>" tb rm) {ci N : Nat} {C : String} {T : u_T} {ty : Nat → FieldType} (B : bCl cl ci C T N ty) (q0 j : Nat) {idx a : Nat} {fs : List Value} {v : Value} (he : ws[q0]? = some (a, .inr (ci, fs))) (hj : j < N) (hw : Cond.fieldLink own idx (T j).1 (T j).2.1 (T j).2.2.1 ∈ bw) (hfin : (T j).2.2.2 = true) (hdecl : (T j).1 = own) (hn : narrow (ty j) v = v) (hfit : fits (ty j) v = true) (hlen : j < fs.length) (hd : decode cc pc = .ok (.putfield idx, 3)) (hws : ws.set q0 (a, .inr (ci, fs.set j v)) = ws')
    (kk : bV D cl Γ nL ws' k n (pc + 3) lv rest) : bV D cl Γ nL ws k n pc lv (v :: .ref a :: rest) := by
  obtain ⟨p, l, e, R, s, m, args, below, meth, c, A, Q⟩ := Γ
  obtain ⟨hx, hb, hml, hown, hts, hK, hA, hst, hX, hlk, hret, hnm, -⟩ := G
  intro H locs ls hP hD hS hl
  subst hws
  exact va_putF (D := D) hx hb hts B.2.1 ty B.2.2.1 B.2.2.2 hown hK hP hD hS q0 he B.1 j hj (hts _ hw) (fun _ h => h) hfin hnm hdecl (B.2.2.1 j hj) hn hfit hlen hd (fun H1 locs1 hP1 hD1 hS1 => kk H1 locs1 ls hP1 hD1 hS1 hl)
theorem bV.iaload (G : bG D cl tys Γ own cc nL ret nm tb rm) (q0 t0 : Nat) {a : Nat} {cA : ClassId} {N : Nat} {f : Nat → Int32} {i : Int32} (ha : ws[q0]? = some (a, .inl (cA, N, .inl f))) (ht : tys[t0]? = some (cA, .int)) (hin : vp_in i N) (hd : decode cc pc = .ok (.iaload, 1))
    (kk : bV D cl Γ nL ws k n (pc + 1) lv (.int (f i.toNatClampNeg) :: rest)) : bV D cl Γ nL ws k n pc lv (.int i :: .ref a :: rest) := by
  obtain ⟨p, l, e, R, s, m, args, below, meth, c, A, Q⟩ := Γ
  obtain ⟨hx, hb, hml, hown, hts, hK, -⟩ := G
  intro H locs ls hP hD hS hl
  exact va_iald hx hb hK hP q0 t0 ha ht hin hd (kk H locs ls hP hD hS hl)
theorem bV.zaload (G : bG D cl tys Γ own cc nL ret nm tb rm) (q0 t0 : Nat) {a : Nat} {cA : ClassId} {N : Nat} {f : Nat → Int32} {i : Int32} (ha : ws[q0]? = some (a, .inl (cA, N, .inl f))) (ht : tys[t0]? = some (cA, .boolean)) (hin : vp_in i N) (hd : decode cc pc = .ok (.baload, 1))
    (kk : bV D cl Γ nL ws k n (pc + 1) lv (.int (f i.toNatClampNeg) :: rest)) : bV D cl Γ nL ws k n pc lv (.int i :: .ref a :: rest) := by
  obtain ⟨p, l, e, R, s, m, args, below, meth, c, A, Q⟩ := Γ
  obtain ⟨hx, hb, hml, hown, hts, hK, -⟩ := G
  intro H locs ls hP hD hS hl
  exact va_zald hx hb hK hP q0 t0 ha ht hin hd (kk H locs ls hP hD hS hl)
theorem bV.laload (G : bG D cl tys Γ own cc nL ret nm tb rm) (q0 t0 : Nat) {a : Nat} {cA : ClassId} {N : Nat} {f : Nat → Int64} {i : Int32} (ha : ws[q0]? = some (a, .inl (cA, N, .inr (.inl f)))) (ht : tys[t0]? = some (cA, .long)) (hin : vp_in i N) (hd : decode cc pc = .ok (.laload, 1))
    (kk : bV D cl Γ nL ws k n (pc + 1) lv (.long (f i.toNatClampNeg) :: rest)) : bV D cl Γ nL ws k n pc lv (.int i :: .ref a :: rest) := by
  obtain ⟨p, l, e, R, s, m, args, below, meth, c, A, Q⟩ := Γ
  obtain ⟨hx, hb, hml, hown, hts, hK, -⟩ := G
  intro H locs ls hP hD hS hl
  exact va_lald hx hb hK hP q0 t0 ha ht hin hd (kk H locs ls hP hD hS hl)
theorem bV.iastore (G : bG D cl tys Γ own cc nL ret nm tb rm) (q0 t0 : Nat) {a : Nat} {cA : ClassId} {N : Nat} {f : Nat → Int32} {i x : Int32} (ha : ws[q0]? = some (a, .inl (cA, N, .inl f))) (ht : tys[t0]? = some (cA, .int)) (hin : vp_in i N) (hd : decode cc pc = .ok (.iastore, 1)) (hws : ws.set q0 (a, .inl (cA, N, .inl (upd f i.toNatClampNeg x))) = ws')
    (kk : bV D cl Γ nL ws' k n (pc + 1) lv rest) : bV D cl Γ nL ws k n pc lv (.int x :: .int i :: .ref a :: rest) := by
  obtain ⟨p, l, e, R, s, m, args, below, meth, c, A, Q⟩ := Γ
  obtain ⟨hx, hb, hml, hown, hts, hK, -⟩ := G
  intro H locs ls hP hD hS hl
  subst hws
  exact va_iast hx hb hK hP hD hS q0 t0 ha ht hin hd (fun H1 locs1 hP1 hD1 hS1 => kk H1 locs1 ls hP1 hD1 hS1 hl)
theorem bV.zastore (G : bG D cl tys Γ own cc nL ret nm tb rm) (q0 t0 : Nat) {a : Nat} {cA : ClassId} {N : Nat} {f : Nat → Int32} {i x : Int32} (ha : ws[q0]? = some (a, .inl (cA, N, .inl f))) (ht : tys[t0]? = some (cA, .boolean)) (hin : vp_in i N) (hd : decode cc pc = .ok (.bastore, 1)) (hws : ws.set q0 (a, .inl (cA, N, .inl (upd f i.toNatClampNeg (vp_nar .boolean x)))) = ws')
    (kk : bV D cl Γ nL ws' k n (pc + 1) lv rest) : bV D cl Γ nL ws k n pc lv (.int x :: .int i :: .ref a :: rest) := by
  obtain ⟨p, l, e, R, s, m, args, below, meth, c, A, Q⟩ := Γ
  obtain ⟨hx, hb, hml, hown, hts, hK, -⟩ := G
  intro H locs ls hP hD hS hl
  subst hws
  exact va_zast hx hb hK hP hD hS q0 t0 ha ht hin hd (fun H1 locs1 hP1 hD1 hS1 => kk H1 locs1 ls hP1 hD1 hS1 hl)
theorem bV.lastore (G : bG D cl tys Γ own cc nL ret nm tb rm) (q0 t0 : Nat) {a : Nat} {cA : ClassId} {N : Nat} {f : Nat → Int64} {i : Int32} {x : Int64} (ha : ws[q0]? = some (a, .inl (cA, N, .inr (.inl f)))) (ht : tys[t0]? = some (cA, .long)) (hin : vp_in i N) (hd : decode cc pc = .ok (.lastore, 1)) (hws : ws.set q0 (a, .inl (cA, N, .inr (.inl (vp_updL f i.toNatClampNeg x)))) = ws')
    (kk : bV D cl Γ nL ws' k n (pc + 1) lv rest) : bV D cl Γ nL ws k n pc lv (.long x :: .int i :: .ref a :: rest) := by
  obtain ⟨p, l, e, R, s, m, args, below, meth, c, A, Q⟩ := Γ
  obtain ⟨hx, hb, hml, hown, hts, hK, -⟩ := G
  intro H locs ls hP hD hS hl
  subst hws
  exact va_last hx hb hK hP hD hS q0 t0 ha ht hin hd (fun H1 locs1 hP1 hD1 hS1 => kk H1 locs1 ls hP1 hD1 hS1 hl)
theorem bV.alen (G : bG D cl tys Γ own cc nL ret nm tb rm) (q0 t0 : Nat) {a : Nat} {cA : ClassId} {x : vp_A} {ty : FieldType} {v : Int32} (ha : ws[q0]? = some (a, .inl (cA, x))) (ht : tys[t0]? = some (cA, ty)) (hv : Int32.ofNat x.1 = v) (hd : decode cc pc = .ok (.arraylength, 1))
    (kk : bV D cl Γ nL ws k n (pc + 1) lv (.int v :: rest)) : bV D cl Γ nL ws k n pc lv (.ref a :: rest) := by
  obtain ⟨p, l, e, R, s, m, args, below, meth, c, A, Q⟩ := Γ
  obtain ⟨hx, hb, hml, hown, hts, hK, -⟩ := G
  intro H locs ls hP hD hS hl
  exact va_alen hx hb hK hP q0 t0 ha ht hv hd (kk H locs ls hP hD hS hl)
theorem bV.newarray (G : bG D cl tys Γ own cc nL ret nm tb rm) (t0 : Nat) {atype : ArrayType} {ty : FieldType} {cA : ClassId} (hw : Cond.arrayClass (newarray.typeOf atype) ∈ bw) (hty : newarray.typeOf atype = ty) (hpr : ∀ C, ty ≠ .object C) (ht : tys[t0]? = some (cA, ty))
    {i : Int32} {N : Nat} {a0 : vp_A} (ha : ∀ cA : ClassId, vp_cell cA a0 = arrV cA N (fun _ => defaultValue ty)) (hi : ¬ i < 0) (hN : i.toNatClampNeg = N) (hby : N * componentBytes ty ≤ 536870912) (hc : k + 1 ≤ rm.cells) (hs : n + N ≤ rm.slots) (hd : decode cc pc = .ok (.newarray atype, 2))
    (kk : ∀ q : Nat, bV D cl Γ nL (ws ++ [(q, .inl (cA, a0))]) (k + 1) (n + N) (pc + 2) lv (.ref q :: rest)) : bV D cl Γ nL ws k n pc lv (.int i :: rest) := by
  obtain ⟨p, l, e, R, s, m, args, below, meth, c, A, Q⟩ := Γ
  obtain ⟨hx, hb, hml, hown, hts, hK, hA, hst, hX, hlk, hret, hnm, htab, hR, htr⟩ := G
  intro H locs ls hP hD hS hl
  subst hR
  refine va_newa hx hb (hts _ hw) hty hK hP hD hS hA ha hi hN hby hc hs hd (fun q cA' H1 hK1 hP1 hD1 hS1 => ?_)
  have e1 := (hK.2 t0 _ ht).2
  have e2 := (hK1.2 tys.length (cA', ty) (by simp)).2
  have e3 : cA' = cA := by
    cases ty with
    | object C => exact absurd rfl (hpr C)
    | _ => exact Option.some.inj (e2.symm.trans e1)
  subst e3
  exact kk q H1 locs ls hP1 hD1 hS1 hl
theorem bV.new (G : bG D cl tys Γ own cc nL ret nm tb rm) {ci N : Nat} {C : String} {T : u_T} {ty : Nat → FieldType} (B : bCl cl ci C T N ty) {idx : Nat} {fs : List Value} (hw : Cond.classLink own idx C ∈ bw) (hw2 : Cond.instantiable C N ∈ bw) (hw3 : Cond.initialized C ∈ bw) (hfs : ∀ j, j < N → defaultValue (ty j) = vp_V fs j) (hc : k + 1 ≤ rm.cells) (hs : n + N ≤ rm.slots) (hd : decode cc pc = .ok (.new idx, 3))
    (kk : ∀ q : Nat, bV D cl Γ nL (ws ++ [(q, .inr (ci, fs))]) (k + 1) (n + N) (pc + 3) lv (.ref q :: rest)) : bV D cl Γ nL ws k n pc lv rest := by
  obtain ⟨p, l, e, R, s, m, args, below, meth, c, A, Q⟩ := Γ
  obtain ⟨hx, hb, hml, hown, hts, hK, hA, hst, hX, hlk, hret, hnm, htab, hR, htr⟩ := G
  intro H locs ls hP hD hS hl
  subst hR
  exact va_new hx hb hts B.2.1 ty B.2.2.1 hown (hts _ hw) (hts _ hw2) (hts _ hw3) hK hP hD hS hA B.1 hfs hc hs hd (fun q H1 hP1 hD1 hS1 => kk q H1 locs ls hP1 hD1 hS1 hl)
theorem bV.objInit (G : bG D cl tys Γ own cc nL ret nm tb rm) {idx a : Nat} (hw : Cond.methodLink own idx objectInit ∈ bw) (hw2 : Cond.instanceMethod objectInit ∈ bw) (hw3 : Cond.code objectInit ⟨#[0xb1]⟩ 1 none ∈ bw) (hf : 1 ≤ rm.frames) (hlo : (rest.map fun v => v.category).sum + 12 ≤ rm.locals) (hd : decode cc pc = .ok (.invokespecial idx, 3))
    (kk : bV D cl Γ nL ws k n (pc + 3) lv rest) : bV D cl Γ nL ws k n pc lv (.ref a :: rest) := by
  obtain ⟨p, l, e, R, s, m, args, below, meth, c, A, Q⟩ := Γ
  obtain ⟨hx, hb, hml, hown, hts, hK, hA, hst, hX, hlk, hret, hnm, htab, hR, htr⟩ := G
  intro H locs ls hP hD hS hl
  subst hR
  exact W.objInit hx hb hown (hts _ hw) (hts _ hw2) (hts _ hw3) rfl (by rw [hml]; exact hl.1) rfl hd hf (by show 2 * 0 + _ + 12 ≤ _; omega) (kk H locs ls hP hD hS hl)
theorem bV.mmax (G : bG D cl tys Γ own cc nL ret nm tb rm) {idx : Nat} {x y : Int32} (hw : Cond.methodLink own idx Lib.Math.max.name ∈ bw) (hw2 : Cond.static Lib.Math.max.name ∈ bw) (hw3 : Cond.initialized "java/lang/Math" ∈ bw) (hw4 : Cond.code Lib.Math.max.name Lib.Math.max.code 2 (some .int) ∈ bw) (hf : 1 ≤ rm.frames) (hlo : (rest.map fun v => v.category).sum + 13 ≤ rm.locals) (hc : k ≤ rm.cells) (hs : n ≤ rm.slots) (hd : decode cc pc = .ok (.invokestatic idx, 3))
    (kk : bV D cl Γ nL ws k n (pc + 3) lv (.int (if x < y then y else x) :: rest)) : bV D cl Γ nL ws k n pc lv (.int y :: .int x :: rest) := by
  obtain ⟨p, l, e, R, s, m, args, below, meth, c, A, Q⟩ := Γ
  obtain ⟨hx, hb, hml, hown, hts, hK, hA, hst, hX, hlk, hret, hnm, htab, hR, htr⟩ := G
  intro H locs ls hP hD hS hl
  subst hR
  exact va_mmax hx hb (hml.trans hl.1.symm) hown (hts _ hw) (hts _ hw2) (hts _ hw3) (hts _ hw4) hf hlo hc hs hd (kk H locs ls hP hD hS hl)
theorem bV.mmin (G : bG D cl tys Γ own cc nL ret nm tb rm) {idx : Nat} {x y : Int32} (hw : Cond.methodLink own idx Lib.Math.min.name ∈ bw) (hw2 : Cond.static Lib.Math.min.name ∈ bw) (hw3 : Cond.initialized "java/lang/Math" ∈ bw) (hw4 : Cond.code Lib.Math.min.name Lib.Math.min.code 2 (some .int) ∈ bw) (hf : 1 ≤ rm.frames) (hlo : (rest.map fun v => v.category).sum + 13 ≤ rm.locals) (hc : k ≤ rm.cells) (hs : n ≤ rm.slots) (hd : decode cc pc = .ok (.invokestatic idx, 3))
    (kk : bV D cl Γ nL ws k n (pc + 3) lv (.int (if y < x then y else x) :: rest)) : bV D cl Γ nL ws k n pc lv (.int y :: .int x :: rest) := by
  obtain ⟨p, l, e, R, s, m, args, below, meth, c, A, Q⟩ := Γ
  obtain ⟨hx, hb, hml, hown, hts, hK, hA, hst, hX, hlk, hret, hnm, htab, hR, htr⟩ := G
  intro H locs ls hP hD hS hl
  subst hR
  exact va_mmin hx hb (hml.trans hl.1.symm) hown (hts _ hw) (hts _ hw2) (hts _ hw3) (hts _ hw4) hf hlo hc hs hd (kk H locs ls hP hD hS hl)
-- returns
theorem bV.iret (G : bG D cl tys Γ own cc nL ret nm tb rm) (E0 : bE D cl Γ ws0 post rm) {ty : FieldType} {v : Int32} (hr : ret = some ty) (hn : narrow ty (.int v) = .int v) (h1 : k ≤ rm.cells) (h2 : n ≤ rm.slots) (hd : decode cc pc = .ok (.ireturn, 1)) (hp : post (.inl (some (.int v))) ws) : bV D cl Γ nL ws k n pc lv [.int v] := by
  obtain ⟨p, l, e, R, s, m, args, below, meth, c, A, Q⟩ := Γ
  obtain ⟨hx, hb, hml, hown, hts, hK, hA, hst, hX, hlk, hret, hnm, htab, hR, htr⟩ := G
  obtain ⟨rfl, rfl⟩ := E0
  intro H locs ls hP hD hS hl
  refine W.widen h1 h2 (bW_mono (fun t h => bMQ_of h) ?_)
  exact W.zret hx hb (hret.trans hr) hn (fun t ht hW => ⟨.inl (some (.int v)), ws, rfl, hp, by rw [ht]; exact hP, hD, hS.F ht⟩) hS.2.2 hd hlk
theorem bV.vret (G : bG D cl tys Γ own cc nL ret nm tb rm) (E0 : bE D cl Γ ws0 post rm) (hr : ret = none) (h1 : k ≤ rm.cells) (h2 : n ≤ rm.slots) (hd : decode cc pc = .ok (.return_, 1)) (hp : post (.inl none) ws) : bV D cl Γ nL ws k n pc lv [] := by
  obtain ⟨p, l, e, R, s, m, args, below, meth, c, A, Q⟩ := Γ
  obtain ⟨hx, hb, hml, hown, hts, hK, hA, hst, hX, hlk, hret, hnm, htab, hR, htr⟩ := G
  obtain ⟨rfl, rfl⟩ := E0
  intro H locs ls hP hD hS hl
  refine W.widen h1 h2 (bW_mono (fun t h => bMQ_of h) ?_)
  exact W.vret hx hb (hret.trans hr) (fun t ht hW => ⟨.inl none, ws, rfl, hp, by rw [ht]; exact hP, hD, hS.F ht⟩) hS.2.2 hd hlk
end BVH
end
section
def bB (b : Bool) : Int32 := match b with | true => 1 | false => 0
section BVN
variable {D : va_G} {cl : List vw_C} {tys : List (ClassId × FieldType)} {Γ : bCtx} {own : String} {cc : ByteArray} {nL : Nat} {ret : Option FieldType} {nm : String} {tb : bTb} {rm : Room} {ws : va_W} {k n pc : Nat} {lv : List (Nat × Value)} {rest : List Value}
theorem bV.icmp_eqN (G : bG D cl tys Γ own cc nL ret nm tb rm) {a b : Nat} {off : Int} {tgt : Nat} (hd : decode cc pc = .ok (.if_icmp .eq off, 3)) (ht : (pc : Int) + off = (tgt : Int)) (ha : a < 2 ^ 31) (hb : b < 2 ^ 31) (kt : a = b → bV D cl Γ nL ws k n (tgt) lv (rest)) (kf : ¬ (a = b) → bV D cl Γ nL ws k n (pc + 3) lv (rest)) : bV D cl Γ nL ws k n (pc) lv (.int (nI b) :: .int (nI a) :: rest) :=
  bV.icmp_eq G hd ht (fun h => kt ((nI_eq ha hb).mp h)) (fun h => kf (fun z => h ((nI_eq ha hb).mpr z)))
theorem bV.icmp_ltN (G : bG D cl tys Γ own cc nL ret nm tb rm) {a b : Nat} {off : Int} {tgt : Nat} (hd : decode cc pc = .ok (.if_icmp .lt off, 3)) (ht : (pc : Int) + off = (tgt : Int)) (ha : a < 2 ^ 31) (hb : b < 2 ^ 31) (kt : a < b → bV D cl Γ nL ws k n (tgt) lv (rest)) (kf : ¬ (a < b) → bV D cl Γ nL ws k n (pc + 3) lv (rest)) : bV D cl Γ nL ws k n (pc) lv (.int (nI b) :: .int (nI a) :: rest) :=
  bV.icmp_lt G hd ht (fun h => kt ((nI_ltI ha hb).mp h)) (fun h => kf (fun z => h ((nI_ltI ha hb).mpr z)))
theorem bV.icmp_leN (G : bG D cl tys Γ own cc nL ret nm tb rm) {a b : Nat} {off : Int} {tgt : Nat} (hd : decode cc pc = .ok (.if_icmp .le off, 3)) (ht : (pc : Int) + off = (tgt : Int)) (ha : a < 2 ^ 31) (hb : b < 2 ^ 31) (kt : a ≤ b → bV D cl Γ nL ws k n (tgt) lv (rest)) (kf : ¬ (a ≤ b) → bV D cl Γ nL ws k n (pc + 3) lv (rest)) : bV D cl Γ nL ws k n (pc) lv (.int (nI b) :: .int (nI a) :: rest) :=
  bV.icmp_le G hd ht (fun h => kt ((nI_leI ha hb).mp h)) (fun h => kf (fun z => h ((nI_leI ha hb).mpr z)))
theorem bV.icmp_geN (G : bG D cl tys Γ own cc nL ret nm tb rm) {a b : Nat} {off : Int} {tgt : Nat} (hd : decode cc pc = .ok (.if_icmp .ge off, 3)) (ht : (pc : Int) + off = (tgt : Int)) (ha : a < 2 ^ 31) (hb : b < 2 ^ 31) (kt : b ≤ a → bV D cl Γ nL ws k n (tgt) lv (rest)) (kf : ¬ (b ≤ a) → bV D cl Γ nL ws k n (pc + 3) lv (rest)) : bV D cl Γ nL ws k n (pc) lv (.int (nI b) :: .int (nI a) :: rest) :=
  bV.icmp_ge G hd ht (fun h => kt ((nI_leI hb ha).mp h)) (fun h => kf (fun z => h ((nI_leI hb ha).mpr z)))
theorem bV.icmp_gtN (G : bG D cl tys Γ own cc nL ret nm tb rm) {a b : Nat} {off : Int} {tgt : Nat} (hd : decode cc pc = .ok (.if_icmp .gt off, 3)) (ht : (pc : Int) + off = (tgt : Int)) (ha : a < 2 ^ 31) (hb : b < 2 ^ 31) (kt : b < a → bV D cl Γ nL ws k n (tgt) lv (rest)) (kf : ¬ (b < a) → bV D cl Γ nL ws k n (pc + 3) lv (rest)) : bV D cl Γ nL ws k n (pc) lv (.int (nI b) :: .int (nI a) :: rest) :=
  bV.icmp_gt G hd ht (fun h => kt ((nI_ltI hb ha).mp h)) (fun h => kf (fun z => h ((nI_ltI hb ha).mpr z)))
theorem bV.icmp_neN (G : bG D cl tys Γ own cc nL ret nm tb rm) {a b : Nat} {off : Int} {tgt : Nat} (hd : decode cc pc = .ok (.if_icmp .ne off, 3)) (ht : (pc : Int) + off = (tgt : Int)) (ha : a < 2 ^ 31) (hb : b < 2 ^ 31) (kt : a ≠ b → bV D cl Γ nL ws k n (tgt) lv (rest)) (kf : a = b → bV D cl Γ nL ws k n (pc + 3) lv (rest)) : bV D cl Γ nL ws k n (pc) lv (.int (nI b) :: .int (nI a) :: rest) :=
  bV.icmp_ne G hd ht (fun h => kt (fun z => h ((nI_eq ha hb).mpr z))) (fun h => kf ((nI_eq ha hb).mp h))
theorem bV.if_ltN (G : bG D cl tys Γ own cc nL ret nm tb rm) {a : Nat} {off : Int} {tgt : Nat} (hd : decode cc pc = .ok (.ifCond .lt off, 3)) (ht : (pc : Int) + off = (tgt : Int)) (ha : a < 2 ^ 31) (kf : bV D cl Γ nL ws k n (pc + 3) lv (rest)) : bV D cl Γ nL ws k n (pc) lv (.int (nI a) :: rest) :=
  bV.if_lt G hd ht (fun h => absurd h (nI_pos ha)) (fun _ => kf)
theorem bV.if_geN (G : bG D cl tys Γ own cc nL ret nm tb rm) {a : Nat} {off : Int} {tgt : Nat} (hd : decode cc pc = .ok (.ifCond .ge off, 3)) (ht : (pc : Int) + off = (tgt : Int)) (ha : a < 2 ^ 31) (kt : bV D cl Γ nL ws k n (tgt) lv (rest)) : bV D cl Γ nL ws k n (pc) lv (.int (nI a) :: rest) :=
  bV.if_ge G hd ht (fun _ => kt) (fun h => absurd (nI_pos' ha) h)
theorem bV.if_eqN (G : bG D cl tys Γ own cc nL ret nm tb rm) {a : Nat} {off : Int} {tgt : Nat} (hd : decode cc pc = .ok (.ifCond .eq off, 3)) (ht : (pc : Int) + off = (tgt : Int)) (ha : a < 2 ^ 31) (kt : a = 0 → bV D cl Γ nL ws k n (tgt) lv (rest)) (kf : a ≠ 0 → bV D cl Γ nL ws k n (pc + 3) lv (rest)) : bV D cl Γ nL ws k n (pc) lv (.int (nI a) :: rest) :=
  bV.if_eq G hd ht (fun h => kt ((nI_eq ha (by decide)).mp (h.trans nI_0.symm))) (fun h => kf (fun z => h (by rw [z]; exact nI_0)))
theorem bV.if_neN (G : bG D cl tys Γ own cc nL ret nm tb rm) {a : Nat} {off : Int} {tgt : Nat} (hd : decode cc pc = .ok (.ifCond .ne off, 3)) (ht : (pc : Int) + off = (tgt : Int)) (ha : a < 2 ^ 31) (kt : a ≠ 0 → bV D cl Γ nL ws k n (tgt) lv (rest)) (kf : a = 0 → bV D cl Γ nL ws k n (pc + 3) lv (rest)) : bV D cl Γ nL ws k n (pc) lv (.int (nI a) :: rest) :=
  bV.if_ne G hd ht (fun h => kt (fun z => h (by rw [z]; exact nI_0))) (fun h => kf ((nI_eq ha (by decide)).mp (h.trans nI_0.symm)))
theorem bV.if_leN (G : bG D cl tys Γ own cc nL ret nm tb rm) {a : Nat} {off : Int} {tgt : Nat} (hd : decode cc pc = .ok (.ifCond .le off, 3)) (ht : (pc : Int) + off = (tgt : Int)) (ha : a < 2 ^ 31) (kt : a = 0 → bV D cl Γ nL ws k n (tgt) lv (rest)) (kf : a ≠ 0 → bV D cl Γ nL ws k n (pc + 3) lv (rest)) : bV D cl Γ nL ws k n (pc) lv (.int (nI a) :: rest) :=
  bV.if_le G hd ht (fun h => kt (by rcases Nat.eq_zero_or_pos a with z | z; exact z; exact absurd h (nI_nle z ha))) (fun h => kf (fun z => h (by rw [z]; exact nI_le (Nat.le_refl 0) (by decide))))
theorem bV.if_gtN (G : bG D cl tys Γ own cc nL ret nm tb rm) {a : Nat} {off : Int} {tgt : Nat} (hd : decode cc pc = .ok (.ifCond .gt off, 3)) (ht : (pc : Int) + off = (tgt : Int)) (ha : a < 2 ^ 31) (kt : a ≠ 0 → bV D cl Γ nL ws k n (tgt) lv (rest)) (kf : a = 0 → bV D cl Γ nL ws k n (pc + 3) lv (rest)) : bV D cl Γ nL ws k n (pc) lv (.int (nI a) :: rest) :=
  bV.if_gt G hd ht (fun h => kt (fun z => by rw [z] at h; exact absurd h (by decide))) (fun h => kf (by rcases Nat.eq_zero_or_pos a with z | z; exact z; exact absurd (by rw [← nI_0]; exact nI_lt z ha) h))
theorem bV.if_eqB (G : bG D cl tys Γ own cc nL ret nm tb rm) {a : Bool} {off : Int} {tgt : Nat} (hd : decode cc pc = .ok (.ifCond .eq off, 3)) (ht : (pc : Int) + off = (tgt : Int)) (kt : a = false → bV D cl Γ nL ws k n (tgt) lv (rest)) (kf : a = true → bV D cl Γ nL ws k n (pc + 3) lv (rest)) : bV D cl Γ nL ws k n (pc) lv (.int (bB a) :: rest) :=
  bV.if_eq G hd ht (fun h => kt (by cases a; rfl; exact absurd h (by decide))) (fun h => kf (by cases a; exact absurd rfl h; rfl))
theorem bV.if_neB (G : bG D cl tys Γ own cc nL ret nm tb rm) {a : Bool} {off : Int} {tgt : Nat} (hd : decode cc pc = .ok (.ifCond .ne off, 3)) (ht : (pc : Int) + off = (tgt : Int)) (kt : a = true → bV D cl Γ nL ws k n (tgt) lv (rest)) (kf : a = false → bV D cl Γ nL ws k n (pc + 3) lv (rest)) : bV D cl Γ nL ws k n (pc) lv (.int (bB a) :: rest) :=
  bV.if_ne G hd ht (fun h => kt (by cases a; exact absurd rfl h; rfl)) (fun h => kf (by cases a; rfl; exact absurd h (by decide)))
theorem bV.iaddN (G : bG D cl tys Γ own cc nL ret nm tb rm) {a b : Nat} (hd : decode cc pc = .ok (.iadd, 1)) (kk : bV D cl Γ nL ws k n (pc + 1) lv (.int (nI (a + b)) :: rest)) : bV D cl Γ nL ws k n (pc) lv (.int (nI b) :: .int (nI a) :: rest) := bV.iadd G hd (by rw [nI_add]; exact kk)
theorem bV.isubN (G : bG D cl tys Γ own cc nL ret nm tb rm) {a b : Nat} (hd : decode cc pc = .ok (.isub, 1)) (h : b ≤ a) (kk : bV D cl Γ nL ws k n (pc + 1) lv (.int (nI (a - b)) :: rest)) : bV D cl Γ nL ws k n (pc) lv (.int (nI b) :: .int (nI a) :: rest) := bV.isub G hd (by rw [pk_sub h]; exact kk)
theorem bV.imulN (G : bG D cl tys Γ own cc nL ret nm tb rm) {a b : Nat} (hd : decode cc pc = .ok (.imul, 1)) (kk : bV D cl Γ nL ws k n (pc + 1) lv (.int (nI (a * b)) :: rest)) : bV D cl Γ nL ws k n (pc) lv (.int (nI b) :: .int (nI a) :: rest) := bV.imul G hd (by rw [pk_mul]; exact kk)
theorem bV.iincN (G : bG D cl tys Γ own cc nL ret nm tb rm) {i a : Nat} {lv' : List (Nat × Value)} (hd : decode cc pc = .ok (.iinc i 1, 3)) (hg : bl_get lv i = some (.int (nI a))) (hn : i < nL) (hc : lv.all (fun q => q.2.category == 1) = true) (he : bl_set lv i (.int (nI (a + 1))) = lv') (kk : bV D cl Γ nL ws k n (pc + 3) lv' (rest)) : bV D cl Γ nL ws k n (pc) lv (rest) := bV.iinc G hd hg (v := nI (a + 1)) (nI_1 a) hn hc he kk
theorem bV.topi {x y : Int32} (h : x = y) (kk : bV D cl Γ nL ws k n (pc) lv (.int y :: rest)) : bV D cl Γ nL ws k n (pc) lv (.int x :: rest) := by rw [h]; exact kk
theorem bV.ialoadN (G : bG D cl tys Γ own cc nL ret nm tb rm) (q0 t0 : Nat) {a j : Nat} {cA : ClassId} {N : Nat} {f : Nat → Int32} (ha : ws[q0]? = some (a, .inl (cA, N, .inl f))) (ht : tys[t0]? = some (cA, .int)) (hj : j < N) (hN : N < 2 ^ 31) (hd : decode cc pc = .ok (.iaload, 1)) (kk : bV D cl Γ nL ws k n (pc + 1) lv (.int (f j) :: rest)) : bV D cl Γ nL ws k n (pc) lv (.int (nI j) :: .ref a :: rest) := bV.iaload G q0 t0 ha ht (vp_in_nI hj hN) hd (by rw [nI_clamp (Nat.lt_trans hj hN)]; exact kk)
theorem bV.zaloadN (G : bG D cl tys Γ own cc nL ret nm tb rm) (q0 t0 : Nat) {a j : Nat} {cA : ClassId} {N : Nat} {f : Nat → Int32} (ha : ws[q0]? = some (a, .inl (cA, N, .inl f))) (ht : tys[t0]? = some (cA, .boolean)) (hj : j < N) (hN : N < 2 ^ 31) (hd : decode cc pc = .ok (.baload, 1)) (kk : bV D cl Γ nL ws k n (pc + 1) lv (.int (f j) :: rest)) : bV D cl Γ nL ws k n (pc) lv (.int (nI j) :: .ref a :: rest) := bV.zaload G q0 t0 ha ht (vp_in_nI hj hN) hd (by rw [nI_clamp (Nat.lt_trans hj hN)]; exact kk)
theorem bV.iastoreN (G : bG D cl tys Γ own cc nL ret nm tb rm) (q0 t0 : Nat) {a j : Nat} {cA : ClassId} {N : Nat} {f : Nat → Int32} {x : Int32} {ws' : va_W} (ha : ws[q0]? = some (a, .inl (cA, N, .inl f))) (ht : tys[t0]? = some (cA, .int)) (hj : j < N) (hN : N < 2 ^ 31) (hd : decode cc pc = .ok (.iastore, 1)) (hws : ws.set q0 (a, .inl (cA, N, .inl (upd f j x))) = ws') (kk : bV D cl Γ nL ws' k n (pc + 1) lv (rest)) : bV D cl Γ nL ws k n (pc) lv (.int x :: .int (nI j) :: .ref a :: rest) := bV.iastore G q0 t0 ha ht (vp_in_nI hj hN) hd (by rw [nI_clamp (Nat.lt_trans hj hN)]; exact hws) kk
theorem bB_nar (b : Bool) : vp_nar .boolean (bB b) = bB b := by cases b <;> rfl
theorem bV.zastoreN (G : bG D cl tys Γ own cc nL ret nm tb rm) (q0 t0 : Nat) {a j : Nat} {cA : ClassId} {N : Nat} {f : Nat → Int32} {x : Bool} {ws' : va_W} (ha : ws[q0]? = some (a, .inl (cA, N, .inl f))) (ht : tys[t0]? = some (cA, .boolean)) (hj : j < N) (hN : N < 2 ^ 31) (hd : decode cc pc = .ok (.bastore, 1)) (hws : ws.set q0 (a, .inl (cA, N, .inl (upd f j (bB x)))) = ws') (kk : bV D cl Γ nL ws' k n (pc + 1) lv (rest)) : bV D cl Γ nL ws k n (pc) lv (.int (bB x) :: .int (nI j) :: .ref a :: rest) := bV.zastore G q0 t0 ha ht (vp_in_nI hj hN) hd (by rw [nI_clamp (Nat.lt_trans hj hN), bB_nar]; exact hws) kk
theorem bV.alenN (G : bG D cl tys Γ own cc nL ret nm tb rm) (q0 t0 : Nat) {a : Nat} {cA : ClassId} {x : vp_A} {ty : FieldType} (ha : ws[q0]? = some (a, .inl (cA, x))) (ht : tys[t0]? = some (cA, ty)) (hd : decode cc pc = .ok (.arraylength, 1)) (kk : bV D cl Γ nL ws k n (pc + 1) lv (.int (nI x.1) :: rest)) : bV D cl Γ nL ws k n (pc) lv (.ref a :: rest) := bV.alen G q0 t0 ha ht rfl hd kk
end BVN
end
section
/-! ===== an exception meets a handler of the method itself; calls that return or throw; throw new ===== -/
section BTF
variable {Q : Handler → Pre} {E : CtlPost} {e : Env} {d : Bool} {acts : List Action} {S : State} {f : JFrame} {a : Addr}
theorem bt_one {x : ExceptionTableEntry} {t : List ExceptionTableEntry} {c : ClassId} {cell : Cell} (hx : covers x f.pc = true) (h0 : x.catchType ≠ 0) (hl : S.vm.ClassLinks e.platform f.method.cls x.catchType c) (hcell : S.heap[a]? = some cell) (hobj : ∀ k, cell.vm ≠ .statics k)
    (hk : ∃ k, S.vm.classes[cell.cls]? = some k) (hc : ∃ k, S.vm.classes[c]? = some k) :
    wp (findHandler.go f a (x :: t)) Q E e d acts S ↔ (if S.vm.assignable cell.cls c = true then Q (.found x.handlerPc) d acts (S.setVm (S.vm.noted f.method.cls x.catchType (.cls c))) else wp (findHandler.go f a t) Q E e d acts (S.setVm (S.vm.noted f.method.cls x.catchType (.cls c)))) := by
  simp only [covers] at hx
  obtain ⟨ha, ht⟩ := (resolveClass_links e.toSetting hl).op (op := VmOp.resolveClass f.method.cls x.catchType) rfl
  have hal : S.vm.Alike (S.vm.noted f.method.cls x.catchType (.cls c)) := (Vm.Alike.refl S.vm).noted _ _ _
  obtain ⟨k1, hk1⟩ := hk
  obtain ⟨k2, hk2⟩ := hc
  obtain ⟨k1', hk1', -⟩ := hal.2.2 _ _ hk1
  obtain ⟨k2', hk2', -⟩ := hal.2.2 _ _ hk2
  by_cases hf : S.vm.assignable cell.cls c = true
  · have hf' : (S.vm.noted f.method.cls x.catchType (.cls c)).assignable cell.cls c = true := by rw [hal.assignable]; exact hf
    rw [if_pos hf]
    simp [findHandler.go, hx, h0, ha, ht, hcell, hobj, hk1', hk2', hf', VmOp.dirties, VmOp.acts]
  · have hf' : (S.vm.noted f.method.cls x.catchType (.cls c)).assignable cell.cls c = false := by rw [hal.assignable]; simpa using hf
    rw [if_neg hf]
    simp [findHandler.go, hx, h0, ha, ht, hcell, hobj, hk1', hk2', hf', VmOp.dirties, VmOp.acts]
end BTF
/-- an entry that the search goes past -/
def bt_pass (pl : Platform) (s : State) (d : ClassId) (pc : Nat) (th : ClassId) (y : ExceptionTableEntry) : Prop := covers y pc = false ∨ (y.catchType ≠ 0 ∧ ∃ c, s.vm.ClassLinks pl d y.catchType c ∧ s.vm.assignable th c = false)
theorem bt_find {e : Env} {s : State} {f : JFrame} {a : Addr} {cell : Cell} (hobj : ∀ k, cell.vm ≠ .statics k) (hk0 : ∃ k, s.vm.classes[cell.cls]? = some k) {x : ExceptionTableEntry} {rest : List ExceptionTableEntry} {c : ClassId} (hx : covers x f.pc = true) (h0 : x.catchType ≠ 0)
    (hl : s.vm.ClassLinks e.platform f.method.cls x.catchType c) (hfit : s.vm.assignable cell.cls c = true) :
    ∀ (pre : List ExceptionTableEntry) (S : State), s.WarmedH S.vm → S.heap[a]? = some cell → (∀ y ∈ pre, bt_pass e.platform s f.method.cls f.pc cell.cls y) →
      ∃ vm', s.WarmedH vm' ∧ ∀ (Q : Handler → Pre) (E : CtlPost) (d : Bool) (acts : List Action), wp (findHandler.go f a (pre ++ x :: rest)) Q E e d acts S ↔ Q (.found x.handlerPc) d acts (S.setVm vm') := by
  obtain ⟨k0, hk0⟩ := hk0
  have link : ∀ {y : ExceptionTableEntry} {c : ClassId} (S : State), s.WarmedH S.vm → s.vm.ClassLinks e.platform f.method.cls y.catchType c → S.vm.ClassLinks e.platform f.method.cls y.catchType c ∧ (∃ k, S.vm.classes[cell.cls]? = some k) ∧ (∃ k, S.vm.classes[c]? = some k) ∧ s.WarmedH (S.vm.noted f.method.cls y.catchType (.cls c)) := by
    intro y c S hW hl
    obtain ⟨dk, _, _, kt, hd, _, _, _, _, hkt, _, hopen⟩ := hl.here
    obtain ⟨kt', hkt', -⟩ := hW.alike.2.2 _ _ hkt
    obtain ⟨k0', hk0', -⟩ := hW.alike.2.2 _ _ hk0
    exact ⟨hW.classLinks hl, ⟨k0', hk0'⟩, ⟨kt', hkt'⟩, hW.noted hd hopen (State.rightAt_cls hl)⟩
  intro pre
  induction pre with
  | nil =>
    intro S hW hcell _
    obtain ⟨g1, g2, g3, g4⟩ := link S hW hl
    refine ⟨_, g4, fun Q E d acts => ?_⟩
    rw [List.nil_append, bt_one hx h0 g1 hcell hobj g2 g3, if_pos (by rw [hW.alike.assignable]; exact hfit)]
  | cons y ys ih =>
    intro S hW hcell hpass
    have hr : ∀ z ∈ ys, bt_pass e.platform s f.method.cls f.pc cell.cls z := fun z hz => hpass z (List.mem_cons_of_mem _ hz)
    cases hcov : covers y f.pc with
    | false =>
      obtain ⟨vm', w1, w2⟩ := ih S hW hcell hr
      exact ⟨vm', w1, fun Q E d acts => by rw [List.cons_append, W.findHandler_go_skip hcov]; exact w2 Q E d acts⟩
    | true =>
      rcases hpass y List.mem_cons_self with h | ⟨hy0, c', hl', hno⟩
      · rw [h] at hcov; cases hcov
      · obtain ⟨g1, g2, g3, g4⟩ := link S hW hl'
        obtain ⟨vm', w1, w2⟩ := ih (S.setVm (S.vm.noted f.method.cls y.catchType (.cls c'))) g4 hcell hr
        exact ⟨vm', w1, fun Q E d acts => by
          rw [List.cons_append, bt_one hcov hy0 g1 hcell hobj g2 g3, if_neg (by rw [hW.alike.assignable, hno]; decide)]
          exact w2 Q E d acts⟩
theorem bt_caught {p : Program} {l : Launch} {e : Env} {R : Room} {s : State} {m : MethodId} {args : Array Value} {below : List Frame} {meth : Method} {c : Code} {T : State} {locs : List Loc} {k n : Nat} (X : Stand p l e R s m args below meth c T locs k n) (a : Addr) {g : JFrame} (hg : g.method = m) {pc : Nat} {vm' : Vm} (hW : s.WarmedH vm')
    (hfind : ∀ (Q : Handler → Pre) (E : CtlPost) (d : Bool) (acts : List Action), wp (findHandler g a) Q E e d acts ((T.setTop g).pushFrame (.throwing a)) ↔ Q (.found pc) d acts (((T.setTop g).pushFrame (.throwing a)).setVm vm')) :
    Stand p l e R s m args below meth c (T.setVm vm') locs k n ∧ ∀ target, Steps p.tables e below ((T.setVm vm').setTop { g with pc := pc, stack := [.ref a] }) target → Steps p.tables e below ((T.setTop g).pushFrame (.throwing a)) target := by
  refine ⟨X.noted hW, fun target hrest => ?_⟩
  have h : At T g.method c below := by rw [hg]; exact X.here
  obtain ⟨hgo, hw⟩ := h.throwing a
  refine Steps.head hgo hw ?_
  have key : (stepThrowing e ((T.setTop g).pushFrame (.throwing a)) a (.java g :: T.frames.tail)).Is ((((T.setTop g).pushFrame (.throwing a)).setVm vm').setFrames (.java { g with pc := pc, stack := [.ref a] } :: T.frames.tail)) [] := by
    simp only [stepThrowing, searchFrame, vmDo]
    generalize hr : Sem.go _ e false [] ((T.setTop g).pushFrame (.throwing a)) = res
    obtain ⟨as, rfl, ha⟩ := Sem.eq_ok_of hr (a := Handler.found pc) (s' := ((T.setTop g).pushFrame (.throwing a)).setVm vm') (acts' := []) (by simp [hfind _ _ _ _])
    exact ⟨rfl, ha⟩
  rw [stepThread_throwing (frames_entered h.top _), key.1]
  obtain ⟨g₀, hg0⟩ := Option.isSome_iff_exists.mp h.top
  obtain ⟨r, hr⟩ := State.topJava?_eq_some.mp hg0
  have hr' : (T.setVm vm').frames = .java g₀ :: r := hr
  rw [State.setTop_of_frames _ hr'] at hrest
  have e1 : (((T.setTop g).pushFrame (.throwing a)).setVm vm').setFrames (.java { g with pc := pc, stack := [.ref a] } :: T.frames.tail) = (T.setVm vm').setFrames (.java { g with pc := pc, stack := [.ref a] } :: r) := by
    have e2 : ∀ (u : State) (F F' : List Frame), ((u.setFrames F).setVm vm').setFrames F' = (u.setVm vm').setFrames F' := by
      intro u F F'
      show ((u.setVm vm').setFrames F).setFrames F' = _
      rw [State.setFrames_setFrames]
    rw [hr, List.tail_cons, State.pushFrame, e2, State.setTop_of_frames _ hr, e2]
  rw [e1]
  exact hrest
section BTR
variable {D : va_G} {cl : List vw_C} {tys : List (ClassId × FieldType)} {Γ : bCtx} {own : String} {cc : ByteArray} {nL : Nat} {ret : Option FieldType} {nm : String} {tb : bTb} {rm : Room} {ws ws' ws0 : va_W} {k n pc : Nat} {lv : List (Nat × Value)} {rest : List Value} {post : bo → va_W → Prop} {E : String}
/-- the exception leaves the method -/
theorem bT.leave (G : bG D cl tys Γ own cc nL ret nm tb rm) (E0 : bE D cl Γ ws0 post rm) (htb : (tableOf tb).all (fun x => !covers x pc) = true) (h1 : k ≤ rm.cells) (h2 : n ≤ rm.slots) (hp : post (.inr E) ws) : bT D cl Γ nL ws k n pc lv E := by
  obtain ⟨p, l, e, R, s, m, args, below, meth, c, A, Q⟩ := Γ
  obtain ⟨hx, hb, hml, hown, hts, hK, hA, hst, hX, hlk, hret, hnm, htab, hR, htr⟩ := G
  obtain ⟨rfl, rfl⟩ := E0
  intro H locs ls st a ce hP hD hS hl hnew hce hcs hcl T hT X
  have X := stand_widen X h1 h2
  obtain ⟨w1, w2, w3, w4, w5⟩ := X.leaveThrown a (g := F0 m pc ls st) rfl rfl rfl (outside_of_table htab htb) hlk
  refine ⟨_, w1, .threw a, w2, w3, ⟨.inr E, ws, ⟨a, ce, rfl, hnew, ?_, hcs, ?_⟩, hp, ?_, hD, ?_⟩, locs, ⟨Or.inr ⟨a, rfl⟩, w4, w5⟩, hS.2.2⟩
  · show T.heap[a]? = _
    rw [hT]; exact hce
  · show T.vm.findClass E = _
    rw [X.warmed.alike.findClass]; exact hcl
  · show va_P D cl ws T.heap
    rw [hT]; exact hP
  · exact hS.F (t := T.setFrames (.throwing a :: below)) hT
/-- .. or is caught: by the first entry that takes it, behind entries that name classes that it isn't of -/
theorem bT.catch (G : bG D cl tys Γ own cc nL ret nm tb rm) (pre : bTb) (x : Nat × Nat × Nat × Nat) (suf : bTb) (htb : tb = pre ++ x :: suf) (C : String) (hx : covers ⟨x.1, x.2.1, x.2.2.1, x.2.2.2⟩ pc = true) (h0 : x.2.2.2 ≠ 0) (hlink : Cond.classLink own x.2.2.2 C ∈ bw) (hcast : Cond.castable E C ∈ bw)
    (hpass : ∀ y ∈ pre, y.2.2.2 ≠ 0 ∧ ∃ C', Cond.classLink own y.2.2.2 C' ∈ bw ∧ (E, C') ∈ bnots)
    (kk : ∀ a : Nat, bV D cl Γ nL ws k n x.2.2.1 lv [.ref a]) : bT D cl Γ nL ws k n pc lv E := by
  obtain ⟨p, l, e, R, s, m, args, below, meth, c, A, Q⟩ := Γ
  obtain ⟨hx1, hb, hml, hown, hts, hK, hA, hst, hX, hlk, hret, hnm, htab, hR, htr⟩ := G
  intro H locs ls st a ce hP hD hS hl hnew hce hcs hcl T hT X
  have hpl : e.platform.magicAccessors = ({} : Platform).magicAccessors := by rw [X.admits.platform]
  obtain ⟨c', hc', hl1⟩ := Cond.classLink_spec hown (hts _ hlink) e.platform hpl
  obtain ⟨c3, c4, hc3, hc4, hasg⟩ := Cond.castable_spec (hts _ hcast)
  cases Option.some.inj (hcl.symm.trans hc3)
  cases Option.some.inj (hc'.symm.trans hc4)
  obtain ⟨dk, _, _, kt, _, _, _, _, _, hkt, _, _⟩ := hl1.here
  have hk0 : ∃ k, s.vm.classes[ce.cls]? = some k := Vm.classAt_of_assignable hasg ⟨kt, hkt⟩
  have hps : ∀ y ∈ tableOf pre, bt_pass e.platform s m.cls pc ce.cls y := by
    intro y hy
    obtain ⟨z, hz, rfl⟩ := List.mem_map.mp hy
    obtain ⟨hz0, C', hz1, hz2⟩ := hpass z hz
    obtain ⟨c5, hc5, hl5⟩ := Cond.classLink_spec hown (hts _ hz1) e.platform hpl
    obtain ⟨e1, e2, he1, he2, he3⟩ := hX.2.2.2.1 _ hz2
    cases Option.some.inj (hcl.symm.trans he1)
    cases Option.some.inj (hc5.symm.trans he2)
    exact Or.inr ⟨hz0, c5, hl5, he3⟩
  have htab2 : c.exceptionTable.toList = tableOf pre ++ ⟨x.1, x.2.1, x.2.2.1, x.2.2.2⟩ :: tableOf suf := by
    rw [htab, htb]; simp [tableOf]
  obtain ⟨vm', hW', hf⟩ := bt_find (e := e) (s := s) (f := F0 m pc ls st) (a := a) (cell := ce) (VmData.ne_statics_of hcs) hk0 (x := ⟨x.1, x.2.1, x.2.2.1, x.2.2.2⟩) (rest := tableOf suf) hx h0 hl1 hasg (tableOf pre) ((T.setTop (F0 m pc ls st)).pushFrame (.throwing a)) X.warmed (by show T.heap[a]? = _; rw [hT]; exact hce) hps
  obtain ⟨X', st'⟩ := bt_caught X a (g := F0 m pc ls st) rfl hW' (pc := x.2.2.1) (fun Q E d acts => by
    rw [W.findHandler_eq (meth := meth) (code := c) X.method' X.code, htab2]
    exact hf Q E d acts)
  obtain ⟨t, a1, b1⟩ := kk a H locs ls hP hD hS hl (T.setVm vm') hT X'
  exact ⟨t, st' t a1, b1⟩
end BTR
/-- A CALL: the callee comes back, or throws -/
theorem bcall {p : Program} {l : Launch} {e : Env} {R : Room} {s : State} {m : MethodId} {args : Array Value} {below : List Frame} {meth : Method} {c : Code} {T : State} {locs : List Loc} {k n : Nat} (X : Stand p l e R s m args below meth c T locs k n)
    {y : MethodName} {rm : Room} {Pc : Array Value → State → Prop} {Qc : Array Value → State → Outcome → State → Prop} {free : Addr → Prop} (hM : bMet l y (headSpec bw rm) Pc Qc rm.cells rm.slots free) (hbl : FrameBlind Pc) (hts : ∀ w ∈ bw, w.before args s = true)
    {mk : MethodId} {methY : Method} {cY : Code} {kY : Class} {maxL : Nat} (hn : T.methodNamed? y = some mk) (hmY : T.vm.method? mk = some methY) (hcY : methY.code = some cY) (hlY : cY.maxLocals = maxL) (hkY : T.vm.classes[mk.cls]? = some kY) (hiY : kY.init = .initialized)
    (hfr : rm.frames + 1 ≤ R.frames) (hlo : 8 + (maxL + 11) + rm.locals ≤ R.locals) (hc : k + rm.cells ≤ R.cells) (hs : n + rm.slots ≤ R.slots)
    {g : JFrame} (hg : g.method = m) (hsize : g.locals.size = c.maxLocals) {ig : Instr} {len : Nat} (hdg : decode c.code g.pc = .ok (ig, len)) (hW : 2 * g.monitorRoom + (g.stack.map fun v => v.category).sum ≤ 8) {a : Array Value} (hP : Pc a T) :
    ∃ (o : Outcome) (t T' : State) (L : List Loc), Stand p l e R s m args below meth c T' (locs ++ L) (k + rm.cells) (n + rm.slots) ∧ (∀ q ∈ L, free q.base) ∧ T'.heap = t.heap ∧ T'.vm = t.vm ∧ Qc a (T.calling g mk a) o t ∧
      ((∃ v, o = .returned v ∧ Steps p.tables e below (doInvoke e (T.setTop g) [] mk a).1 (T'.setTop { g with pc := g.pc + len, stack := v.toList ++ g.stack })) ∨
       (∃ x, o = .threw x ∧ Steps p.tables e below (doInvoke e (T.setTop g) [] mk a).1 ((T'.setTop g).pushFrame (.throwing x)))) := by
  have h : At T g.method c below := by rw [hg]; exact X.here
  have hpre : (headSpec bw rm).pre.before a T = true := atoms_intro fun w hw => bw_warm hw X.warmed (hts w hw)
  have happ : (headSpec bw rm).appliesLoose y e.platform (T.calling g mk a) = true :=
    Spec.appliesLoose_calling (g := g) h hdg hn hkY hiY (X.room_calling (g := g) (R' := rm) hsize hmY hcY hfr (by rw [hlY]; omega) hc hs) hpre
  obtain ⟨mid, hmid⟩ := h.above
  have hfr2 : (T.setTop g).frames = (.java g :: mid) ++ below := by rw [State.frames_setTop' g h.top, hmid]; rfl
  obtain ⟨o, s₂, hsteps, -, hend, hq, L, hfe, hL⟩ := Steps.callFree hM p X.admits X.cas X.clock (acts := []) hfr2 happ (hbl _ _ _ _ hP) trivial
  rw [State.frames_setTop' g h.top] at hend
  obtain ⟨hov, hW₂, e2, q2, q3, q4, q5, q6⟩ := id hfe
  have hW' : T.WarmedH s₂.vm := hW₂
  have e3 : s₂ = ({ (T.calling g mk a).setFrames s₂.frames with heap := s₂.heap, slotsUsed := s₂.slotsUsed } : State).setVm s₂.vm := by
    have h1 : s₂ = ({ s₂ with vm := (T.calling g mk a).vm } : State).setVm s₂.vm := rfl
    have e2' : ({ s₂ with vm := (T.calling g mk a).vm } : State) = { (T.calling g mk a).setFrames s₂.frames with heap := s₂.heap, slotsUsed := s₂.slotsUsed } := e2
    rw [e2'] at h1
    exact h1
  obtain ⟨g₀, hg0⟩ := Option.isSome_iff_exists.mp h.top
  obtain ⟨r, hr⟩ := State.topJava?_eq_some.mp hg0
  have hr' : (({ T with heap := s₂.heap, slotsUsed := s₂.slotsUsed } : State).setVm s₂.vm).frames = .java g₀ :: r := hr
  have hsame : T.sameButNew ({ T with heap := s₂.heap, slotsUsed := s₂.slotsUsed } : State) L rm.cells rm.slots := by
    refine ⟨?_, q2, q3, q4, q5, q6⟩
    obtain ⟨t, ht, -⟩ := State.frames_cons hr
    show ({ T with heap := s₂.heap, slotsUsed := s₂.slotsUsed } : State) = { T.setFrames T.frames with heap := s₂.heap, slotsUsed := s₂.slotsUsed }
    rw [State.setFrames_self ht]
  have hX' : Stand p l e R s m args below meth c (({ T with heap := s₂.heap, slotsUsed := s₂.slotsUsed } : State).setVm s₂.vm) (locs ++ L) (k + rm.cells) (n + rm.slots) :=
    ⟨X.admits, X.cas, X.clock, X.frames, X.room, X.hears, X.method, X.code, (X.here.setHeapUsed s₂.heap s₂.slotsUsed).setVm hW'.alike, X.tail, State.WarmedH.trans X.warmed hW', X.limits, X.bytes, X.same.trans (hsame.setVm s.vm)⟩
  refine ⟨o, s₂, _, L, hX', hL, rfl, rfl, hq, ?_⟩
  rcases hov with ⟨v, rfl⟩ | ⟨x, rfl⟩
  · refine Or.inl ⟨v, rfl, ?_⟩
    obtain ⟨c₂, i₂, len₂, hc₂, hd₂, hf₂⟩ := hend
    have hcc : c₂ = c := by
      have h1 : s₂.code? g.method = T.code? g.method := by rw [State.code?_eq, State.code?_eq, hW'.alike.method?]
      exact Option.some.inj (hc₂.symm.trans (h1.trans h.code))
    subst hcc
    have hlen : len₂ = len := by rw [hdg] at hd₂; cases hd₂; rfl
    subst hlen
    have hs₂ : s₂ = (({ T with heap := s₂.heap, slotsUsed := s₂.slotsUsed } : State).setVm s₂.vm).setTop { g with pc := g.pc + len₂, stack := v.toList ++ g.stack } := by
      refine e3.trans ?_
      rw [hf₂, State.calling_eq h.top, State.setFrames_setFrames, State.setTop_of_frames _ hr', hr]
      rfl
    rw [← hs₂]
    exact hsteps
  · refine Or.inr ⟨x, rfl, ?_⟩
    have hf₂ : s₂.frames = .throwing x :: .java g :: T.frames.tail := hend
    have hs₂ : s₂ = ((({ T with heap := s₂.heap, slotsUsed := s₂.slotsUsed } : State).setVm s₂.vm).setTop g).pushFrame (.throwing x) := by
      refine e3.trans ?_
      rw [hf₂, State.calling_eq h.top, State.setFrames_setFrames, State.pushFrame, State.frames_setTop _ hr', State.setTop_of_frames _ hr', State.setFrames_setFrames, hr]
      rfl
    rw [← hs₂]
    exact hsteps
/-- what the rows of calls have in common: the callee's contract, met at the caller's world -/
theorem bcallW {D : va_G} {cl : List vw_C} {tys : List (ClassId × FieldType)} {p : Program} {l : Launch} {e : Env} {R : Room} {s : State} {m : MethodId} {args : Array Value} {below : List Frame} {meth : Method} {c : Code} {A : Nat → Prop} {Q : State → Prop} {own : String} {cc : ByteArray} {nL : Nat} {ret : Option FieldType} {nm : String} {tb : bTb}
    (G : bG D cl tys (p, l, e, R, s, m, args, below, meth, c, A, Q) own cc nL ret nm tb R) {y : MethodName} {b' : ByteArray} {n' : Nat} {r' : Option FieldType} {tb' : bTb} (hy : bcode y b' n' r' tb') (hini : Cond.initialized y.cls ∈ bw) {rm : Room} {ws : va_W} {av : List Value} {post : bo → va_W → Prop} (hM : bC D cl tys y rm ws av post)
    (hR : rm.frames + 1 ≤ R.frames ∧ 8 + (n' + 11) + rm.locals ≤ R.locals) {k n pc : Nat} (hcs : k + rm.cells ≤ R.cells ∧ n + rm.slots ≤ R.slots) {lv : List (Nat × Value)} {rest : List Value} (hsum : (rest.map fun v => v.category).sum ≤ 8) {ig : Instr} (hd : decode cc pc = .ok (ig, 3))
    (kr : ∀ (v : Option Value) (ws' : va_W), post (.inl v) ws' → bV D cl (p, l, e, R, s, m, args, below, meth, c, A, Q) nL ws' (k + rm.cells) (n + rm.slots) (pc + 3) lv (v.toList ++ rest))
    (kt : ∀ (E : String) (ws' : va_W), post (.inr E) ws' → bT D cl (p, l, e, R, s, m, args, below, meth, c, A, Q) nL ws' (k + rm.cells) (n + rm.slots) pc lv E)
    {H : Heap} {locs : List Loc} {ls : Array Slot} (hP : va_P D cl ws H) (hDw : va_D A ws) (hS : va_S A s.heap H locs) (hl : lv_has ls nL lv) {T : State} (hT : T.heap = H) (X : Stand p l e R s m args below meth c T locs k n) {mk : MethodId} (hmk : s.methodNamed? y = some mk) :
    ∃ t, Steps p.tables e below (doInvoke e (T.setTop (F0 m pc ls rest)) [] mk av.toArray).1 t ∧ Q t := by
  obtain ⟨hx, hb, hml, hown, hts, hK, hA, hst, hX, hlk, hret, hnm, htab, -, htr⟩ := G
  obtain ⟨mk', methY, cY, q0, q1, q2, -, q4, -, -, -, -⟩ := hy.spec hts
  cases hmk.symm.trans q0
  obtain ⟨kY, hkY, -⟩ := className_of_methodNamed hmk
  have hiY : kY.init = .initialized := Cond.initialized_spec (findClass_of_methodNamed hmk) hkY (hts _ hini)
  obtain ⟨kY', hkY', heY⟩ := X.warmed.alike.2.2 _ _ hkY
  have hfree : ∀ q, va_A ws H.size q → A q := by
    intro q hq
    rcases hq with ⟨j, e1, hj⟩ | hq
    · exact hDw.2 j _ hj
    · exact hA q (Nat.le_trans hS.1 hq)
  have hstat : ∀ (a : Nat) (cell : Cell), s.heap[a]? = some cell → cell.vm.isStatics = true → T.heap[a]? = some cell := by
    intro a cell h1 h2
    have h3 : ¬ A a := fun h => by rw [hst a cell h h1] at h2; cases h2
    rw [hT, hS.2.1 a (Array.getElem?_eq_some_iff.mp h1).1 h3]
    exact h1
  have hPc : bP D cl tys ws H.size av av.toArray T := ⟨rfl, by rw [hT], by rw [hT]; exact hP, va_K.moved X.warmed.alike hK, hDw.weaken (fun _ _ _ _ => trivial), bX.go X.warmed hstat hX⟩
  obtain ⟨o, t, T', L, X', hL, e1, e2, ⟨r, ws1, ho, hpost, hP1, hD1, hF1⟩, hcase⟩ := bcall X (hM l htr H.size) bP.blind hts (X.named hmk) (by rw [X.warmed.alike.method?]; exact q1) q2 q4 hkY' (by rw [heY]; exact hiY) hR.1 hR.2 hcs.1 hcs.2
    (g := F0 m pc ls rest) rfl (hl.1.trans hml.symm) (by rw [hb]; exact hd) (lv_room hsum) hPc
  have hT1 : (T.calling (F0 m pc ls rest) mk av.toArray).heap = H := hT
  have hS1 : va_S A s.heap T'.heap (locs ++ L) := by
    refine ⟨Nat.le_trans hS.1 (by rw [e1]; exact hT1 ▸ hF1.1), fun q h1 h2 => ?_, fun q hq => ?_⟩
    · have h3 : q < H.size := Nat.lt_of_lt_of_le h1 hS.1
      rw [e1, hF1.2 q (by rw [hT1]; exact h3) (fun z => h2 (hfree q z)), hT1]
      exact hS.2.1 q h1 h2
    · rcases List.mem_append.mp hq with h | h
      · exact hS.2.2 q h
      · exact hfree _ (hL q h)
  have hP2 : va_P D cl ws1 T'.heap := by rw [e1]; exact hP1
  have hD2 : va_D A ws1 := hD1.weaken (fun _ q _ h => hfree q.1 h)
  rcases hcase with ⟨v, rfl, hgo⟩ | ⟨x, rfl, hgo⟩
  · cases r with
    | inl v' =>
      cases ho
      obtain ⟨t2, a1, b1⟩ := kr v ws1 hpost T'.heap (locs ++ L) ls hP2 hD2 hS1 hl T' rfl X'
      exact ⟨t2, hgo.trans a1, b1⟩
    | inr E => obtain ⟨a, ce, h1, -⟩ := ho; cases h1
  · cases r with
    | inl v' => cases ho
    | inr E =>
      obtain ⟨a, ce, h1, h2, h3, h4, h5⟩ := ho
      cases h1
      obtain ⟨t2, a1, b1⟩ := kt E ws1 hpost T'.heap (locs ++ L) ls rest x ce hP2 hD2 hS1 hl (Nat.le_trans hS.1 h2) (by rw [e1]; exact h3) h4 (by rw [← e2, X'.warmed.alike.findClass] at h5; exact h5) T' rfl X'
      exact ⟨t2, hgo.trans a1, b1⟩
/-- a walk seen from a start that has the heap as it is now -/
theorem bre {p : Program} {l : Launch} {e : Env} {R : Room} {s : State} {m : MethodId} {args : Array Value} {below : List Frame} {meth : Method} {c : Code} {T : State} {locs : List Loc} {k n : Nat} (X : Stand p l e R s m args below meth c T locs k n) (hk : k ≤ R.cells) (hn : n ≤ R.slots) :
    Stand p l e { R with cells := R.cells - k, slots := R.slots - n } ({ s with heap := T.heap, slotsUsed := T.slotsUsed } : State) m args below meth c T [] 0 0 := by
  have h1 := X.same.1
  refine ⟨X.admits, X.cas, X.clock, X.frames, ?_, X.hears, X.method, X.code, X.here, X.tail, X.warmed, X.limits, X.bytes, ?_⟩
  · have r0 := X.room
    have b := X.book
    have hs := X.heapSize
    have hu := X.used
    simp only [State.hasRoom, Bool.and_eq_true, decide_eq_true_eq] at r0 ⊢
    refine ⟨⟨⟨⟨r0.1.1.1.1, r0.1.1.1.2⟩, ?_⟩, ?_⟩, b⟩
    · show T.heap.size + (R.cells - k) ≤ _
      have := r0.1.1.2
      omega
    · show T.slotsUsed + (R.slots - n) ≤ _
      have := r0.1.2
      omega
  · refine ⟨h1, Nat.le_refl _, Nat.le_refl _, ?_, ?_, ?_⟩
    · show T.slotsUsed = T.slotsUsed + ((T.heap.toList.drop T.heap.size).map (·.slots.size)).sum
      rw [← Array.length_toList, List.drop_length]
      rfl
    · show ((T.heap.toList.drop T.heap.size).map (·.slots.size)).sum ≤ 0
      rw [← Array.length_toList, List.drop_length]
      exact Nat.le_refl _
    · intro a c hc
      exact ⟨c, hc, rfl, rfl, fun i _ => rfl⟩
section BVC
variable {D : va_G} {cl : List vw_C} {tys : List (ClassId × FieldType)} {Γ : bCtx} {own : String} {cc : ByteArray} {nL : Nat} {ret : Option FieldType} {nm : String} {tb : bTb} {rm : Room} {ws ws0 : va_W} {k n pc : Nat} {lv : List (Nat × Value)} {rest st : List Value}
/-- what is known of a method: its code; its class is initialised; how many parameters -/
def bMd (y : MethodName) (b : ByteArray) (nl : Nat) (r : Option FieldType) (tb : bTb) (np : Nat) : Prop := bcode y b nl r tb ∧ Cond.initialized y.cls ∈ bw ∧ (y.cls ≠ "java/lang/invoke/MethodHandle" ∧ y.cls ≠ "java/lang/invoke/VarHandle") ∧ (parseMethodDescriptor y.desc).map (fun d => d.parameters.length) = some np
theorem bMd.len {y : MethodName} {b : ByteArray} {nl : Nat} {r : Option FieldType} {tb : bTb} {np : Nat} (h : bMd y b nl r tb np) {sig : MethodDescriptor} (hs : parseMethodDescriptor y.desc = some sig) : np = sig.parameters.length := by
  have h2 := h.2.2.2
  rw [hs] at h2
  exact (Option.some.inj h2).symm
theorem bV.callV (G : bG D cl tys Γ own cc nL ret nm tb rm) {y : MethodName} {b' : ByteArray} {n' np : Nat} {r' : Option FieldType} {tb' : bTb} (hy : bMd y b' n' r' tb' np) (hw2 : Cond.instanceMethod y ∈ bw) (hw3 : Cond.selects y.cls y y ∈ bw) {idx : Nat} (hw : Cond.methodLink own idx y ∈ bw)
    {rm' : Room} {a : Nat} {As : List Value} {post : bo → va_W → Prop} (hM : bC D cl tys y rm' ws (.ref a :: As) post) (q0 : Nat) {ci : Nat} {fs : List Value} {q : vw_C} (he : ws[q0]? = some (a, .inr (ci, fs))) (hc : cl[ci]? = some q) (hq : q.1 = y.cls) (hnp : As.length = np) (hst0 : st = As.reverse ++ .ref a :: rest)
    (hR : rm'.frames + 1 ≤ rm.frames ∧ 8 + (n' + 11) + rm'.locals ≤ rm.locals) (hcs : k + rm'.cells ≤ rm.cells ∧ n + rm'.slots ≤ rm.slots) (hsum : (rest.map fun v => v.category).sum ≤ 8) (hd : decode cc pc = .ok (.invokevirtual idx, 3))
    (kr : ∀ (v : Option Value) (ws' : va_W), post (.inl v) ws' → bV D cl Γ nL ws' (k + rm'.cells) (n + rm'.slots) (pc + 3) lv (v.toList ++ rest))
    (kt : ∀ (E : String) (ws' : va_W), post (.inr E) ws' → bT D cl Γ nL ws' (k + rm'.cells) (n + rm'.slots) pc lv E) : bV D cl Γ nL ws k n pc lv st := by
  obtain ⟨p, l, e, R, s, m, args, below, meth, c, A, Q⟩ := Γ
  have G' := id G
  obtain ⟨hx, hb, hml, hown, hts, hK, hA, hst, hX, hlk, hret, hnm, htab, hR0, htr⟩ := G
  subst hst0; subst hR0
  intro H locs ls hP hD hS hl T hT X
  obtain ⟨mk, methM, hnamed, hmethM, hstM, habM⟩ := Cond.instanceMethod_spec (hts _ hw2)
  obtain ⟨mk', meth', c', q0', q1', q2', -, -, -, -, -, hsig⟩ := hy.1.spec hts
  cases hnamed.symm.trans q0'
  cases hmethM.symm.trans q1'
  obtain ⟨cellB, hcB, hoB, hclB⟩ := va_recv hK hP hc he
  obtain ⟨c2, r2, m2, e1, e2, e3, e4, kP, hkP, hkPi⟩ := Cond.selects_spec (hts _ hw3)
  rw [hq] at hclB
  cases hclB.symm.trans e1
  cases (State.methodFound?_of_named hnamed hy.2.2.1).symm.trans e2
  cases hnamed.symm.trans e3
  have hselP : selectMethod e.platform s.vm cellB.cls mk = .method mk := by rw [Launch.admits_selectMethod X.admits]; exact e4
  obtain ⟨vm₁, X₁, hstep₁⟩ := X.invokevirtual hx hown (hts _ hw) hnamed hmethM hstM hkP hkPi hy.2.2.1 (a := a) (cell := cellB) (by rw [hT]; exact hcB) (fun z h => by rw [h] at hoB; cases hoB) hselP hmethM habM hkP hkPi (g := F0 m pc ls (As.reverse ++ .ref a :: rest)) rfl (argsL := As) (rest := rest) (hnp.trans (hy.len hsig)) rfl (by rw [hb]; exact hd)
  obtain ⟨t, a1, b1⟩ := bcallW G' hy.1 hy.2.1 hM hR hcs hsum hd kr kt hP hD hS hl (T := T.setVm vm₁) hT X₁ hnamed
  exact ⟨t, hstep₁ _ (fun acts => by rw [doInvoke_state]; exact a1), b1⟩
theorem bV.callS (G : bG D cl tys Γ own cc nL ret nm tb rm) {y : MethodName} {b' : ByteArray} {n' np : Nat} {r' : Option FieldType} {tb' : bTb} (hy : bMd y b' n' r' tb' np) (hw2 : Cond.static y ∈ bw) {idx : Nat} (hw : Cond.methodLink own idx y ∈ bw)
    {rm' : Room} {As : List Value} {post : bo → va_W → Prop} (hM : bC D cl tys y rm' ws As post) (hnp : As.length = np) (hst0 : st = As.reverse ++ rest)
    (hR : rm'.frames + 1 ≤ rm.frames ∧ 8 + (n' + 11) + rm'.locals ≤ rm.locals) (hcs : k + rm'.cells ≤ rm.cells ∧ n + rm'.slots ≤ rm.slots) (hsum : (rest.map fun v => v.category).sum ≤ 8) (hd : decode cc pc = .ok (.invokestatic idx, 3))
    (kr : ∀ (v : Option Value) (ws' : va_W), post (.inl v) ws' → bV D cl Γ nL ws' (k + rm'.cells) (n + rm'.slots) (pc + 3) lv (v.toList ++ rest))
    (kt : ∀ (E : String) (ws' : va_W), post (.inr E) ws' → bT D cl Γ nL ws' (k + rm'.cells) (n + rm'.slots) pc lv E) : bV D cl Γ nL ws k n pc lv st := by
  obtain ⟨p, l, e, R, s, m, args, below, meth, c, A, Q⟩ := Γ
  have G' := id G
  obtain ⟨hx, hb, hml, hown, hts, hK, hA, hst, hX, hlk, hret, hnm, htab, hR0, htr⟩ := G
  subst hst0; subst hR0
  intro H locs ls hP hD hS hl T hT X
  obtain ⟨mk, methM, cM, hnamed, hmethM, -, -, -, -, -, -, hsig⟩ := hy.1.spec hts
  have hstatic : methM.isStatic = true := Cond.static_spec hnamed hmethM (hts _ hw2)
  obtain ⟨kP, hkP, -⟩ := className_of_methodNamed hnamed
  have hinitP : kP.init = .initialized := Cond.initialized_spec (findClass_of_methodNamed hnamed) hkP (hts _ hy.2.1)
  obtain ⟨vm₁, X₁, hstep₁⟩ := X.invokestatic hx hown (hts _ hw) hnamed hmethM hstatic hkP hinitP hy.2.2.1 (g := F0 m pc ls (As.reverse ++ rest)) rfl (argsL := As) (rest := rest) (hnp.trans (hy.len hsig)) rfl (by rw [hb]; exact hd)
  obtain ⟨t, a1, b1⟩ := bcallW G' hy.1 hy.2.1 hM hR hcs hsum hd kr kt hP hD hS hl (T := T.setVm vm₁) hT X₁ hnamed
  exact ⟨t, hstep₁ _ (fun acts => by rw [doInvoke_state]; exact a1), b1⟩
theorem bV.callSN (G : bG D cl tys Γ own cc nL ret nm tb rm) {y : MethodName} {b' : ByteArray} {n' np : Nat} {r' : Option FieldType} {tb' : bTb} (hy : bMd y b' n' r' tb' np) (hw2 : Cond.static y ∈ bw) {idx : Nat} {host : String} (hw : (own, idx, y, host) ∈ bnests)
    {rm' : Room} {As : List Value} {post : bo → va_W → Prop} (hM : bC D cl tys y rm' ws As post) (hnp : As.length = np) (hst0 : st = As.reverse ++ rest)
    (hR : rm'.frames + 1 ≤ rm.frames ∧ 8 + (n' + 11) + rm'.locals ≤ rm.locals) (hcs : k + rm'.cells ≤ rm.cells ∧ n + rm'.slots ≤ rm.slots) (hsum : (rest.map fun v => v.category).sum ≤ 8) (hd : decode cc pc = .ok (.invokestatic idx, 3))
    (kr : ∀ (v : Option Value) (ws' : va_W), post (.inl v) ws' → bV D cl Γ nL ws' (k + rm'.cells) (n + rm'.slots) (pc + 3) lv (v.toList ++ rest))
    (kt : ∀ (E : String) (ws' : va_W), post (.inr E) ws' → bT D cl Γ nL ws' (k + rm'.cells) (n + rm'.slots) pc lv E) : bV D cl Γ nL ws k n pc lv st := by
  obtain ⟨p, l, e, R, s, m, args, below, meth, c, A, Q⟩ := Γ
  have G' := id G
  obtain ⟨hx, hb, hml, hown, hts, hK, hA, hst, hX, hlk, hret, hnm, htab, hR0, htr⟩ := G
  subst hst0; subst hR0
  intro H locs ls hP hD hS hl T hT X
  obtain ⟨mk, methM, cM, hnamed, hmethM, -, -, -, -, -, -, hsig⟩ := hy.1.spec hts
  have hstatic : methM.isStatic = true := Cond.static_spec hnamed hmethM (hts _ hw2)
  obtain ⟨kP, hkP, -⟩ := className_of_methodNamed hnamed
  have hinitP : kP.init = .initialized := Cond.initialized_spec (findClass_of_methodNamed hnamed) hkP (hts _ hy.2.1)
  obtain ⟨vm₁, X₁, hstep₁⟩ := X.invokestaticNest hx hown (va_Nw.use (A := args) rfl (hX.2.2.2.2 _ hw)) hnamed hmethM hstatic hkP hinitP hy.2.2.1 (g := F0 m pc ls (As.reverse ++ rest)) rfl (argsL := As) (rest := rest) (hnp.trans (hy.len hsig)) rfl (by rw [hb]; exact hd)
  obtain ⟨t, a1, b1⟩ := bcallW G' hy.1 hy.2.1 hM hR hcs hsum hd kr kt hP hD hS hl (T := T.setVm vm₁) hT X₁ hnamed
  exact ⟨t, hstep₁ _ (fun acts => by rw [doInvoke_state]; exact a1), b1⟩
theorem bV.callI (G : bG D cl tys Γ own cc nL ret nm tb rm) {y : MethodName} {b' : ByteArray} {n' np : Nat} (hy : bMd y b' n' none [] np) (hyn : y.name = "<init>") (hw2 : Cond.instanceMethod y ∈ bw) (hw3 : Cond.code y b' n' none ∈ bw) {idx : Nat} (hw : Cond.methodLink own idx y ∈ bw)
    {rm' : Room} {a : Nat} {As : List Value} {post : bo → va_W → Prop} (hM : bC D cl tys y rm' ws (.ref a :: As) post) (hnp : As.length = np) (hst0 : st = As.reverse ++ .ref a :: rest)
    (hR : rm'.frames + 1 ≤ rm.frames ∧ 8 + (n' + 11) + rm'.locals ≤ rm.locals) (hcs : k + rm'.cells ≤ rm.cells ∧ n + rm'.slots ≤ rm.slots) (hsum : (rest.map fun v => v.category).sum ≤ 8) (hd : decode cc pc = .ok (.invokespecial idx, 3))
    (kr : ∀ (v : Option Value) (ws' : va_W), post (.inl v) ws' → bV D cl Γ nL ws' (k + rm'.cells) (n + rm'.slots) (pc + 3) lv (v.toList ++ rest))
    (kt : ∀ (E : String) (ws' : va_W), post (.inr E) ws' → bT D cl Γ nL ws' (k + rm'.cells) (n + rm'.slots) pc lv E) : bV D cl Γ nL ws k n pc lv st := by
  obtain ⟨p, l, e, R, s, m, args, below, meth, c, A, Q⟩ := Γ
  have G' := id G
  obtain ⟨hx, hb, hml, hown, hts, hK, hA, hst, hX, hlk, hret, hnm, htab, hR0, htr⟩ := G
  subst hst0; subst hR0
  intro H locs ls hP hD hS hl T hT X
  have hpl : e.platform.magicAccessors = ({} : Platform).magicAccessors := by rw [X.admits.platform]
  obtain ⟨mk, methM, cM, kP, vm₁, hnamed, hmethM, hcodeM, -, hlocalsM, -, hkP, -, hW₁, hstep₁⟩ := Steps.initColdArgs (e := e) X.here hx X.warmed hpl hown hyn hy.2.2.1 (hts _ hw) (hts _ hw2) (hts _ hw3) (f := F0 m pc ls (As.reverse ++ .ref a :: rest)) rfl (argsL := As) (rest := rest) (a := a) (fun sig h => hnp.trans (hy.len h)) rfl (by rw [hb]; exact hd)
  have X₁ := X.noted hW₁
  obtain ⟨t, a1, b1⟩ := bcallW G' hy.1 hy.2.1 hM hR hcs hsum hd kr kt hP hD hS hl (T := T.setVm vm₁) hT X₁ hnamed
  exact ⟨t, hstep₁ _ (fun acts => by rw [doInvoke_state]; exact a1), b1⟩
theorem bV.callIN (G : bG D cl tys Γ own cc nL ret nm tb rm) {y : MethodName} {b' : ByteArray} {n' np : Nat} (hy : bMd y b' n' none [] np) (hyn : y.name = "<init>") (hw2 : Cond.instanceMethod y ∈ bw) (hw3 : Cond.code y b' n' none ∈ bw) {idx : Nat} {host : String} (hw : (own, idx, y, host) ∈ bnests)
    {rm' : Room} {a : Nat} {As : List Value} {post : bo → va_W → Prop} (hM : bC D cl tys y rm' ws (.ref a :: As) post) (hnp : As.length = np) (hst0 : st = As.reverse ++ .ref a :: rest)
    (hR : rm'.frames + 1 ≤ rm.frames ∧ 8 + (n' + 11) + rm'.locals ≤ rm.locals) (hcs : k + rm'.cells ≤ rm.cells ∧ n + rm'.slots ≤ rm.slots) (hsum : (rest.map fun v => v.category).sum ≤ 8) (hd : decode cc pc = .ok (.invokespecial idx, 3))
    (kr : ∀ (v : Option Value) (ws' : va_W), post (.inl v) ws' → bV D cl Γ nL ws' (k + rm'.cells) (n + rm'.slots) (pc + 3) lv (v.toList ++ rest))
    (kt : ∀ (E : String) (ws' : va_W), post (.inr E) ws' → bT D cl Γ nL ws' (k + rm'.cells) (n + rm'.slots) pc lv E) : bV D cl Γ nL ws k n pc lv st := by
  obtain ⟨p, l, e, R, s, m, args, below, meth, c, A, Q⟩ := Γ
  have G' := id G
  obtain ⟨hx, hb, hml, hown, hts, hK, hA, hst, hX, hlk, hret, hnm, htab, hR0, htr⟩ := G
  subst hst0; subst hR0
  intro H locs ls hP hD hS hl T hT X
  have hpl : e.platform.magicAccessors = ({} : Platform).magicAccessors := by rw [X.admits.platform]
  obtain ⟨mk, methM, cM, kP, vm₁, hnamed, hmethM, hcodeM, -, hlocalsM, -, hkP, -, hW₁, hstep₁⟩ := Steps.initColdArgsNest (e := e) X.here hx X.warmed hpl hown hyn hy.2.2.1 (va_Nw.use (A := args) rfl (hX.2.2.2.2 _ hw)) (hts _ hw2) (hts _ hw3) (f := F0 m pc ls (As.reverse ++ .ref a :: rest)) rfl (argsL := As) (rest := rest) (a := a) (fun sig h => hnp.trans (hy.len h)) rfl (by rw [hb]; exact hd)
  have X₁ := X.noted hW₁
  obtain ⟨t, a1, b1⟩ := bcallW G' hy.1 hy.2.1 hM hR hcs hsum hd kr kt hP hD hS hl (T := T.setVm vm₁) hT X₁ hnamed
  exact ⟨t, hstep₁ _ (fun acts => by rw [doInvoke_state]; exact a1), b1⟩
/-- throw new E("..") -/
theorem bV.throwNew (G : bG D cl tys Γ own cc nL ret nm tb rm) {post : bo → va_W → Prop} (E0 : bE D cl Γ ws0 post rm) {E tx : String} {names : List String} {ia ib ic : Nat} (hfit : Bundle.fit E = true) (hnames : ∀ z ∈ names, Bundle.fit z = true) (hat : ∀ w ∈ Bundle.ownAtoms own ic E names, w ∈ bw ∨ w = .laysStatic Bundle.tN "UNASSIGNED_STACK" Bundle.steD ∨ w = .laysStatic Bundle.tN "SUPPRESSED_SENTINEL" Bundle.listD ∨ w = .isRef (.static Bundle.tN "UNASSIGNED_STACK" Bundle.steD) ∨ w = .isRef (.static Bundle.tN "SUPPRESSED_SENTINEL" Bundle.listD))
    (hw : Cond.classLink own ia E ∈ bw) (hw2 : Cond.instantiable E 6 ∈ bw) (hw3 : Cond.initialized E ∈ bw) (hstr : (own, ib, tx) ∈ bstrs)
    (hc : k + 1 ≤ rm.cells) (hs : n + 6 ≤ rm.slots) (hfr : names.length + 3 < rm.frames) (hlo : (rest.map fun v => v.category).sum + 1 + (13 * (names.length + 1) + 42) ≤ rm.locals) (htb : (tableOf tb).all (fun x => !covers x (pc + 9)) = true)
    (hd0 : decode cc pc = .ok (.new ia, 3)) (hd3 : decode cc (pc + 3) = .ok (.dup, 1)) (hd4 : decode cc (pc + 4) = .ok (.ldc ib, 2)) (hd6 : decode cc (pc + 6) = .ok (.invokespecial ic, 3)) (hd9 : decode cc (pc + 9) = .ok (.athrow, 1))
    (hp : post (.inr E) ws) : bV D cl Γ nL ws k n pc lv rest := by
  obtain ⟨p, l, e, R, s0, m, args, below, meth, c, A, Q⟩ := Γ
  obtain ⟨hx, hb, hml, hown0, hts0, hK, hA, hst, hX0, hlk, hret, hnm, htab, hR0, htr⟩ := G
  obtain ⟨rfl, rfl⟩ := E0
  subst hR0
  intro H locs ls hP hD hS hl T hT X0
  -- the same walk, seen from a start that has the heap as it is now
  have X := bre X0 (by omega) (by omega)
  have hstat : ∀ (a : Nat) (cell : Cell), s0.heap[a]? = some cell → cell.vm.isStatics = true → T.heap[a]? = some cell := by
    intro a cell h1 h2
    have h3 : ¬ va_A ws0 s0.heap.size a := fun h => by rw [hst a cell h h1] at h2; cases h2
    rw [hT, hS.2.1 a (Array.getElem?_eq_some_iff.mp h1).1 h3]
    exact h1
  obtain ⟨s, hse⟩ : ∃ s : State, s = { s0 with heap := T.heap, slotsUsed := T.slotsUsed } := ⟨_, rfl⟩
  rw [← hse] at X
  have hWs : s0.WarmedH s.vm := by rw [hse]; exact State.WarmedH.refl s0
  have hts : ∀ w ∈ bw, w.before args s = true := fun w h => bw_warm h hWs (hts0 w h)
  have hX : bX s := bX.go hWs (fun a cell h1 h2 => by rw [hse]; exact hstat a cell h1 h2) hX0
  have hown : s.vm.findClass own = some m.cls := by rw [hse]; exact hown0
  have hsh : s.heap = T.heap := by rw [hse]
  have htr' : e.platform.stackTraces = false := by rw [Example.NoTraceControls.admits_follows X.admits]; exact htr
  obtain ⟨str, hstr1, hstr2⟩ := hX.2.2.1 _ hstr
  obtain ⟨vm₁, cX, kX, hfX, hkX, -, -, X₁, st1⟩ := X.newCold hx hown (hts _ hw) (hts _ hw2) (hts _ hw3) (g := F0 m pc ls rest) rfl (by rw [hb]; exact hd0) (by show 0 + 1 ≤ R.cells - k; omega) (by show 0 + 6 ≤ R.slots - n; omega)
  generalize hT1 : (T.setVm vm₁).pushCell { cls := cX, slots := kX.instanceTypes.map defaultValue, vm := .none } = T1 at X₁ st1
  have hcellA : T1.heap[T.heap.size]? = some (freshCell cX kX) := by rw [← hT1]; exact State.heap_pushCell_size _ _
  have hall : ∀ w ∈ Bundle.ownAtoms own ic E names, w.before args s = true := by
    intro w hw0
    rcases hat w hw0 with h | rfl | rfl | rfl | rfl
    · exact hts _ h
    · exact hX.1.1
    · exact hX.2.1.1
    · exact hX.1.2
    · exact hX.2.1.2
  obtain ⟨U, hsteps, hrun, hend, hW, hsame, ce, hce, K⟩ := X₁.ctorThrowS hx htr' (own := own) (cls := E) (names := names) (ic := ic) hown hfit hnames hall
    (fun x hx0 => by cases hx0) hfX hkX hcellA (by rw [hsh]; exact Nat.le_refl _) (msg := .ref str) rfl
    (g := F0 m (pc + 6) ls (.ref str :: .ref T.heap.size :: .ref T.heap.size :: rest)) rfl (hl.1.trans hml.symm) rfl rfl (rest := rest) rfl
    (by rw [hb]; exact hd6) (by rw [hb]; exact hd9) (outside_of_table htab htb) hfr (by show 2 * 0 + (1 + (rest.map fun v => v.category).sum) + (13 * (names.length + 1) + 42) ≤ R.locals; omega) hlk
  have hold : ∀ (q : Nat) (cell : Cell), H[q]? = some cell → U.heap[q]? = some cell := fun q cell h => hsame.old_cell (by rw [hsh, hT]; exact h)
  have hold2 : ∀ q : Nat, q < H.size → U.heap[q]? = H[q]? := by
    intro q hq
    rw [hold q H[q] (Array.getElem?_eq_getElem hq), Array.getElem?_eq_getElem hq]
  have hWU : s0.WarmedH U.vm := State.WarmedH.trans hWs hW
  have hsz : H.size ≤ U.heap.size := by
    have := hsame.2.1
    rw [hsh, hT] at this
    exact this
  refine ⟨U, ?_, .threw T.heap.size, hrun, hend, ⟨.inr E, ws, ⟨T.heap.size, ce, rfl, by rw [hT]; exact hS.1, hce, by rw [K.vm]; rfl, by rw [hW.alike.findClass]; exact K.cls⟩, hp, hP.kept (fun j q hq => hold2 q.1 (hP j q hq).lt), hD, Nat.le_trans hS.1 hsz, fun q h1 h2 => ?_⟩, locs ++ [], ⟨Or.inr ⟨_, rfl⟩, hWU, ?_⟩, by rw [List.append_nil]; exact hS.2.2⟩
  · refine st1 _ ?_
    show Steps p.tables e below (T1.setTop (F0 m (pc + 3) ls (.ref T.heap.size :: rest))) _
    jvm_step X₁.here [X₁.here.top, hx, hb, hd3, Value.category]
    exact X₁.ldcString hx hown (text := tx) (a := str) hstr1 hstr2 (g := F0 m (pc + 4) ls (.ref T.heap.size :: .ref T.heap.size :: rest)) rfl (by rw [hb]; exact hd4) _ hsteps
  · rw [hold2 q (Nat.lt_of_lt_of_le h1 hS.1)]
    exact hS.2.1 q h1 h2
  · have h6 : (T.setVm s0.vm).sameButNew ({ U with vm := s0.vm } : State) [] 1 6 := by
      have hsame' : s.sameButNew ({ U with vm := s.vm } : State) [] (0 + 1) (0 + 6) := hsame
      rw [hse] at hsame'
      obtain ⟨g1, g2⟩ := hsame'
      refine ⟨?_, g2⟩
      have g3 := X0.same.1
      rw [g3]
      show ({ U with vm := s0.vm } : State) = { (s0.setFrames (T.setVm s0.vm).frames).setFrames U.frames with heap := U.heap, slotsUsed := U.slotsUsed }
      rw [State.setFrames_setFrames]
      exact g1
    exact (X0.same.trans h6).mono hc hs
end BVC
end
section
/-! ===== posts by their shape; rows of calls for them ===== -/
def bI (Ψ : Int32 → va_W → Prop) (Θ : String → va_W → Prop) : bo → va_W → Prop := fun r ws' => (∃ x, r = .inl (some (.int x)) ∧ Ψ x ws') ∨ (∃ E, r = .inr E ∧ Θ E ws')
def bO (Ψ : va_W → Prop) (Θ : String → va_W → Prop) : bo → va_W → Prop := fun r ws' => (r = .inl none ∧ Ψ ws') ∨ (∃ E, r = .inr E ∧ Θ E ws')
def bno : String → va_W → Prop := fun _ _ => False
theorem bI.v {Ψ : Int32 → va_W → Prop} {Θ : String → va_W → Prop} {v : Option Value} {ws' : va_W} (h : bI Ψ Θ (.inl v) ws') : ∃ x, v = some (.int x) ∧ Ψ x ws' := by
  rcases h with ⟨x, h1, h2⟩ | ⟨E, h1, h2⟩
  · cases h1; exact ⟨x, rfl, h2⟩
  · cases h1
theorem bI.t {Ψ : Int32 → va_W → Prop} {Θ : String → va_W → Prop} {E : String} {ws' : va_W} (h : bI Ψ Θ (.inr E) ws') : Θ E ws' := by
  rcases h with ⟨x, h1, h2⟩ | ⟨E', h1, h2⟩
  · cases h1
  · cases h1; exact h2
theorem bO.v {Ψ : va_W → Prop} {Θ : String → va_W → Prop} {v : Option Value} {ws' : va_W} (h : bO Ψ Θ (.inl v) ws') : v = none ∧ Ψ ws' := by
  rcases h with ⟨h1, h2⟩ | ⟨E, h1, h2⟩
  · cases h1; exact ⟨rfl, h2⟩
  · cases h1
theorem bO.t {Ψ : va_W → Prop} {Θ : String → va_W → Prop} {E : String} {ws' : va_W} (h : bO Ψ Θ (.inr E) ws') : Θ E ws' := by
  rcases h with ⟨h1, h2⟩ | ⟨E', h1, h2⟩
  · cases h1
  · cases h1; exact h2
theorem bs_eq {ws : va_W} {q : Nat} {z x : Nat × va_E} (h : ws[q]? = some z) : (ws.set q x)[q]? = some x := by
  have hl : q < ws.length := (List.getElem?_eq_some_iff.mp h).1
  simp [hl]
theorem bs_ne {ws : va_W} {q r : Nat} {z x : Nat × va_E} (hn : q ≠ r) (h : ws[r]? = some z) : (ws.set q x)[r]? = some z := by
  rw [List.getElem?_set_ne hn]; exact h
theorem bB_n (b : Bool) : narrow .boolean (.int (bB b)) = .int (bB b) := by cases b <;> rfl
theorem bB_f (b : Bool) : fits .boolean (.int (bB b)) = true := by cases b <;> rfl
section BVS
variable {D : va_G} {cl : List vw_C} {tys : List (ClassId × FieldType)} {Γ : bCtx} {own : String} {cc : ByteArray} {nL : Nat} {ret : Option FieldType} {nm : String} {tb : bTb} {rm : Room} {ws ws0 : va_W} {k n pc : Nat} {lv : List (Nat × Value)} {rest st : List Value}
theorem bV.callVi (G : bG D cl tys Γ own cc nL ret nm tb rm) {y : MethodName} {b' : ByteArray} {n' np : Nat} {r' : Option FieldType} {tb' : bTb} (hy : bMd y b' n' r' tb' np) (hw2 : Cond.instanceMethod y ∈ bw) (hw3 : Cond.selects y.cls y y ∈ bw) {idx : Nat} (hw : Cond.methodLink own idx y ∈ bw)
    {rm' : Room} {a : Nat} {As : List Value} {Ψ : Int32 → va_W → Prop} (hM : bC D cl tys y rm' ws (.ref a :: As) (bI Ψ bno)) (q0 : Nat) {ci : Nat} {fs : List Value} {q : vw_C} (he : ws[q0]? = some (a, .inr (ci, fs))) (hc : cl[ci]? = some q) (hq : q.1 = y.cls) (hnp : As.length = np) (hst0 : st = As.reverse ++ .ref a :: rest)
    (hR : rm'.frames + 1 ≤ rm.frames ∧ 8 + (n' + 11) + rm'.locals ≤ rm.locals) (hcs : k + rm'.cells ≤ rm.cells ∧ n + rm'.slots ≤ rm.slots) (hsum : (rest.map fun v => v.category).sum ≤ 8) (hd : decode cc pc = .ok (.invokevirtual idx, 3))
    (kr : ∀ (x : Int32) (ws' : va_W), Ψ x ws' → bV D cl Γ nL ws' (k + rm'.cells) (n + rm'.slots) (pc + 3) lv (.int x :: rest)) : bV D cl Γ nL ws k n pc lv st :=
  bV.callV G hy hw2 hw3 hw hM q0 he hc hq hnp hst0 hR hcs hsum hd (fun v ws' hp => by obtain ⟨x, rfl, h⟩ := bI.v hp; exact kr x ws' h) (fun E ws' hp => False.elim (bI.t hp))
theorem bV.callVit (G : bG D cl tys Γ own cc nL ret nm tb rm) {y : MethodName} {b' : ByteArray} {n' np : Nat} {r' : Option FieldType} {tb' : bTb} (hy : bMd y b' n' r' tb' np) (hw2 : Cond.instanceMethod y ∈ bw) (hw3 : Cond.selects y.cls y y ∈ bw) {idx : Nat} (hw : Cond.methodLink own idx y ∈ bw)
    {rm' : Room} {a : Nat} {As : List Value} {Ψ : Int32 → va_W → Prop} {Θ : String → va_W → Prop} (hM : bC D cl tys y rm' ws (.ref a :: As) (bI Ψ Θ)) (q0 : Nat) {ci : Nat} {fs : List Value} {q : vw_C} (he : ws[q0]? = some (a, .inr (ci, fs))) (hc : cl[ci]? = some q) (hq : q.1 = y.cls) (hnp : As.length = np) (hst0 : st = As.reverse ++ .ref a :: rest)
    (hR : rm'.frames + 1 ≤ rm.frames ∧ 8 + (n' + 11) + rm'.locals ≤ rm.locals) (hcs : k + rm'.cells ≤ rm.cells ∧ n + rm'.slots ≤ rm.slots) (hsum : (rest.map fun v => v.category).sum ≤ 8) (hd : decode cc pc = .ok (.invokevirtual idx, 3))
    (kr : ∀ (x : Int32) (ws' : va_W), Ψ x ws' → bV D cl Γ nL ws' (k + rm'.cells) (n + rm'.slots) (pc + 3) lv (.int x :: rest)) (kt : ∀ (E : String) (ws' : va_W), Θ E ws' → bT D cl Γ nL ws' (k + rm'.cells) (n + rm'.slots) pc lv E) : bV D cl Γ nL ws k n pc lv st :=
  bV.callV G hy hw2 hw3 hw hM q0 he hc hq hnp hst0 hR hcs hsum hd (fun v ws' hp => by obtain ⟨x, rfl, h⟩ := bI.v hp; exact kr x ws' h) (fun E ws' hp => kt E ws' (bI.t hp))
theorem bV.callVo (G : bG D cl tys Γ own cc nL ret nm tb rm) {y : MethodName} {b' : ByteArray} {n' np : Nat} {r' : Option FieldType} {tb' : bTb} (hy : bMd y b' n' r' tb' np) (hw2 : Cond.instanceMethod y ∈ bw) (hw3 : Cond.selects y.cls y y ∈ bw) {idx : Nat} (hw : Cond.methodLink own idx y ∈ bw)
    {rm' : Room} {a : Nat} {As : List Value} {Ψ : va_W → Prop} (hM : bC D cl tys y rm' ws (.ref a :: As) (bO Ψ bno)) (q0 : Nat) {ci : Nat} {fs : List Value} {q : vw_C} (he : ws[q0]? = some (a, .inr (ci, fs))) (hc : cl[ci]? = some q) (hq : q.1 = y.cls) (hnp : As.length = np) (hst0 : st = As.reverse ++ .ref a :: rest)
    (hR : rm'.frames + 1 ≤ rm.frames ∧ 8 + (n' + 11) + rm'.locals ≤ rm.locals) (hcs : k + rm'.cells ≤ rm.cells ∧ n + rm'.slots ≤ rm.slots) (hsum : (rest.map fun v => v.category).sum ≤ 8) (hd : decode cc pc = .ok (.invokevirtual idx, 3))
    (kr : ∀ (ws' : va_W), Ψ ws' → bV D cl Γ nL ws' (k + rm'.cells) (n + rm'.slots) (pc + 3) lv rest) : bV D cl Γ nL ws k n pc lv st :=
  bV.callV G hy hw2 hw3 hw hM q0 he hc hq hnp hst0 hR hcs hsum hd (fun v ws' hp => by obtain ⟨rfl, h⟩ := bO.v hp; exact kr ws' h) (fun E ws' hp => False.elim (bO.t hp))
theorem bV.callVot (G : bG D cl tys Γ own cc nL ret nm tb rm) {y : MethodName} {b' : ByteArray} {n' np : Nat} {r' : Option FieldType} {tb' : bTb} (hy : bMd y b' n' r' tb' np) (hw2 : Cond.instanceMethod y ∈ bw) (hw3 : Cond.selects y.cls y y ∈ bw) {idx : Nat} (hw : Cond.methodLink own idx y ∈ bw)
    {rm' : Room} {a : Nat} {As : List Value} {Ψ : va_W → Prop} {Θ : String → va_W → Prop} (hM : bC D cl tys y rm' ws (.ref a :: As) (bO Ψ Θ)) (q0 : Nat) {ci : Nat} {fs : List Value} {q : vw_C} (he : ws[q0]? = some (a, .inr (ci, fs))) (hc : cl[ci]? = some q) (hq : q.1 = y.cls) (hnp : As.length = np) (hst0 : st = As.reverse ++ .ref a :: rest)
    (hR : rm'.frames + 1 ≤ rm.frames ∧ 8 + (n' + 11) + rm'.locals ≤ rm.locals) (hcs : k + rm'.cells ≤ rm.cells ∧ n + rm'.slots ≤ rm.slots) (hsum : (rest.map fun v => v.category).sum ≤ 8) (hd : decode cc pc = .ok (.invokevirtual idx, 3))
    (kr : ∀ (ws' : va_W), Ψ ws' → bV D cl Γ nL ws' (k + rm'.cells) (n + rm'.slots) (pc + 3) lv rest) (kt : ∀ (E : String) (ws' : va_W), Θ E ws' → bT D cl Γ nL ws' (k + rm'.cells) (n + rm'.slots) pc lv E) : bV D cl Γ nL ws k n pc lv st :=
  bV.callV G hy hw2 hw3 hw hM q0 he hc hq hnp hst0 hR hcs hsum hd (fun v ws' hp => by obtain ⟨rfl, h⟩ := bO.v hp; exact kr ws' h) (fun E ws' hp => kt E ws' (bO.t hp))
theorem bV.callSi (G : bG D cl tys Γ own cc nL ret nm tb rm) {y : MethodName} {b' : ByteArray} {n' np : Nat} {r' : Option FieldType} {tb' : bTb} (hy : bMd y b' n' r' tb' np) (hw2 : Cond.static y ∈ bw) {idx : Nat} (hw : Cond.methodLink own idx y ∈ bw)
    {rm' : Room} {As : List Value} {Ψ : Int32 → va_W → Prop} (hM : bC D cl tys y rm' ws As (bI Ψ bno)) (hnp : As.length = np) (hst0 : st = As.reverse ++ rest)
    (hR : rm'.frames + 1 ≤ rm.frames ∧ 8 + (n' + 11) + rm'.locals ≤ rm.locals) (hcs : k + rm'.cells ≤ rm.cells ∧ n + rm'.slots ≤ rm.slots) (hsum : (rest.map fun v => v.category).sum ≤ 8) (hd : decode cc pc = .ok (.invokestatic idx, 3))
    (kr : ∀ (x : Int32) (ws' : va_W), Ψ x ws' → bV D cl Γ nL ws' (k + rm'.cells) (n + rm'.slots) (pc + 3) lv (.int x :: rest)) : bV D cl Γ nL ws k n pc lv st :=
  bV.callS G hy hw2 hw hM hnp hst0 hR hcs hsum hd (fun v ws' hp => by obtain ⟨x, rfl, h⟩ := bI.v hp; exact kr x ws' h) (fun E ws' hp => False.elim (bI.t hp))
theorem bV.callSo (G : bG D cl tys Γ own cc nL ret nm tb rm) {y : MethodName} {b' : ByteArray} {n' np : Nat} {r' : Option FieldType} {tb' : bTb} (hy : bMd y b' n' r' tb' np) (hw2 : Cond.static y ∈ bw) {idx : Nat} (hw : Cond.methodLink own idx y ∈ bw)
    {rm' : Room} {As : List Value} {Ψ : va_W → Prop} (hM : bC D cl tys y rm' ws As (bO Ψ bno)) (hnp : As.length = np) (hst0 : st = As.reverse ++ rest)
    (hR : rm'.frames + 1 ≤ rm.frames ∧ 8 + (n' + 11) + rm'.locals ≤ rm.locals) (hcs : k + rm'.cells ≤ rm.cells ∧ n + rm'.slots ≤ rm.slots) (hsum : (rest.map fun v => v.category).sum ≤ 8) (hd : decode cc pc = .ok (.invokestatic idx, 3))
    (kr : ∀ (ws' : va_W), Ψ ws' → bV D cl Γ nL ws' (k + rm'.cells) (n + rm'.slots) (pc + 3) lv rest) : bV D cl Γ nL ws k n pc lv st :=
  bV.callS G hy hw2 hw hM hnp hst0 hR hcs hsum hd (fun v ws' hp => by obtain ⟨rfl, h⟩ := bO.v hp; exact kr ws' h) (fun E ws' hp => False.elim (bO.t hp))
theorem bV.callSNi (G : bG D cl tys Γ own cc nL ret nm tb rm) {y : MethodName} {b' : ByteArray} {n' np : Nat} {r' : Option FieldType} {tb' : bTb} (hy : bMd y b' n' r' tb' np) (hw2 : Cond.static y ∈ bw) {idx : Nat} {host : String} (hw : (own, idx, y, host) ∈ bnests)
    {rm' : Room} {As : List Value} {Ψ : Int32 → va_W → Prop} (hM : bC D cl tys y rm' ws As (bI Ψ bno)) (hnp : As.length = np) (hst0 : st = As.reverse ++ rest)
    (hR : rm'.frames + 1 ≤ rm.frames ∧ 8 + (n' + 11) + rm'.locals ≤ rm.locals) (hcs : k + rm'.cells ≤ rm.cells ∧ n + rm'.slots ≤ rm.slots) (hsum : (rest.map fun v => v.category).sum ≤ 8) (hd : decode cc pc = .ok (.invokestatic idx, 3))
    (kr : ∀ (x : Int32) (ws' : va_W), Ψ x ws' → bV D cl Γ nL ws' (k + rm'.cells) (n + rm'.slots) (pc + 3) lv (.int x :: rest)) : bV D cl Γ nL ws k n pc lv st :=
  bV.callSN G hy hw2 hw hM hnp hst0 hR hcs hsum hd (fun v ws' hp => by obtain ⟨x, rfl, h⟩ := bI.v hp; exact kr x ws' h) (fun E ws' hp => False.elim (bI.t hp))
theorem bV.callSNo (G : bG D cl tys Γ own cc nL ret nm tb rm) {y : MethodName} {b' : ByteArray} {n' np : Nat} {r' : Option FieldType} {tb' : bTb} (hy : bMd y b' n' r' tb' np) (hw2 : Cond.static y ∈ bw) {idx : Nat} {host : String} (hw : (own, idx, y, host) ∈ bnests)
    {rm' : Room} {As : List Value} {Ψ : va_W → Prop} (hM : bC D cl tys y rm' ws As (bO Ψ bno)) (hnp : As.length = np) (hst0 : st = As.reverse ++ rest)
    (hR : rm'.frames + 1 ≤ rm.frames ∧ 8 + (n' + 11) + rm'.locals ≤ rm.locals) (hcs : k + rm'.cells ≤ rm.cells ∧ n + rm'.slots ≤ rm.slots) (hsum : (rest.map fun v => v.category).sum ≤ 8) (hd : decode cc pc = .ok (.invokestatic idx, 3))
    (kr : ∀ (ws' : va_W), Ψ ws' → bV D cl Γ nL ws' (k + rm'.cells) (n + rm'.slots) (pc + 3) lv rest) : bV D cl Γ nL ws k n pc lv st :=
  bV.callSN G hy hw2 hw hM hnp hst0 hR hcs hsum hd (fun v ws' hp => by obtain ⟨rfl, h⟩ := bO.v hp; exact kr ws' h) (fun E ws' hp => False.elim (bO.t hp))
theorem bV.callIo (G : bG D cl tys Γ own cc nL ret nm tb rm) {y : MethodName} {b' : ByteArray} {n' np : Nat} (hy : bMd y b' n' none [] np) (hyn : y.name = "<init>") (hw2 : Cond.instanceMethod y ∈ bw) (hw3 : Cond.code y b' n' none ∈ bw) {idx : Nat} (hw : Cond.methodLink own idx y ∈ bw)
    {rm' : Room} {a : Nat} {As : List Value} {Ψ : va_W → Prop} (hM : bC D cl tys y rm' ws (.ref a :: As) (bO Ψ bno)) (hnp : As.length = np) (hst0 : st = As.reverse ++ .ref a :: rest)
    (hR : rm'.frames + 1 ≤ rm.frames ∧ 8 + (n' + 11) + rm'.locals ≤ rm.locals) (hcs : k + rm'.cells ≤ rm.cells ∧ n + rm'.slots ≤ rm.slots) (hsum : (rest.map fun v => v.category).sum ≤ 8) (hd : decode cc pc = .ok (.invokespecial idx, 3))
    (kr : ∀ (ws' : va_W), Ψ ws' → bV D cl Γ nL ws' (k + rm'.cells) (n + rm'.slots) (pc + 3) lv rest) : bV D cl Γ nL ws k n pc lv st :=
  bV.callI G hy hyn hw2 hw3 hw hM hnp hst0 hR hcs hsum hd (fun v ws' hp => by obtain ⟨rfl, h⟩ := bO.v hp; exact kr ws' h) (fun E ws' hp => False.elim (bO.t hp))
theorem bV.callINo (G : bG D cl tys Γ own cc nL ret nm tb rm) {y : MethodName} {b' : ByteArray} {n' np : Nat} (hy : bMd y b' n' none [] np) (hyn : y.name = "<init>") (hw2 : Cond.instanceMethod y ∈ bw) (hw3 : Cond.code y b' n' none ∈ bw) {idx : Nat} {host : String} (hw : (own, idx, y, host) ∈ bnests)
    {rm' : Room} {a : Nat} {As : List Value} {Ψ : va_W → Prop} (hM : bC D cl tys y rm' ws (.ref a :: As) (bO Ψ bno)) (hnp : As.length = np) (hst0 : st = As.reverse ++ .ref a :: rest)
    (hR : rm'.frames + 1 ≤ rm.frames ∧ 8 + (n' + 11) + rm'.locals ≤ rm.locals) (hcs : k + rm'.cells ≤ rm.cells ∧ n + rm'.slots ≤ rm.slots) (hsum : (rest.map fun v => v.category).sum ≤ 8) (hd : decode cc pc = .ok (.invokespecial idx, 3))
    (kr : ∀ (ws' : va_W), Ψ ws' → bV D cl Γ nL ws' (k + rm'.cells) (n + rm'.slots) (pc + 3) lv rest) : bV D cl Γ nL ws k n pc lv st :=
  bV.callIN G hy hyn hw2 hw3 hw hM hnp hst0 hR hcs hsum hd (fun v ws' hp => by obtain ⟨rfl, h⟩ := bO.v hp; exact kr ws' h) (fun E ws' hp => False.elim (bO.t hp))
theorem bV.iretI (G : bG D cl tys Γ own cc nL ret nm tb rm) {Ψ : Int32 → va_W → Prop} {Θ : String → va_W → Prop} (E0 : bE D cl Γ ws0 (bI Ψ Θ) rm) {ty : FieldType} {v : Int32} (hr : ret = some ty) (hn : narrow ty (.int v) = .int v) (h1 : k ≤ rm.cells) (h2 : n ≤ rm.slots) (hd : decode cc pc = .ok (.ireturn, 1)) (hp : Ψ v ws) : bV D cl Γ nL ws k n pc lv [.int v] :=
  bV.iret G E0 hr hn h1 h2 hd (Or.inl ⟨v, rfl, hp⟩)
theorem bV.vretO (G : bG D cl tys Γ own cc nL ret nm tb rm) {Ψ : va_W → Prop} {Θ : String → va_W → Prop} (E0 : bE D cl Γ ws0 (bO Ψ Θ) rm) (hr : ret = none) (h1 : k ≤ rm.cells) (h2 : n ≤ rm.slots) (hd : decode cc pc = .ok (.return_, 1)) (hp : Ψ ws) : bV D cl Γ nL ws k n pc lv [] :=
  bV.vret G E0 hr h1 h2 hd (Or.inl ⟨rfl, hp⟩)
theorem bT.leaveI (G : bG D cl tys Γ own cc nL ret nm tb rm) {Ψ : Int32 → va_W → Prop} {Θ : String → va_W → Prop} {E : String} (E0 : bE D cl Γ ws0 (bI Ψ Θ) rm) (htb : (tableOf tb).all (fun x => !covers x pc) = true) (h1 : k ≤ rm.cells) (h2 : n ≤ rm.slots) (hp : Θ E ws) : bT D cl Γ nL ws k n pc lv E :=
  bT.leave G E0 htb h1 h2 (Or.inr ⟨E, rfl, hp⟩)
theorem bT.leaveO (G : bG D cl tys Γ own cc nL ret nm tb rm) {Ψ : va_W → Prop} {Θ : String → va_W → Prop} {E : String} (E0 : bE D cl Γ ws0 (bO Ψ Θ) rm) (htb : (tableOf tb).all (fun x => !covers x pc) = true) (h1 : k ≤ rm.cells) (h2 : n ≤ rm.slots) (hp : Θ E ws) : bT D cl Γ nL ws k n pc lv E :=
  bT.leave G E0 htb h1 h2 (Or.inr ⟨E, rfl, hp⟩)
end BVS
abbrev tys3 (cI cZ cJ : ClassId) : List (ClassId × FieldType) := [(cI, .int), (cZ, .boolean), (cJ, .long)]
end
section
theorem bwi {w : Cond} (i : Nat) (h : lw_tbl[i]? = some w) (ho : bw_ok w = true) : w ∈ bw := bw_of (List.mem_of_getElem? h) ho
theorem bw_s0 : (Cond.selects "BoardStore" ⟨"BoardStore", "requireRunning", "()V"⟩ ⟨"BoardStore", "requireRunning", "()V"⟩) ∈ bw := bwi 0 (by decide +kernel) (by decide +kernel)
theorem bw_s1 : (Cond.selects "java/lang/Throwable" ⟨"java/lang/Throwable", "fillInStackTrace", "(I)Ljava/lang/Throwable;"⟩ ⟨"java/lang/Throwable", "fillInStackTrace", "(I)Ljava/lang/Throwable;"⟩) ∈ bw := bwi 1 (by decide +kernel) (by decide +kernel)
theorem bw_s2 : (Cond.selects "BoardStore" ⟨"BoardStore", "equalOfFed", "()I"⟩ ⟨"BoardStore", "equalOfFed", "()I"⟩) ∈ bw := bwi 2 (by decide +kernel) (by decide +kernel)
theorem bw_s3 : (Cond.selects "BoardStore" ⟨"BoardStore", "takeNewBlock", "()I"⟩ ⟨"BoardStore", "takeNewBlock", "()I"⟩) ∈ bw := bwi 3 (by decide +kernel) (by decide +kernel)
theorem bw_s4 : (Cond.selects "BoardStore" ⟨"BoardStore", "closeFed", "()I"⟩ ⟨"BoardStore", "closeFed", "()I"⟩) ∈ bw := bwi 4 (by decide +kernel) (by decide +kernel)
theorem bw_s5 : (Cond.selects "BoardStore" ⟨"BoardStore", "takeOldBlock", "(I)I"⟩ ⟨"BoardStore", "takeOldBlock", "(I)I"⟩) ∈ bw := bwi 5 (by decide +kernel) (by decide +kernel)
theorem bw_s6 : (Cond.selects "BoardStore" ⟨"BoardStore", "requireVersion", "(I)V"⟩ ⟨"BoardStore", "requireVersion", "(I)V"⟩) ∈ bw := bwi 6 (by decide +kernel) (by decide +kernel)
theorem bw_s7 : (Cond.selects "BoardStore" ⟨"BoardStore", "requireBlock", "(I)V"⟩ ⟨"BoardStore", "requireBlock", "(I)V"⟩) ∈ bw := bwi 7 (by decide +kernel) (by decide +kernel)
theorem bw_s8 : (Cond.selects "BoardStore" ⟨"BoardStore", "hasBlock", "(II)Z"⟩ ⟨"BoardStore", "hasBlock", "(II)Z"⟩) ∈ bw := bwi 8 (by decide +kernel) (by decide +kernel)
theorem bw_s9 : (Cond.selects "BoardStore" ⟨"BoardStore", "lengthOfVersion", "(I)I"⟩ ⟨"BoardStore", "lengthOfVersion", "(I)I"⟩) ∈ bw := bwi 9 (by decide +kernel) (by decide +kernel)
theorem bw_s10 : (Cond.selects "BoardStore" ⟨"BoardStore", "removeUnheldBlocks", "()I"⟩ ⟨"BoardStore", "removeUnheldBlocks", "()I"⟩) ∈ bw := bwi 10 (by decide +kernel) (by decide +kernel)
theorem bw_s11 : (Cond.selects "BoardStore" ⟨"BoardStore", "markHeldBlocks", "()V"⟩ ⟨"BoardStore", "markHeldBlocks", "()V"⟩) ∈ bw := bwi 11 (by decide +kernel) (by decide +kernel)
theorem bw_s12 : (Cond.selects "BoardStore" ⟨"BoardStore", "countUnpacked", "()I"⟩ ⟨"BoardStore", "countUnpacked", "()I"⟩) ∈ bw := bwi 12 (by decide +kernel) (by decide +kernel)
theorem bw_s13 : (Cond.selects "BoardStore" ⟨"BoardStore", "isUnpacked", "(I)Z"⟩ ⟨"BoardStore", "isUnpacked", "(I)Z"⟩) ∈ bw := bwi 13 (by decide +kernel) (by decide +kernel)
theorem bw_s14 : (Cond.selects "BoardStore" ⟨"BoardStore", "addToOpenPack", "(I)V"⟩ ⟨"BoardStore", "addToOpenPack", "(I)V"⟩) ∈ bw := bwi 14 (by decide +kernel) (by decide +kernel)
theorem bw_s15 : (Cond.selects "BoardStore" ⟨"BoardStore", "closePack", "()V"⟩ ⟨"BoardStore", "closePack", "()V"⟩) ∈ bw := bwi 15 (by decide +kernel) (by decide +kernel)
theorem bw_s16 : (Cond.selects "BoardStore" ⟨"BoardStore", "requireNotNegative", "(I)V"⟩ ⟨"BoardStore", "requireNotNegative", "(I)V"⟩) ∈ bw := bwi 16 (by decide +kernel) (by decide +kernel)
theorem bw_s17 : (Cond.selects "BoardStore" ⟨"BoardStore", "requireKeepable", "(I)V"⟩ ⟨"BoardStore", "requireKeepable", "(I)V"⟩) ∈ bw := bwi 17 (by decide +kernel) (by decide +kernel)
theorem bw_s18 : (Cond.selects "BoardStore" ⟨"BoardStore", "forgetAllButLog", "()V"⟩ ⟨"BoardStore", "forgetAllButLog", "()V"⟩) ∈ bw := bwi 18 (by decide +kernel) (by decide +kernel)
theorem bw_s19 : (Cond.selects "BoardStore" ⟨"BoardStore", "requireCrashed", "()V"⟩ ⟨"BoardStore", "requireCrashed", "()V"⟩) ∈ bw := bwi 19 (by decide +kernel) (by decide +kernel)
theorem bw_s20 : (Cond.selects "BoardStore$Log" ⟨"BoardStore$Log", "lengthByKind", "(I)I"⟩ ⟨"BoardStore$Log", "lengthByKind", "(I)I"⟩) ∈ bw := bwi 20 (by decide +kernel) (by decide +kernel)
theorem bw_s21 : (Cond.selects "BoardStore" ⟨"BoardStore", "redo", "(I)V"⟩ ⟨"BoardStore", "redo", "(I)V"⟩) ∈ bw := bwi 21 (by decide +kernel) (by decide +kernel)
theorem bw_s22 : (Cond.selects "BoardStore" ⟨"BoardStore", "redoNewBlock", "(I)V"⟩ ⟨"BoardStore", "redoNewBlock", "(I)V"⟩) ∈ bw := bwi 22 (by decide +kernel) (by decide +kernel)
theorem bw_s23 : (Cond.selects "BoardStore" ⟨"BoardStore", "requireByteOfPack", "(II)V"⟩ ⟨"BoardStore", "requireByteOfPack", "(II)V"⟩) ∈ bw := bwi 23 (by decide +kernel) (by decide +kernel)
theorem bw_s24 : (Cond.selects "BoardStore" ⟨"BoardStore", "isBad", "(I)Z"⟩ ⟨"BoardStore", "isBad", "(I)Z"⟩) ∈ bw := bwi 24 (by decide +kernel) (by decide +kernel)
theorem bw_s25 : (Cond.selects "BoardStore" ⟨"BoardStore", "requireByteOfSum", "(I)V"⟩ ⟨"BoardStore", "requireByteOfSum", "(I)V"⟩) ∈ bw := bwi 25 (by decide +kernel) (by decide +kernel)
theorem bw_s26 : (Cond.selects "BoardStoreModel" ⟨"BoardStoreModel", "isReady", "(I)Z"⟩ ⟨"BoardStoreModel", "isReady", "(I)Z"⟩) ∈ bw := bwi 26 (by decide +kernel) (by decide +kernel)
theorem bw_s27 : (Cond.selects "BoardStoreModel" ⟨"BoardStoreModel", "walk", "()V"⟩ ⟨"BoardStoreModel", "walk", "()V"⟩) ∈ bw := bwi 27 (by decide +kernel) (by decide +kernel)
theorem bw_s28 : (Cond.selects "BoardStoreModel" ⟨"BoardStoreModel", "sizeOf", "(I)I"⟩ ⟨"BoardStoreModel", "sizeOf", "(I)I"⟩) ∈ bw := bwi 28 (by decide +kernel) (by decide +kernel)
theorem bw_s29 : (Cond.selects "BoardStoreModel" ⟨"BoardStoreModel", "act", "(I)V"⟩ ⟨"BoardStoreModel", "act", "(I)V"⟩) ∈ bw := bwi 29 (by decide +kernel) (by decide +kernel)
theorem bw_s30 : (Cond.selects "BoardStoreModel" ⟨"BoardStoreModel", "append", "(I)V"⟩ ⟨"BoardStoreModel", "append", "(I)V"⟩) ∈ bw := bwi 30 (by decide +kernel) (by decide +kernel)
theorem bw_s31 : (Cond.selects "BoardStoreModel" ⟨"BoardStoreModel", "sweepAll", "()V"⟩ ⟨"BoardStoreModel", "sweepAll", "()V"⟩) ∈ bw := bwi 31 (by decide +kernel) (by decide +kernel)
theorem bw_s32 : (Cond.selects "BoardStoreModel" ⟨"BoardStoreModel", "isHeld", "(I)Z"⟩ ⟨"BoardStoreModel", "isHeld", "(I)Z"⟩) ∈ bw := bwi 32 (by decide +kernel) (by decide +kernel)
theorem bw_s33 : (Cond.selects "BoardStoreModel" ⟨"BoardStoreModel", "isFood", "(I)Z"⟩ ⟨"BoardStoreModel", "isFood", "(I)Z"⟩) ∈ bw := bwi 33 (by decide +kernel) (by decide +kernel)
theorem bw_s34 : (Cond.selects "BoardStoreModel" ⟨"BoardStoreModel", "write", "(I)V"⟩ ⟨"BoardStoreModel", "write", "(I)V"⟩) ∈ bw := bwi 34 (by decide +kernel) (by decide +kernel)
theorem bw_s35 : (Cond.selects "BoardStoreModel" ⟨"BoardStoreModel", "isVersion", "(I)Z"⟩ ⟨"BoardStoreModel", "isVersion", "(I)Z"⟩) ∈ bw := bwi 35 (by decide +kernel) (by decide +kernel)
theorem bw_s36 : (Cond.selects "BoardStoreModel" ⟨"BoardStoreModel", "isBlock", "(I)Z"⟩ ⟨"BoardStoreModel", "isBlock", "(I)Z"⟩) ∈ bw := bwi 36 (by decide +kernel) (by decide +kernel)
theorem bw_s37 : (Cond.selects "BoardStoreModel" ⟨"BoardStoreModel", "put", "(I)V"⟩ ⟨"BoardStoreModel", "put", "(I)V"⟩) ∈ bw := bwi 37 (by decide +kernel) (by decide +kernel)
theorem bw_s38 : (Cond.selects "BoardStoreModel" ⟨"BoardStoreModel", "sumOf", "(I)I"⟩ ⟨"BoardStoreModel", "sumOf", "(I)I"⟩) ∈ bw := bwi 38 (by decide +kernel) (by decide +kernel)
theorem bw_s39 : (Cond.selects "BoardStoreModel" ⟨"BoardStoreModel", "isPackByte", "(II)Z"⟩ ⟨"BoardStoreModel", "isPackByte", "(II)Z"⟩) ∈ bw := bwi 39 (by decide +kernel) (by decide +kernel)
theorem bw_0 : (Cond.initialized "BoardStoreLaw") ∈ bw := bwi 40 (by decide +kernel) (by decide +kernel)
theorem bw_1 : (Cond.initialized "BoardStore") ∈ bw := bwi 41 (by decide +kernel) (by decide +kernel)
theorem bw_2 : (Cond.initialized "BoardStore$Log") ∈ bw := bwi 42 (by decide +kernel) (by decide +kernel)
theorem bw_3 : (Cond.initialized "BoardStore$Pieces") ∈ bw := bwi 43 (by decide +kernel) (by decide +kernel)
theorem bw_4 : (Cond.initialized "java/lang/Math") ∈ bw := bwi 44 (by decide +kernel) (by decide +kernel)
theorem bw_5 : (Cond.initialized "BoardStore$Marks") ∈ bw := bwi 45 (by decide +kernel) (by decide +kernel)
theorem bw_6 : (Cond.initialized "BoardStoreModel") ∈ bw := bwi 46 (by decide +kernel) (by decide +kernel)
theorem bw_7 : (Cond.initialized "java/lang/Throwable") ∈ bw := bwi 47 (by decide +kernel) (by decide +kernel)
theorem bw_8 : (Cond.initialized "java/lang/Exception") ∈ bw := bwi 48 (by decide +kernel) (by decide +kernel)
theorem bw_9 : (Cond.initialized "java/lang/RuntimeException") ∈ bw := bwi 49 (by decide +kernel) (by decide +kernel)
theorem bw_10 : (Cond.initialized "java/lang/IllegalStateException") ∈ bw := bwi 50 (by decide +kernel) (by decide +kernel)
theorem bw_11 : (Cond.initialized "java/lang/IndexOutOfBoundsException") ∈ bw := bwi 51 (by decide +kernel) (by decide +kernel)
theorem bw_12 : (Cond.initialized "java/lang/IllegalArgumentException") ∈ bw := bwi 52 (by decide +kernel) (by decide +kernel)
theorem bw_13 : (Cond.classLink "BoardStoreLaw" 8 "BoardStore") ∈ bw := bwi 53 (by decide +kernel) (by decide +kernel)
theorem bw_14 : (Cond.instantiable "BoardStore" 9) ∈ bw := bwi 54 (by decide +kernel) (by decide +kernel)
theorem bw_15 : (Cond.methodLink "BoardStoreLaw" 75 ⟨"BoardStore", "<init>", "(I)V"⟩) ∈ bw := bwi 55 (by decide +kernel) (by decide +kernel)
theorem bw_16 : (Cond.instanceMethod ⟨"BoardStore", "<init>", "(I)V"⟩) ∈ bw := bwi 56 (by decide +kernel) (by decide +kernel)
theorem bw_17 : (Cond.code ⟨"BoardStore", "<init>", "(I)V"⟩ prog_1_method_1_code 2 none) ∈ bw := bwi 57 (by decide +kernel) (by decide +kernel)
theorem bw_18 : (Cond.methodLink "BoardStore" 3 ⟨"java/lang/Object", "<init>", "()V"⟩) ∈ bw := bwi 58 (by decide +kernel) (by decide +kernel)
theorem bw_19 : (Cond.instanceMethod ⟨"java/lang/Object", "<init>", "()V"⟩) ∈ bw := bwi 59 (by decide +kernel) (by decide +kernel)
theorem bw_20 : (Cond.code ⟨"java/lang/Object", "<init>", "()V"⟩ object_method_1_code 1 none) ∈ bw := bwi 60 (by decide +kernel) (by decide +kernel)
theorem bw_21 : (Cond.classLink "BoardStore" 9 "BoardStore$Log") ∈ bw := bwi 61 (by decide +kernel) (by decide +kernel)
theorem bw_22 : (Cond.instantiable "BoardStore$Log" 2) ∈ bw := bwi 62 (by decide +kernel) (by decide +kernel)
theorem bw_24 : (Cond.instanceMethod ⟨"BoardStore$Log", "<init>", "()V"⟩) ∈ bw := bwi 64 (by decide +kernel) (by decide +kernel)
theorem bw_25 : (Cond.code ⟨"BoardStore$Log", "<init>", "()V"⟩ prog_2_method_1_code 1 none) ∈ bw := bwi 65 (by decide +kernel) (by decide +kernel)
theorem bw_26 : (Cond.methodLink "BoardStore$Log" 3 ⟨"java/lang/Object", "<init>", "()V"⟩) ∈ bw := bwi 66 (by decide +kernel) (by decide +kernel)
theorem bw_27 : (Cond.fieldLink "BoardStore$Log" 9 "BoardStore$Log" "bytes" "[I") ∈ bw := bwi 67 (by decide +kernel) (by decide +kernel)
theorem bw_28 : (Cond.fieldLink "BoardStore$Log" 15 "BoardStore$Log" "size" "I") ∈ bw := bwi 68 (by decide +kernel) (by decide +kernel)
theorem bw_29 : (Cond.laysFinal "BoardStore$Log" "BoardStore$Log" "bytes" "[I") ∈ bw := bwi 69 (by decide +kernel) (by decide +kernel)
theorem bw_30 : (Cond.soleField "BoardStore$Log" "bytes") ∈ bw := bwi 70 (by decide +kernel) (by decide +kernel)
theorem bw_31 : (Cond.lays "BoardStore$Log" "BoardStore$Log" "size" "I") ∈ bw := bwi 71 (by decide +kernel) (by decide +kernel)
theorem bw_32 : (Cond.soleField "BoardStore$Log" "size") ∈ bw := bwi 72 (by decide +kernel) (by decide +kernel)
theorem bw_33 : (Cond.superclass "BoardStore$Log" "java/lang/Object") ∈ bw := bwi 73 (by decide +kernel) (by decide +kernel)
theorem bw_34 : (Cond.arrayClass .int) ∈ bw := bwi 74 (by decide +kernel) (by decide +kernel)
theorem bw_35 : (Cond.classLink "BoardStore" 16 "BoardStore$Pieces") ∈ bw := bwi 75 (by decide +kernel) (by decide +kernel)
theorem bw_36 : (Cond.instantiable "BoardStore$Pieces" 4) ∈ bw := bwi 76 (by decide +kernel) (by decide +kernel)
theorem bw_37 : (Cond.methodLink "BoardStore" 18 ⟨"BoardStore$Pieces", "<init>", "(II)V"⟩) ∈ bw := bwi 77 (by decide +kernel) (by decide +kernel)
theorem bw_38 : (Cond.instanceMethod ⟨"BoardStore$Pieces", "<init>", "(II)V"⟩) ∈ bw := bwi 78 (by decide +kernel) (by decide +kernel)
theorem bw_39 : (Cond.code ⟨"BoardStore$Pieces", "<init>", "(II)V"⟩ prog_4_method_1_code 3 none) ∈ bw := bwi 79 (by decide +kernel) (by decide +kernel)
theorem bw_40 : (Cond.methodLink "BoardStore$Pieces" 3 ⟨"java/lang/Object", "<init>", "()V"⟩) ∈ bw := bwi 80 (by decide +kernel) (by decide +kernel)
theorem bw_41 : (Cond.methodLink "BoardStore$Pieces" 18 ⟨"java/lang/Math", "max", "(II)I"⟩) ∈ bw := bwi 81 (by decide +kernel) (by decide +kernel)
theorem bw_42 : (Cond.static ⟨"java/lang/Math", "max", "(II)I"⟩) ∈ bw := bwi 82 (by decide +kernel) (by decide +kernel)
theorem bw_43 : (Cond.code ⟨"java/lang/Math", "max", "(II)I"⟩ prog_11_method_65_code 2 (some .int)) ∈ bw := bwi 83 (by decide +kernel) (by decide +kernel)
theorem bw_44 : (Cond.fieldLink "BoardStore$Pieces" 24 "BoardStore$Pieces" "items" "[I") ∈ bw := bwi 84 (by decide +kernel) (by decide +kernel)
theorem bw_45 : (Cond.fieldLink "BoardStore$Pieces" 28 "BoardStore$Pieces" "starts" "[I") ∈ bw := bwi 85 (by decide +kernel) (by decide +kernel)
theorem bw_46 : (Cond.fieldLink "BoardStore$Pieces" 9 "BoardStore$Pieces" "size" "I") ∈ bw := bwi 86 (by decide +kernel) (by decide +kernel)
theorem bw_47 : (Cond.fieldLink "BoardStore$Pieces" 15 "BoardStore$Pieces" "count" "I") ∈ bw := bwi 87 (by decide +kernel) (by decide +kernel)
theorem bw_48 : (Cond.laysFinal "BoardStore$Pieces" "BoardStore$Pieces" "items" "[I") ∈ bw := bwi 88 (by decide +kernel) (by decide +kernel)
theorem bw_49 : (Cond.soleField "BoardStore$Pieces" "items") ∈ bw := bwi 89 (by decide +kernel) (by decide +kernel)
theorem bw_50 : (Cond.laysFinal "BoardStore$Pieces" "BoardStore$Pieces" "starts" "[I") ∈ bw := bwi 90 (by decide +kernel) (by decide +kernel)
theorem bw_51 : (Cond.soleField "BoardStore$Pieces" "starts") ∈ bw := bwi 91 (by decide +kernel) (by decide +kernel)
theorem bw_52 : (Cond.lays "BoardStore$Pieces" "BoardStore$Pieces" "size" "I") ∈ bw := bwi 92 (by decide +kernel) (by decide +kernel)
theorem bw_53 : (Cond.soleField "BoardStore$Pieces" "size") ∈ bw := bwi 93 (by decide +kernel) (by decide +kernel)
theorem bw_54 : (Cond.lays "BoardStore$Pieces" "BoardStore$Pieces" "count" "I") ∈ bw := bwi 94 (by decide +kernel) (by decide +kernel)
theorem bw_55 : (Cond.soleField "BoardStore$Pieces" "count") ∈ bw := bwi 95 (by decide +kernel) (by decide +kernel)
theorem bw_56 : (Cond.superclass "BoardStore$Pieces" "java/lang/Object") ∈ bw := bwi 96 (by decide +kernel) (by decide +kernel)
theorem bw_57 : (Cond.classLink "BoardStore" 25 "BoardStore$Marks") ∈ bw := bwi 97 (by decide +kernel) (by decide +kernel)
theorem bw_58 : (Cond.instantiable "BoardStore$Marks" 1) ∈ bw := bwi 98 (by decide +kernel) (by decide +kernel)
theorem bw_59 : (Cond.methodLink "BoardStore" 27 ⟨"BoardStore$Marks", "<init>", "(I)V"⟩) ∈ bw := bwi 99 (by decide +kernel) (by decide +kernel)
theorem bw_60 : (Cond.instanceMethod ⟨"BoardStore$Marks", "<init>", "(I)V"⟩) ∈ bw := bwi 100 (by decide +kernel) (by decide +kernel)
theorem bw_61 : (Cond.code ⟨"BoardStore$Marks", "<init>", "(I)V"⟩ prog_3_method_1_code 2 none) ∈ bw := bwi 101 (by decide +kernel) (by decide +kernel)
theorem bw_62 : (Cond.methodLink "BoardStore$Marks" 1 ⟨"java/lang/Object", "<init>", "()V"⟩) ∈ bw := bwi 102 (by decide +kernel) (by decide +kernel)
theorem bw_63 : (Cond.methodLink "BoardStore$Marks" 7 ⟨"java/lang/Math", "max", "(II)I"⟩) ∈ bw := bwi 103 (by decide +kernel) (by decide +kernel)
theorem bw_64 : (Cond.fieldLink "BoardStore$Marks" 13 "BoardStore$Marks" "on" "[Z") ∈ bw := bwi 104 (by decide +kernel) (by decide +kernel)
theorem bw_65 : (Cond.laysFinal "BoardStore$Marks" "BoardStore$Marks" "on" "[Z") ∈ bw := bwi 105 (by decide +kernel) (by decide +kernel)
theorem bw_66 : (Cond.soleField "BoardStore$Marks" "on") ∈ bw := bwi 106 (by decide +kernel) (by decide +kernel)
theorem bw_67 : (Cond.superclass "BoardStore$Marks" "java/lang/Object") ∈ bw := bwi 107 (by decide +kernel) (by decide +kernel)
theorem bw_68 : (Cond.arrayClass .boolean) ∈ bw := bwi 108 (by decide +kernel) (by decide +kernel)
theorem bw_69 : (Cond.methodLink "BoardStore" 46 ⟨"java/lang/Math", "min", "(II)I"⟩) ∈ bw := bwi 109 (by decide +kernel) (by decide +kernel)
theorem bw_70 : (Cond.static ⟨"java/lang/Math", "min", "(II)I"⟩) ∈ bw := bwi 110 (by decide +kernel) (by decide +kernel)
theorem bw_71 : (Cond.code ⟨"java/lang/Math", "min", "(II)I"⟩ prog_11_method_69_code 2 (some .int)) ∈ bw := bwi 111 (by decide +kernel) (by decide +kernel)
theorem bw_72 : (Cond.methodLink "BoardStore" 52 ⟨"java/lang/Math", "max", "(II)I"⟩) ∈ bw := bwi 112 (by decide +kernel) (by decide +kernel)
theorem bw_73 : (Cond.fieldLink "BoardStore" 12 "BoardStore" "log" "LBoardStore$Log;") ∈ bw := bwi 113 (by decide +kernel) (by decide +kernel)
theorem bw_74 : (Cond.fieldLink "BoardStore" 21 "BoardStore" "blocks" "LBoardStore$Pieces;") ∈ bw := bwi 114 (by decide +kernel) (by decide +kernel)
theorem bw_75 : (Cond.fieldLink "BoardStore" 30 "BoardStore" "there" "LBoardStore$Marks;") ∈ bw := bwi 115 (by decide +kernel) (by decide +kernel)
theorem bw_76 : (Cond.fieldLink "BoardStore" 34 "BoardStore" "packed" "LBoardStore$Marks;") ∈ bw := bwi 116 (by decide +kernel) (by decide +kernel)
theorem bw_77 : (Cond.fieldLink "BoardStore" 37 "BoardStore" "held" "LBoardStore$Marks;") ∈ bw := bwi 117 (by decide +kernel) (by decide +kernel)
theorem bw_78 : (Cond.fieldLink "BoardStore" 40 "BoardStore" "versions" "LBoardStore$Pieces;") ∈ bw := bwi 118 (by decide +kernel) (by decide +kernel)
theorem bw_79 : (Cond.fieldLink "BoardStore" 43 "BoardStore" "dropped" "LBoardStore$Marks;") ∈ bw := bwi 119 (by decide +kernel) (by decide +kernel)
theorem bw_80 : (Cond.fieldLink "BoardStore" 55 "BoardStore" "packs" "LBoardStore$Pieces;") ∈ bw := bwi 120 (by decide +kernel) (by decide +kernel)
theorem bw_81 : (Cond.fieldLink "BoardStore" 58 "BoardStore" "crashed" "Z") ∈ bw := bwi 121 (by decide +kernel) (by decide +kernel)
theorem bw_82 : (Cond.laysFinal "BoardStore" "BoardStore" "log" "LBoardStore$Log;") ∈ bw := bwi 122 (by decide +kernel) (by decide +kernel)
theorem bw_83 : (Cond.soleField "BoardStore" "log") ∈ bw := bwi 123 (by decide +kernel) (by decide +kernel)
theorem bw_84 : (Cond.laysFinal "BoardStore" "BoardStore" "blocks" "LBoardStore$Pieces;") ∈ bw := bwi 124 (by decide +kernel) (by decide +kernel)
theorem bw_85 : (Cond.soleField "BoardStore" "blocks") ∈ bw := bwi 125 (by decide +kernel) (by decide +kernel)
theorem bw_86 : (Cond.laysFinal "BoardStore" "BoardStore" "there" "LBoardStore$Marks;") ∈ bw := bwi 126 (by decide +kernel) (by decide +kernel)
theorem bw_87 : (Cond.soleField "BoardStore" "there") ∈ bw := bwi 127 (by decide +kernel) (by decide +kernel)
theorem bw_88 : (Cond.laysFinal "BoardStore" "BoardStore" "packed" "LBoardStore$Marks;") ∈ bw := bwi 128 (by decide +kernel) (by decide +kernel)
theorem bw_89 : (Cond.soleField "BoardStore" "packed") ∈ bw := bwi 129 (by decide +kernel) (by decide +kernel)
theorem bw_90 : (Cond.laysFinal "BoardStore" "BoardStore" "held" "LBoardStore$Marks;") ∈ bw := bwi 130 (by decide +kernel) (by decide +kernel)
theorem bw_91 : (Cond.soleField "BoardStore" "held") ∈ bw := bwi 131 (by decide +kernel) (by decide +kernel)
theorem bw_92 : (Cond.laysFinal "BoardStore" "BoardStore" "versions" "LBoardStore$Pieces;") ∈ bw := bwi 132 (by decide +kernel) (by decide +kernel)
theorem bw_93 : (Cond.soleField "BoardStore" "versions") ∈ bw := bwi 133 (by decide +kernel) (by decide +kernel)
theorem bw_94 : (Cond.laysFinal "BoardStore" "BoardStore" "dropped" "LBoardStore$Marks;") ∈ bw := bwi 134 (by decide +kernel) (by decide +kernel)
theorem bw_95 : (Cond.soleField "BoardStore" "dropped") ∈ bw := bwi 135 (by decide +kernel) (by decide +kernel)
theorem bw_96 : (Cond.laysFinal "BoardStore" "BoardStore" "packs" "LBoardStore$Pieces;") ∈ bw := bwi 136 (by decide +kernel) (by decide +kernel)
theorem bw_97 : (Cond.soleField "BoardStore" "packs") ∈ bw := bwi 137 (by decide +kernel) (by decide +kernel)
theorem bw_98 : (Cond.lays "BoardStore" "BoardStore" "crashed" "Z") ∈ bw := bwi 138 (by decide +kernel) (by decide +kernel)
theorem bw_99 : (Cond.soleField "BoardStore" "crashed") ∈ bw := bwi 139 (by decide +kernel) (by decide +kernel)
theorem bw_100 : (Cond.superclass "BoardStore" "java/lang/Object") ∈ bw := bwi 140 (by decide +kernel) (by decide +kernel)
theorem bw_101 : (Cond.methodLink "BoardStoreLaw" 69 ⟨"BoardStoreLaw", "cell", "([II)I"⟩) ∈ bw := bwi 141 (by decide +kernel) (by decide +kernel)
theorem bw_102 : (Cond.static ⟨"BoardStoreLaw", "cell", "([II)I"⟩) ∈ bw := bwi 142 (by decide +kernel) (by decide +kernel)
theorem bw_103 : (Cond.code ⟨"BoardStoreLaw", "cell", "([II)I"⟩ method_2_code 2 (some .int)) ∈ bw := bwi 143 (by decide +kernel) (by decide +kernel)
theorem bw_104 : (Cond.methodLink "BoardStoreLaw" 81 ⟨"BoardStoreLaw", "feed", "(LBoardStore;I[J)I"⟩) ∈ bw := bwi 144 (by decide +kernel) (by decide +kernel)
theorem bw_105 : (Cond.static ⟨"BoardStoreLaw", "feed", "(LBoardStore;I[J)I"⟩) ∈ bw := bwi 145 (by decide +kernel) (by decide +kernel)
theorem bw_106 : (Cond.codeWith ⟨"BoardStoreLaw", "feed", "(LBoardStore;I[J)I"⟩ method_3_code 4 (some .int) [(0, 16, 19, 13)]) ∈ bw := bwi 146 (by decide +kernel) (by decide +kernel)
theorem bw_107 : (Cond.classLink "BoardStoreLaw" 13 "java/lang/IllegalStateException") ∈ bw := bwi 147 (by decide +kernel) (by decide +kernel)
theorem bw_108 : (Cond.methodLink "BoardStoreLaw" 7 ⟨"BoardStore", "feed", "(I)Z"⟩) ∈ bw := bwi 148 (by decide +kernel) (by decide +kernel)
theorem bw_109 : (Cond.instanceMethod ⟨"BoardStore", "feed", "(I)Z"⟩) ∈ bw := bwi 149 (by decide +kernel) (by decide +kernel)
theorem bw_110 : (Cond.selects "BoardStore" ⟨"BoardStore", "feed", "(I)Z"⟩ ⟨"BoardStore", "feed", "(I)Z"⟩) ∈ bw := bwi 150 (by decide +kernel) (by decide +kernel)
theorem bw_111 : (Cond.code ⟨"BoardStore", "feed", "(I)Z"⟩ prog_1_method_2_code 2 (some .boolean)) ∈ bw := bwi 151 (by decide +kernel) (by decide +kernel)
theorem bw_112 : (Cond.methodLink "BoardStore" 62 ⟨"BoardStore", "requireRunning", "()V"⟩) ∈ bw := bwi 152 (by decide +kernel) (by decide +kernel)
theorem bw_113 : (Cond.privateMethod ⟨"BoardStore", "requireRunning", "()V"⟩) ∈ bw := bwi 153 (by decide +kernel) (by decide +kernel)
theorem bw_114 : (Cond.instanceMethod ⟨"BoardStore", "requireRunning", "()V"⟩) ∈ bw := bwi 154 (by decide +kernel) (by decide +kernel)
theorem bw_115 : (Cond.code ⟨"BoardStore", "requireRunning", "()V"⟩ prog_1_method_18_code 1 none) ∈ bw := bwi 155 (by decide +kernel) (by decide +kernel)
theorem bw_116 : (Cond.classLink "BoardStore" 183 "java/lang/IllegalStateException") ∈ bw := bwi 156 (by decide +kernel) (by decide +kernel)
theorem bw_117 : (Cond.instantiable "java/lang/IllegalStateException" 6) ∈ bw := bwi 157 (by decide +kernel) (by decide +kernel)
theorem bw_118 : (Cond.castable "java/lang/IllegalStateException" "java/lang/IllegalStateException") ∈ bw := bwi 158 (by decide +kernel) (by decide +kernel)
theorem bw_119 : (Cond.declares ⟨"java/lang/RuntimeException", "<init>", "()V"⟩) ∈ bw := bwi 159 (by decide +kernel) (by decide +kernel)
theorem bw_120 : (Cond.declares ⟨"java/lang/RuntimeException", "<init>", "(Ljava/lang/String;)V"⟩) ∈ bw := bwi 160 (by decide +kernel) (by decide +kernel)
theorem bw_121 : (Cond.declares ⟨"java/lang/Exception", "<init>", "()V"⟩) ∈ bw := bwi 161 (by decide +kernel) (by decide +kernel)
theorem bw_122 : (Cond.declares ⟨"java/lang/Exception", "<init>", "(Ljava/lang/String;)V"⟩) ∈ bw := bwi 162 (by decide +kernel) (by decide +kernel)
theorem bw_123 : (Cond.declares ⟨"java/lang/Throwable", "<init>", "()V"⟩) ∈ bw := bwi 163 (by decide +kernel) (by decide +kernel)
theorem bw_124 : (Cond.declares ⟨"java/lang/Throwable", "<init>", "(Ljava/lang/String;)V"⟩) ∈ bw := bwi 164 (by decide +kernel) (by decide +kernel)
theorem bw_125 : (Cond.selects "java/lang/IllegalStateException" ⟨"java/lang/Throwable", "fillInStackTrace", "(I)Ljava/lang/Throwable;"⟩ ⟨"java/lang/Throwable", "fillInStackTrace", "(I)Ljava/lang/Throwable;"⟩) ∈ bw := bwi 165 (by decide +kernel) (by decide +kernel)
theorem bw_126 : (Cond.selects "java/lang/IllegalStateException" ⟨"java/lang/Throwable", "fillInStackTrace", "()Ljava/lang/Throwable;"⟩ ⟨"java/lang/Throwable", "fillInStackTrace", "()Ljava/lang/Throwable;"⟩) ∈ bw := bwi 166 (by decide +kernel) (by decide +kernel)
theorem bw_127 : (Cond.lays "java/lang/IllegalStateException" "java/lang/Throwable" "cause" "Ljava/lang/Throwable;") ∈ bw := bwi 167 (by decide +kernel) (by decide +kernel)
theorem bw_128 : (Cond.lays "java/lang/Throwable" "java/lang/Throwable" "cause" "Ljava/lang/Throwable;") ∈ bw := bwi 168 (by decide +kernel) (by decide +kernel)
theorem bw_129 : (Cond.lays "java/lang/IllegalStateException" "java/lang/Throwable" "stackTrace" "[Ljava/lang/StackTraceElement;") ∈ bw := bwi 169 (by decide +kernel) (by decide +kernel)
theorem bw_130 : (Cond.lays "java/lang/Throwable" "java/lang/Throwable" "stackTrace" "[Ljava/lang/StackTraceElement;") ∈ bw := bwi 170 (by decide +kernel) (by decide +kernel)
theorem bw_131 : (Cond.lays "java/lang/IllegalStateException" "java/lang/Throwable" "suppressedExceptions" "Ljava/util/List;") ∈ bw := bwi 171 (by decide +kernel) (by decide +kernel)
theorem bw_132 : (Cond.lays "java/lang/Throwable" "java/lang/Throwable" "suppressedExceptions" "Ljava/util/List;") ∈ bw := bwi 172 (by decide +kernel) (by decide +kernel)
theorem bw_133 : (Cond.lays "java/lang/IllegalStateException" "java/lang/Throwable" "detailMessage" "Ljava/lang/String;") ∈ bw := bwi 173 (by decide +kernel) (by decide +kernel)
theorem bw_134 : (Cond.lays "java/lang/Throwable" "java/lang/Throwable" "detailMessage" "Ljava/lang/String;") ∈ bw := bwi 174 (by decide +kernel) (by decide +kernel)
theorem bw_135 : (Cond.lays "java/lang/IllegalStateException" "java/lang/Throwable" "backtrace" "Ljava/lang/Object;") ∈ bw := bwi 175 (by decide +kernel) (by decide +kernel)
theorem bw_136 : (Cond.lays "java/lang/Throwable" "java/lang/Throwable" "backtrace" "Ljava/lang/Object;") ∈ bw := bwi 176 (by decide +kernel) (by decide +kernel)
theorem bw_137 : (Cond.fieldLink "java/lang/Throwable" 198 "java/lang/Throwable" "backtrace" "Ljava/lang/Object;") ∈ bw := bwi 177 (by decide +kernel) (by decide +kernel)
theorem bw_138 : (Cond.superclass "java/lang/Throwable" "java/lang/Object") ∈ bw := bwi 178 (by decide +kernel) (by decide +kernel)
theorem bw_139 : (Cond.instanceMethod ⟨"java/lang/Throwable", "<init>", "()V"⟩) ∈ bw := bwi 179 (by decide +kernel) (by decide +kernel)
theorem bw_140 : (Cond.code ⟨"java/lang/Throwable", "<init>", "()V"⟩ prog_14_method_1_code 1 none) ∈ bw := bwi 180 (by decide +kernel) (by decide +kernel)
theorem bw_141 : (Cond.methodLink "java/lang/Throwable" 1 ⟨"java/lang/Object", "<init>", "()V"⟩) ∈ bw := bwi 181 (by decide +kernel) (by decide +kernel)
theorem bw_142 : (Cond.fieldLink "java/lang/Throwable" 13 "java/lang/Throwable" "UNASSIGNED_STACK" "[Ljava/lang/StackTraceElement;") ∈ bw := bwi 182 (by decide +kernel) (by decide +kernel)
theorem bw_144 : (Cond.fieldLink "java/lang/Throwable" 20 "java/lang/Throwable" "SUPPRESSED_SENTINEL" "Ljava/util/List;") ∈ bw := bwi 184 (by decide +kernel) (by decide +kernel)
theorem bw_146 : (Cond.methodLink "java/lang/Throwable" 27 ⟨"java/lang/Throwable", "fillInStackTrace", "()Ljava/lang/Throwable;"⟩) ∈ bw := bwi 186 (by decide +kernel) (by decide +kernel)
theorem bw_147 : (Cond.instanceMethod ⟨"java/lang/Throwable", "fillInStackTrace", "()Ljava/lang/Throwable;"⟩) ∈ bw := bwi 187 (by decide +kernel) (by decide +kernel)
theorem bw_148 : (Cond.sameMethod "java/lang/Throwable" "java/lang/Throwable" "fillInStackTrace" "()Ljava/lang/Throwable;") ∈ bw := bwi 188 (by decide +kernel) (by decide +kernel)
theorem bw_149 : (Cond.selects "java/lang/IllegalArgumentException" ⟨"java/lang/Throwable", "fillInStackTrace", "()Ljava/lang/Throwable;"⟩ ⟨"java/lang/Throwable", "fillInStackTrace", "()Ljava/lang/Throwable;"⟩) ∈ bw := bwi 189 (by decide +kernel) (by decide +kernel)
theorem bw_150 : (Cond.selects "java/lang/IndexOutOfBoundsException" ⟨"java/lang/Throwable", "fillInStackTrace", "()Ljava/lang/Throwable;"⟩ ⟨"java/lang/Throwable", "fillInStackTrace", "()Ljava/lang/Throwable;"⟩) ∈ bw := bwi 190 (by decide +kernel) (by decide +kernel)
theorem bw_151 : (Cond.codeSync ⟨"java/lang/Throwable", "fillInStackTrace", "()Ljava/lang/Throwable;"⟩ prog_14_method_18_code 1 (some (.object "java/lang/Throwable"))) ∈ bw := bwi 191 (by decide +kernel) (by decide +kernel)
theorem bw_152 : (Cond.methodLink "java/lang/Throwable" 202 ⟨"java/lang/Throwable", "fillInStackTrace", "(I)Ljava/lang/Throwable;"⟩) ∈ bw := bwi 192 (by decide +kernel) (by decide +kernel)
theorem bw_153 : (Cond.privateMethod ⟨"java/lang/Throwable", "fillInStackTrace", "(I)Ljava/lang/Throwable;"⟩) ∈ bw := bwi 193 (by decide +kernel) (by decide +kernel)
theorem bw_154 : (Cond.instanceMethod ⟨"java/lang/Throwable", "fillInStackTrace", "(I)Ljava/lang/Throwable;"⟩) ∈ bw := bwi 194 (by decide +kernel) (by decide +kernel)
theorem bw_155 : (Cond.instantiable "java/lang/Throwable" 6) ∈ bw := bwi 195 (by decide +kernel) (by decide +kernel)
theorem bw_156 : (Cond.native ⟨"java/lang/Throwable", "fillInStackTrace", "(I)Ljava/lang/Throwable;"⟩) ∈ bw := bwi 196 (by decide +kernel) (by decide +kernel)
theorem bw_158 : (Cond.methodLink "BoardStore" 187 ⟨"java/lang/IllegalStateException", "<init>", "(Ljava/lang/String;)V"⟩) ∈ bw := bwi 198 (by decide +kernel) (by decide +kernel)
theorem bw_159 : (Cond.instanceMethod ⟨"java/lang/IllegalStateException", "<init>", "(Ljava/lang/String;)V"⟩) ∈ bw := bwi 199 (by decide +kernel) (by decide +kernel)
theorem bw_160 : (Cond.code ⟨"java/lang/IllegalStateException", "<init>", "(Ljava/lang/String;)V"⟩ prog_9_method_2_code 2 none) ∈ bw := bwi 200 (by decide +kernel) (by decide +kernel)
theorem bw_161 : (Cond.methodLink "java/lang/IllegalStateException" 7 ⟨"java/lang/RuntimeException", "<init>", "(Ljava/lang/String;)V"⟩) ∈ bw := bwi 201 (by decide +kernel) (by decide +kernel)
theorem bw_162 : (Cond.instanceMethod ⟨"java/lang/RuntimeException", "<init>", "(Ljava/lang/String;)V"⟩) ∈ bw := bwi 202 (by decide +kernel) (by decide +kernel)
theorem bw_163 : (Cond.code ⟨"java/lang/RuntimeException", "<init>", "(Ljava/lang/String;)V"⟩ prog_12_method_2_code 2 none) ∈ bw := bwi 203 (by decide +kernel) (by decide +kernel)
theorem bw_164 : (Cond.methodLink "java/lang/RuntimeException" 7 ⟨"java/lang/Exception", "<init>", "(Ljava/lang/String;)V"⟩) ∈ bw := bwi 204 (by decide +kernel) (by decide +kernel)
theorem bw_165 : (Cond.instanceMethod ⟨"java/lang/Exception", "<init>", "(Ljava/lang/String;)V"⟩) ∈ bw := bwi 205 (by decide +kernel) (by decide +kernel)
theorem bw_166 : (Cond.code ⟨"java/lang/Exception", "<init>", "(Ljava/lang/String;)V"⟩ prog_7_method_2_code 2 none) ∈ bw := bwi 206 (by decide +kernel) (by decide +kernel)
theorem bw_167 : (Cond.methodLink "java/lang/Exception" 7 ⟨"java/lang/Throwable", "<init>", "(Ljava/lang/String;)V"⟩) ∈ bw := bwi 207 (by decide +kernel) (by decide +kernel)
theorem bw_168 : (Cond.instanceMethod ⟨"java/lang/Throwable", "<init>", "(Ljava/lang/String;)V"⟩) ∈ bw := bwi 208 (by decide +kernel) (by decide +kernel)
theorem bw_169 : (Cond.code ⟨"java/lang/Throwable", "<init>", "(Ljava/lang/String;)V"⟩ prog_14_method_2_code 2 none) ∈ bw := bwi 209 (by decide +kernel) (by decide +kernel)
theorem bw_171 : (Cond.fieldLink "java/lang/Throwable" 31 "java/lang/Throwable" "detailMessage" "Ljava/lang/String;") ∈ bw := bwi 211 (by decide +kernel) (by decide +kernel)
theorem bw_172 : (Cond.fieldLink "java/lang/Throwable" 7 "java/lang/Throwable" "cause" "Ljava/lang/Throwable;") ∈ bw := bwi 212 (by decide +kernel) (by decide +kernel)
theorem bw_173 : (Cond.fieldLink "java/lang/Throwable" 17 "java/lang/Throwable" "stackTrace" "[Ljava/lang/StackTraceElement;") ∈ bw := bwi 213 (by decide +kernel) (by decide +kernel)
theorem bw_174 : (Cond.fieldLink "java/lang/Throwable" 24 "java/lang/Throwable" "suppressedExceptions" "Ljava/util/List;") ∈ bw := bwi 214 (by decide +kernel) (by decide +kernel)
theorem bw_175 : (Cond.soleField "java/lang/Throwable" "backtrace") ∈ bw := bwi 215 (by decide +kernel) (by decide +kernel)
theorem bw_176 : (Cond.soleField "java/lang/Throwable" "detailMessage") ∈ bw := bwi 216 (by decide +kernel) (by decide +kernel)
theorem bw_177 : (Cond.soleField "java/lang/Throwable" "cause") ∈ bw := bwi 217 (by decide +kernel) (by decide +kernel)
theorem bw_178 : (Cond.soleField "java/lang/Throwable" "stackTrace") ∈ bw := bwi 218 (by decide +kernel) (by decide +kernel)
theorem bw_179 : (Cond.lays "java/lang/IllegalStateException" "java/lang/Throwable" "depth" "I") ∈ bw := bwi 219 (by decide +kernel) (by decide +kernel)
theorem bw_180 : (Cond.soleField "java/lang/Throwable" "depth") ∈ bw := bwi 220 (by decide +kernel) (by decide +kernel)
theorem bw_181 : (Cond.soleField "java/lang/Throwable" "suppressedExceptions") ∈ bw := bwi 221 (by decide +kernel) (by decide +kernel)
theorem bw_182 : (Cond.superclass "java/lang/IllegalStateException" "java/lang/RuntimeException") ∈ bw := bwi 222 (by decide +kernel) (by decide +kernel)
theorem bw_183 : (Cond.arrayClass .byte) ∈ bw := bwi 223 (by decide +kernel) (by decide +kernel)
theorem bw_184 : (Cond.methodLink "BoardStore" 65 ⟨"BoardStore$Pieces", "openLength", "()I"⟩) ∈ bw := bwi 224 (by decide +kernel) (by decide +kernel)
theorem bw_185 : (Cond.instanceMethod ⟨"BoardStore$Pieces", "openLength", "()I"⟩) ∈ bw := bwi 225 (by decide +kernel) (by decide +kernel)
theorem bw_186 : (Cond.selects "BoardStore$Pieces" ⟨"BoardStore$Pieces", "openLength", "()I"⟩ ⟨"BoardStore$Pieces", "openLength", "()I"⟩) ∈ bw := bwi 226 (by decide +kernel) (by decide +kernel)
theorem bw_187 : (Cond.code ⟨"BoardStore$Pieces", "openLength", "()I"⟩ prog_4_method_9_code 1 (some .int)) ∈ bw := bwi 227 (by decide +kernel) (by decide +kernel)
theorem bw_188 : (Cond.methodLink "BoardStore$Pieces" 35 ⟨"BoardStore$Pieces", "length", "(I)I"⟩) ∈ bw := bwi 228 (by decide +kernel) (by decide +kernel)
theorem bw_189 : (Cond.instanceMethod ⟨"BoardStore$Pieces", "length", "(I)I"⟩) ∈ bw := bwi 229 (by decide +kernel) (by decide +kernel)
theorem bw_190 : (Cond.selects "BoardStore$Pieces" ⟨"BoardStore$Pieces", "length", "(I)I"⟩ ⟨"BoardStore$Pieces", "length", "(I)I"⟩) ∈ bw := bwi 230 (by decide +kernel) (by decide +kernel)
theorem bw_191 : (Cond.code ⟨"BoardStore$Pieces", "length", "(I)I"⟩ prog_4_method_6_code 3 (some .int)) ∈ bw := bwi 231 (by decide +kernel) (by decide +kernel)
theorem bw_192 : (Cond.methodLink "BoardStore" 69 ⟨"BoardStore$Pieces", "add", "(I)V"⟩) ∈ bw := bwi 232 (by decide +kernel) (by decide +kernel)
theorem bw_193 : (Cond.instanceMethod ⟨"BoardStore$Pieces", "add", "(I)V"⟩) ∈ bw := bwi 233 (by decide +kernel) (by decide +kernel)
theorem bw_194 : (Cond.selects "BoardStore$Pieces" ⟨"BoardStore$Pieces", "add", "(I)V"⟩ ⟨"BoardStore$Pieces", "add", "(I)V"⟩) ∈ bw := bwi 234 (by decide +kernel) (by decide +kernel)
theorem bw_195 : (Cond.code ⟨"BoardStore$Pieces", "add", "(I)V"⟩ prog_4_method_11_code 2 none) ∈ bw := bwi 235 (by decide +kernel) (by decide +kernel)
theorem bw_196 : (Cond.methodLink "BoardStoreLaw" 88 ⟨"BoardStoreLaw", "block", "(LBoardStore;[J)I"⟩) ∈ bw := bwi 236 (by decide +kernel) (by decide +kernel)
theorem bw_197 : (Cond.static ⟨"BoardStoreLaw", "block", "(LBoardStore;[J)I"⟩) ∈ bw := bwi 237 (by decide +kernel) (by decide +kernel)
theorem bw_198 : (Cond.codeWith ⟨"BoardStoreLaw", "block", "(LBoardStore;[J)I"⟩ method_4_code 3 (some .int) [(0, 8, 11, 13)]) ∈ bw := bwi 238 (by decide +kernel) (by decide +kernel)
theorem bw_199 : (Cond.methodLink "BoardStoreLaw" 15 ⟨"BoardStore", "block", "()I"⟩) ∈ bw := bwi 239 (by decide +kernel) (by decide +kernel)
theorem bw_200 : (Cond.instanceMethod ⟨"BoardStore", "block", "()I"⟩) ∈ bw := bwi 240 (by decide +kernel) (by decide +kernel)
theorem bw_201 : (Cond.selects "BoardStore" ⟨"BoardStore", "block", "()I"⟩ ⟨"BoardStore", "block", "()I"⟩) ∈ bw := bwi 241 (by decide +kernel) (by decide +kernel)
theorem bw_202 : (Cond.code ⟨"BoardStore", "block", "()I"⟩ prog_1_method_3_code 2 (some .int)) ∈ bw := bwi 242 (by decide +kernel) (by decide +kernel)
theorem bw_203 : (Cond.methodLink "BoardStore" 72 ⟨"BoardStore", "equalOfFed", "()I"⟩) ∈ bw := bwi 243 (by decide +kernel) (by decide +kernel)
theorem bw_204 : (Cond.privateMethod ⟨"BoardStore", "equalOfFed", "()I"⟩) ∈ bw := bwi 244 (by decide +kernel) (by decide +kernel)
theorem bw_205 : (Cond.instanceMethod ⟨"BoardStore", "equalOfFed", "()I"⟩) ∈ bw := bwi 245 (by decide +kernel) (by decide +kernel)
theorem bw_206 : (Cond.code ⟨"BoardStore", "equalOfFed", "()I"⟩ prog_1_method_26_code 2 (some .int)) ∈ bw := bwi 246 (by decide +kernel) (by decide +kernel)
theorem bw_207 : (Cond.methodLink "BoardStore" 123 ⟨"BoardStore$Pieces", "count", "()I"⟩) ∈ bw := bwi 247 (by decide +kernel) (by decide +kernel)
theorem bw_208 : (Cond.instanceMethod ⟨"BoardStore$Pieces", "count", "()I"⟩) ∈ bw := bwi 248 (by decide +kernel) (by decide +kernel)
theorem bw_209 : (Cond.selects "BoardStore$Pieces" ⟨"BoardStore$Pieces", "count", "()I"⟩ ⟨"BoardStore$Pieces", "count", "()I"⟩) ∈ bw := bwi 249 (by decide +kernel) (by decide +kernel)
theorem bw_210 : (Cond.code ⟨"BoardStore$Pieces", "count", "()I"⟩ prog_4_method_2_code 1 (some .int)) ∈ bw := bwi 250 (by decide +kernel) (by decide +kernel)
theorem bw_211 : (Cond.methodLink "BoardStore" 141 ⟨"BoardStore$Marks", "isOn", "(I)Z"⟩) ∈ bw := bwi 251 (by decide +kernel) (by decide +kernel)
theorem bw_212 : (Cond.instanceMethod ⟨"BoardStore$Marks", "isOn", "(I)Z"⟩) ∈ bw := bwi 252 (by decide +kernel) (by decide +kernel)
theorem bw_213 : (Cond.selects "BoardStore$Marks" ⟨"BoardStore$Marks", "isOn", "(I)Z"⟩ ⟨"BoardStore$Marks", "isOn", "(I)Z"⟩) ∈ bw := bwi 253 (by decide +kernel) (by decide +kernel)
theorem bw_214 : (Cond.code ⟨"BoardStore$Marks", "isOn", "(I)Z"⟩ prog_3_method_2_code 2 (some .boolean)) ∈ bw := bwi 254 (by decide +kernel) (by decide +kernel)
theorem bw_215 : (Cond.methodLink "BoardStore" 213 ⟨"BoardStore$Pieces", "equalsOpen", "(I)Z"⟩) ∈ bw := bwi 255 (by decide +kernel) (by decide +kernel)
theorem bw_216 : (Cond.instanceMethod ⟨"BoardStore$Pieces", "equalsOpen", "(I)Z"⟩) ∈ bw := bwi 256 (by decide +kernel) (by decide +kernel)
theorem bw_217 : (Cond.selects "BoardStore$Pieces" ⟨"BoardStore$Pieces", "equalsOpen", "(I)Z"⟩ ⟨"BoardStore$Pieces", "equalsOpen", "(I)Z"⟩) ∈ bw := bwi 257 (by decide +kernel) (by decide +kernel)
theorem bw_218 : (Cond.code ⟨"BoardStore$Pieces", "equalsOpen", "(I)Z"⟩ prog_4_method_15_code 4 (some .boolean)) ∈ bw := bwi 258 (by decide +kernel) (by decide +kernel)
theorem bw_219 : (Cond.methodLink "BoardStore$Pieces" 42 ⟨"BoardStore$Pieces", "openLength", "()I"⟩) ∈ bw := bwi 259 (by decide +kernel) (by decide +kernel)
theorem bw_220 : (Cond.methodLink "BoardStore$Pieces" 39 ⟨"BoardStore$Pieces", "at", "(II)I"⟩) ∈ bw := bwi 260 (by decide +kernel) (by decide +kernel)
theorem bw_221 : (Cond.instanceMethod ⟨"BoardStore$Pieces", "at", "(II)I"⟩) ∈ bw := bwi 261 (by decide +kernel) (by decide +kernel)
theorem bw_222 : (Cond.selects "BoardStore$Pieces" ⟨"BoardStore$Pieces", "at", "(II)I"⟩ ⟨"BoardStore$Pieces", "at", "(II)I"⟩) ∈ bw := bwi 262 (by decide +kernel) (by decide +kernel)
theorem bw_223 : (Cond.code ⟨"BoardStore$Pieces", "at", "(II)I"⟩ prog_4_method_7_code 4 (some .int)) ∈ bw := bwi 263 (by decide +kernel) (by decide +kernel)
theorem bw_224 : (Cond.methodLink "BoardStore$Pieces" 45 ⟨"BoardStore$Pieces", "openAt", "(I)I"⟩) ∈ bw := bwi 264 (by decide +kernel) (by decide +kernel)
theorem bw_225 : (Cond.instanceMethod ⟨"BoardStore$Pieces", "openAt", "(I)I"⟩) ∈ bw := bwi 265 (by decide +kernel) (by decide +kernel)
theorem bw_226 : (Cond.selects "BoardStore$Pieces" ⟨"BoardStore$Pieces", "openAt", "(I)I"⟩ ⟨"BoardStore$Pieces", "openAt", "(I)I"⟩) ∈ bw := bwi 266 (by decide +kernel) (by decide +kernel)
theorem bw_227 : (Cond.code ⟨"BoardStore$Pieces", "openAt", "(I)I"⟩ prog_4_method_10_code 2 (some .int)) ∈ bw := bwi 267 (by decide +kernel) (by decide +kernel)
theorem bw_228 : (Cond.methodLink "BoardStore" 75 ⟨"BoardStore", "takeNewBlock", "()I"⟩) ∈ bw := bwi 268 (by decide +kernel) (by decide +kernel)
theorem bw_229 : (Cond.privateMethod ⟨"BoardStore", "takeNewBlock", "()I"⟩) ∈ bw := bwi 269 (by decide +kernel) (by decide +kernel)
theorem bw_230 : (Cond.instanceMethod ⟨"BoardStore", "takeNewBlock", "()I"⟩) ∈ bw := bwi 270 (by decide +kernel) (by decide +kernel)
theorem bw_231 : (Cond.code ⟨"BoardStore", "takeNewBlock", "()I"⟩ prog_1_method_27_code 3 (some .int)) ∈ bw := bwi 271 (by decide +kernel) (by decide +kernel)
theorem bw_232 : (Cond.methodLink "BoardStore" 82 ⟨"BoardStore$Pieces", "isFull", "()Z"⟩) ∈ bw := bwi 272 (by decide +kernel) (by decide +kernel)
theorem bw_233 : (Cond.instanceMethod ⟨"BoardStore$Pieces", "isFull", "()Z"⟩) ∈ bw := bwi 273 (by decide +kernel) (by decide +kernel)
theorem bw_234 : (Cond.selects "BoardStore$Pieces" ⟨"BoardStore$Pieces", "isFull", "()Z"⟩ ⟨"BoardStore$Pieces", "isFull", "()Z"⟩) ∈ bw := bwi 274 (by decide +kernel) (by decide +kernel)
theorem bw_235 : (Cond.code ⟨"BoardStore$Pieces", "isFull", "()Z"⟩ prog_4_method_4_code 1 (some .boolean)) ∈ bw := bwi 275 (by decide +kernel) (by decide +kernel)
theorem bw_236 : (Cond.methodLink "BoardStore$Pieces" 31 ⟨"BoardStore$Pieces", "stillFree", "()I"⟩) ∈ bw := bwi 276 (by decide +kernel) (by decide +kernel)
theorem bw_237 : (Cond.instanceMethod ⟨"BoardStore$Pieces", "stillFree", "()I"⟩) ∈ bw := bwi 277 (by decide +kernel) (by decide +kernel)
theorem bw_238 : (Cond.selects "BoardStore$Pieces" ⟨"BoardStore$Pieces", "stillFree", "()I"⟩ ⟨"BoardStore$Pieces", "stillFree", "()I"⟩) ∈ bw := bwi 278 (by decide +kernel) (by decide +kernel)
theorem bw_239 : (Cond.code ⟨"BoardStore$Pieces", "stillFree", "()I"⟩ prog_4_method_3_code 1 (some .int)) ∈ bw := bwi 279 (by decide +kernel) (by decide +kernel)
theorem bw_240 : (Cond.methodLink "BoardStore" 86 ⟨"BoardStore$Log", "hasRoom", "(I)Z"⟩) ∈ bw := bwi 280 (by decide +kernel) (by decide +kernel)
theorem bw_241 : (Cond.instanceMethod ⟨"BoardStore$Log", "hasRoom", "(I)Z"⟩) ∈ bw := bwi 281 (by decide +kernel) (by decide +kernel)
theorem bw_242 : (Cond.selects "BoardStore$Log" ⟨"BoardStore$Log", "hasRoom", "(I)Z"⟩ ⟨"BoardStore$Log", "hasRoom", "(I)Z"⟩) ∈ bw := bwi 282 (by decide +kernel) (by decide +kernel)
theorem bw_243 : (Cond.code ⟨"BoardStore$Log", "hasRoom", "(I)Z"⟩ prog_2_method_3_code 2 (some .boolean)) ∈ bw := bwi 283 (by decide +kernel) (by decide +kernel)
theorem bw_244 : (Cond.methodLink "BoardStore" 90 ⟨"BoardStore$Log", "add", "(I)V"⟩) ∈ bw := bwi 284 (by decide +kernel) (by decide +kernel)
theorem bw_245 : (Cond.instanceMethod ⟨"BoardStore$Log", "add", "(I)V"⟩) ∈ bw := bwi 285 (by decide +kernel) (by decide +kernel)
theorem bw_246 : (Cond.selects "BoardStore$Log" ⟨"BoardStore$Log", "add", "(I)V"⟩ ⟨"BoardStore$Log", "add", "(I)V"⟩) ∈ bw := bwi 286 (by decide +kernel) (by decide +kernel)
theorem bw_247 : (Cond.code ⟨"BoardStore$Log", "add", "(I)V"⟩ prog_2_method_4_code 2 none) ∈ bw := bwi 287 (by decide +kernel) (by decide +kernel)
theorem bw_248 : (Cond.methodLink "BoardStore" 216 ⟨"BoardStore$Pieces", "openAt", "(I)I"⟩) ∈ bw := bwi 288 (by decide +kernel) (by decide +kernel)
theorem bw_249 : (Cond.methodLink "BoardStore" 219 ⟨"BoardStore", "closeFed", "()I"⟩) ∈ bw := bwi 289 (by decide +kernel) (by decide +kernel)
theorem bw_250 : (Cond.privateMethod ⟨"BoardStore", "closeFed", "()I"⟩) ∈ bw := bwi 290 (by decide +kernel) (by decide +kernel)
theorem bw_251 : (Cond.instanceMethod ⟨"BoardStore", "closeFed", "()I"⟩) ∈ bw := bwi 291 (by decide +kernel) (by decide +kernel)
theorem bw_252 : (Cond.code ⟨"BoardStore", "closeFed", "()I"⟩ prog_1_method_29_code 2 (some .int)) ∈ bw := bwi 292 (by decide +kernel) (by decide +kernel)
theorem bw_253 : (Cond.methodLink "BoardStore" 91 ⟨"BoardStore$Pieces", "close", "()I"⟩) ∈ bw := bwi 293 (by decide +kernel) (by decide +kernel)
theorem bw_254 : (Cond.instanceMethod ⟨"BoardStore$Pieces", "close", "()I"⟩) ∈ bw := bwi 294 (by decide +kernel) (by decide +kernel)
theorem bw_255 : (Cond.selects "BoardStore$Pieces" ⟨"BoardStore$Pieces", "close", "()I"⟩ ⟨"BoardStore$Pieces", "close", "()I"⟩) ∈ bw := bwi 295 (by decide +kernel) (by decide +kernel)
theorem bw_256 : (Cond.code ⟨"BoardStore$Pieces", "close", "()I"⟩ prog_4_method_12_code 1 (some .int)) ∈ bw := bwi 296 (by decide +kernel) (by decide +kernel)
theorem bw_257 : (Cond.methodLink "BoardStore" 180 ⟨"BoardStore$Marks", "turnOn", "(I)V"⟩) ∈ bw := bwi 297 (by decide +kernel) (by decide +kernel)
theorem bw_258 : (Cond.instanceMethod ⟨"BoardStore$Marks", "turnOn", "(I)V"⟩) ∈ bw := bwi 298 (by decide +kernel) (by decide +kernel)
theorem bw_259 : (Cond.selects "BoardStore$Marks" ⟨"BoardStore$Marks", "turnOn", "(I)V"⟩ ⟨"BoardStore$Marks", "turnOn", "(I)V"⟩) ∈ bw := bwi 299 (by decide +kernel) (by decide +kernel)
theorem bw_260 : (Cond.code ⟨"BoardStore$Marks", "turnOn", "(I)V"⟩ prog_3_method_3_code 2 none) ∈ bw := bwi 300 (by decide +kernel) (by decide +kernel)
theorem bw_261 : (Cond.methodLink "BoardStore" 78 ⟨"BoardStore", "takeOldBlock", "(I)I"⟩) ∈ bw := bwi 301 (by decide +kernel) (by decide +kernel)
theorem bw_262 : (Cond.privateMethod ⟨"BoardStore", "takeOldBlock", "(I)I"⟩) ∈ bw := bwi 302 (by decide +kernel) (by decide +kernel)
theorem bw_263 : (Cond.instanceMethod ⟨"BoardStore", "takeOldBlock", "(I)I"⟩) ∈ bw := bwi 303 (by decide +kernel) (by decide +kernel)
theorem bw_264 : (Cond.code ⟨"BoardStore", "takeOldBlock", "(I)I"⟩ prog_1_method_28_code 2 (some .int)) ∈ bw := bwi 304 (by decide +kernel) (by decide +kernel)
theorem bw_265 : (Cond.methodLink "BoardStore" 222 ⟨"BoardStore$Pieces", "clearOpen", "()V"⟩) ∈ bw := bwi 305 (by decide +kernel) (by decide +kernel)
theorem bw_266 : (Cond.instanceMethod ⟨"BoardStore$Pieces", "clearOpen", "()V"⟩) ∈ bw := bwi 306 (by decide +kernel) (by decide +kernel)
theorem bw_267 : (Cond.selects "BoardStore$Pieces" ⟨"BoardStore$Pieces", "clearOpen", "()V"⟩ ⟨"BoardStore$Pieces", "clearOpen", "()V"⟩) ∈ bw := bwi 307 (by decide +kernel) (by decide +kernel)
theorem bw_268 : (Cond.code ⟨"BoardStore$Pieces", "clearOpen", "()V"⟩ prog_4_method_13_code 1 none) ∈ bw := bwi 308 (by decide +kernel) (by decide +kernel)
theorem bw_269 : (Cond.methodLink "BoardStoreLaw" 92 ⟨"BoardStoreLaw", "version", "(LBoardStore;[J)I"⟩) ∈ bw := bwi 309 (by decide +kernel) (by decide +kernel)
theorem bw_270 : (Cond.static ⟨"BoardStoreLaw", "version", "(LBoardStore;[J)I"⟩) ∈ bw := bwi 310 (by decide +kernel) (by decide +kernel)
theorem bw_271 : (Cond.codeWith ⟨"BoardStoreLaw", "version", "(LBoardStore;[J)I"⟩ method_5_code 3 (some .int) [(0, 8, 11, 13)]) ∈ bw := bwi 311 (by decide +kernel) (by decide +kernel)
theorem bw_272 : (Cond.methodLink "BoardStoreLaw" 19 ⟨"BoardStore", "version", "()I"⟩) ∈ bw := bwi 312 (by decide +kernel) (by decide +kernel)
theorem bw_273 : (Cond.instanceMethod ⟨"BoardStore", "version", "()I"⟩) ∈ bw := bwi 313 (by decide +kernel) (by decide +kernel)
theorem bw_274 : (Cond.selects "BoardStore" ⟨"BoardStore", "version", "()I"⟩ ⟨"BoardStore", "version", "()I"⟩) ∈ bw := bwi 314 (by decide +kernel) (by decide +kernel)
theorem bw_275 : (Cond.code ⟨"BoardStore", "version", "()I"⟩ prog_1_method_4_code 1 (some .int)) ∈ bw := bwi 315 (by decide +kernel) (by decide +kernel)
theorem bw_276 : (Cond.methodLink "BoardStoreLaw" 95 ⟨"BoardStoreLaw", "holds", "(LBoardStore;II[J)I"⟩) ∈ bw := bwi 316 (by decide +kernel) (by decide +kernel)
theorem bw_277 : (Cond.static ⟨"BoardStoreLaw", "holds", "(LBoardStore;II[J)I"⟩) ∈ bw := bwi 317 (by decide +kernel) (by decide +kernel)
theorem bw_278 : (Cond.codeWith ⟨"BoardStoreLaw", "holds", "(LBoardStore;II[J)I"⟩ method_6_code 5 (some .int) [(0, 17, 20, 26), (0, 17, 24, 13)]) ∈ bw := bwi 318 (by decide +kernel) (by decide +kernel)
theorem bw_279 : (Cond.classLink "BoardStoreLaw" 26 "java/lang/IndexOutOfBoundsException") ∈ bw := bwi 319 (by decide +kernel) (by decide +kernel)
theorem bw_280 : (Cond.methodLink "BoardStoreLaw" 22 ⟨"BoardStore", "holds", "(II)Z"⟩) ∈ bw := bwi 320 (by decide +kernel) (by decide +kernel)
theorem bw_281 : (Cond.instanceMethod ⟨"BoardStore", "holds", "(II)Z"⟩) ∈ bw := bwi 321 (by decide +kernel) (by decide +kernel)
theorem bw_282 : (Cond.selects "BoardStore" ⟨"BoardStore", "holds", "(II)Z"⟩ ⟨"BoardStore", "holds", "(II)Z"⟩) ∈ bw := bwi 322 (by decide +kernel) (by decide +kernel)
theorem bw_283 : (Cond.code ⟨"BoardStore", "holds", "(II)Z"⟩ prog_1_method_5_code 3 (some .boolean)) ∈ bw := bwi 323 (by decide +kernel) (by decide +kernel)
theorem bw_284 : (Cond.methodLink "BoardStore" 94 ⟨"BoardStore", "requireVersion", "(I)V"⟩) ∈ bw := bwi 324 (by decide +kernel) (by decide +kernel)
theorem bw_285 : (Cond.privateMethod ⟨"BoardStore", "requireVersion", "(I)V"⟩) ∈ bw := bwi 325 (by decide +kernel) (by decide +kernel)
theorem bw_286 : (Cond.instanceMethod ⟨"BoardStore", "requireVersion", "(I)V"⟩) ∈ bw := bwi 326 (by decide +kernel) (by decide +kernel)
theorem bw_287 : (Cond.code ⟨"BoardStore", "requireVersion", "(I)V"⟩ prog_1_method_20_code 2 none) ∈ bw := bwi 327 (by decide +kernel) (by decide +kernel)
theorem bw_288 : (Cond.methodLink "BoardStore" 192 ⟨"BoardStore$Pieces", "has", "(I)Z"⟩) ∈ bw := bwi 328 (by decide +kernel) (by decide +kernel)
theorem bw_289 : (Cond.instanceMethod ⟨"BoardStore$Pieces", "has", "(I)Z"⟩) ∈ bw := bwi 329 (by decide +kernel) (by decide +kernel)
theorem bw_290 : (Cond.selects "BoardStore$Pieces" ⟨"BoardStore$Pieces", "has", "(I)Z"⟩ ⟨"BoardStore$Pieces", "has", "(I)Z"⟩) ∈ bw := bwi 330 (by decide +kernel) (by decide +kernel)
theorem bw_291 : (Cond.code ⟨"BoardStore$Pieces", "has", "(I)Z"⟩ prog_4_method_5_code 2 (some .boolean)) ∈ bw := bwi 331 (by decide +kernel) (by decide +kernel)
theorem bw_292 : (Cond.classLink "BoardStore" 195 "java/lang/IndexOutOfBoundsException") ∈ bw := bwi 332 (by decide +kernel) (by decide +kernel)
theorem bw_293 : (Cond.instantiable "java/lang/IndexOutOfBoundsException" 6) ∈ bw := bwi 333 (by decide +kernel) (by decide +kernel)
theorem bw_294 : (Cond.castable "java/lang/IndexOutOfBoundsException" "java/lang/IndexOutOfBoundsException") ∈ bw := bwi 334 (by decide +kernel) (by decide +kernel)
theorem bw_295 : (Cond.selects "java/lang/IndexOutOfBoundsException" ⟨"java/lang/Throwable", "fillInStackTrace", "(I)Ljava/lang/Throwable;"⟩ ⟨"java/lang/Throwable", "fillInStackTrace", "(I)Ljava/lang/Throwable;"⟩) ∈ bw := bwi 335 (by decide +kernel) (by decide +kernel)
theorem bw_296 : (Cond.lays "java/lang/IndexOutOfBoundsException" "java/lang/Throwable" "cause" "Ljava/lang/Throwable;") ∈ bw := bwi 336 (by decide +kernel) (by decide +kernel)
theorem bw_297 : (Cond.lays "java/lang/IndexOutOfBoundsException" "java/lang/Throwable" "stackTrace" "[Ljava/lang/StackTraceElement;") ∈ bw := bwi 337 (by decide +kernel) (by decide +kernel)
theorem bw_298 : (Cond.lays "java/lang/IndexOutOfBoundsException" "java/lang/Throwable" "suppressedExceptions" "Ljava/util/List;") ∈ bw := bwi 338 (by decide +kernel) (by decide +kernel)
theorem bw_299 : (Cond.lays "java/lang/IndexOutOfBoundsException" "java/lang/Throwable" "detailMessage" "Ljava/lang/String;") ∈ bw := bwi 339 (by decide +kernel) (by decide +kernel)
theorem bw_300 : (Cond.lays "java/lang/IndexOutOfBoundsException" "java/lang/Throwable" "backtrace" "Ljava/lang/Object;") ∈ bw := bwi 340 (by decide +kernel) (by decide +kernel)
theorem bw_302 : (Cond.methodLink "BoardStore" 199 ⟨"java/lang/IndexOutOfBoundsException", "<init>", "(Ljava/lang/String;)V"⟩) ∈ bw := bwi 342 (by decide +kernel) (by decide +kernel)
theorem bw_303 : (Cond.instanceMethod ⟨"java/lang/IndexOutOfBoundsException", "<init>", "(Ljava/lang/String;)V"⟩) ∈ bw := bwi 343 (by decide +kernel) (by decide +kernel)
theorem bw_304 : (Cond.code ⟨"java/lang/IndexOutOfBoundsException", "<init>", "(Ljava/lang/String;)V"⟩ prog_10_method_2_code 2 none) ∈ bw := bwi 344 (by decide +kernel) (by decide +kernel)
theorem bw_305 : (Cond.methodLink "java/lang/IndexOutOfBoundsException" 7 ⟨"java/lang/RuntimeException", "<init>", "(Ljava/lang/String;)V"⟩) ∈ bw := bwi 345 (by decide +kernel) (by decide +kernel)
theorem bw_306 : (Cond.lays "java/lang/IndexOutOfBoundsException" "java/lang/Throwable" "depth" "I") ∈ bw := bwi 346 (by decide +kernel) (by decide +kernel)
theorem bw_307 : (Cond.superclass "java/lang/IndexOutOfBoundsException" "java/lang/RuntimeException") ∈ bw := bwi 347 (by decide +kernel) (by decide +kernel)
theorem bw_308 : (Cond.methodLink "BoardStore" 97 ⟨"BoardStore", "requireBlock", "(I)V"⟩) ∈ bw := bwi 348 (by decide +kernel) (by decide +kernel)
theorem bw_309 : (Cond.privateMethod ⟨"BoardStore", "requireBlock", "(I)V"⟩) ∈ bw := bwi 349 (by decide +kernel) (by decide +kernel)
theorem bw_310 : (Cond.instanceMethod ⟨"BoardStore", "requireBlock", "(I)V"⟩) ∈ bw := bwi 350 (by decide +kernel) (by decide +kernel)
theorem bw_311 : (Cond.code ⟨"BoardStore", "requireBlock", "(I)V"⟩ prog_1_method_21_code 2 none) ∈ bw := bwi 351 (by decide +kernel) (by decide +kernel)
theorem bw_313 : (Cond.methodLink "BoardStore" 100 ⟨"BoardStore", "hasBlock", "(II)Z"⟩) ∈ bw := bwi 353 (by decide +kernel) (by decide +kernel)
theorem bw_314 : (Cond.privateMethod ⟨"BoardStore", "hasBlock", "(II)Z"⟩) ∈ bw := bwi 354 (by decide +kernel) (by decide +kernel)
theorem bw_315 : (Cond.instanceMethod ⟨"BoardStore", "hasBlock", "(II)Z"⟩) ∈ bw := bwi 355 (by decide +kernel) (by decide +kernel)
theorem bw_316 : (Cond.code ⟨"BoardStore", "hasBlock", "(II)Z"⟩ prog_1_method_32_code 5 (some .boolean)) ∈ bw := bwi 356 (by decide +kernel) (by decide +kernel)
theorem bw_317 : (Cond.methodLink "BoardStore" 104 ⟨"BoardStore", "lengthOfVersion", "(I)I"⟩) ∈ bw := bwi 357 (by decide +kernel) (by decide +kernel)
theorem bw_318 : (Cond.privateMethod ⟨"BoardStore", "lengthOfVersion", "(I)I"⟩) ∈ bw := bwi 358 (by decide +kernel) (by decide +kernel)
theorem bw_319 : (Cond.instanceMethod ⟨"BoardStore", "lengthOfVersion", "(I)I"⟩) ∈ bw := bwi 359 (by decide +kernel) (by decide +kernel)
theorem bw_320 : (Cond.code ⟨"BoardStore", "lengthOfVersion", "(I)I"⟩ prog_1_method_33_code 2 (some .int)) ∈ bw := bwi 360 (by decide +kernel) (by decide +kernel)
theorem bw_321 : (Cond.methodLink "BoardStore" 110 ⟨"BoardStore$Pieces", "length", "(I)I"⟩) ∈ bw := bwi 361 (by decide +kernel) (by decide +kernel)
theorem bw_322 : (Cond.methodLink "BoardStore" 107 ⟨"BoardStore$Pieces", "at", "(II)I"⟩) ∈ bw := bwi 362 (by decide +kernel) (by decide +kernel)
theorem bw_323 : (Cond.methodLink "BoardStoreLaw" 99 ⟨"BoardStoreLaw", "root", "(LBoardStore;I[J)I"⟩) ∈ bw := bwi 363 (by decide +kernel) (by decide +kernel)
theorem bw_324 : (Cond.static ⟨"BoardStoreLaw", "root", "(LBoardStore;I[J)I"⟩) ∈ bw := bwi 364 (by decide +kernel) (by decide +kernel)
theorem bw_325 : (Cond.codeWith ⟨"BoardStoreLaw", "root", "(LBoardStore;I[J)I"⟩ method_7_code 4 (some .int) [(0, 9, 12, 26), (0, 9, 15, 13)]) ∈ bw := bwi 365 (by decide +kernel) (by decide +kernel)
theorem bw_326 : (Cond.methodLink "BoardStoreLaw" 28 ⟨"BoardStore", "root", "(I)I"⟩) ∈ bw := bwi 366 (by decide +kernel) (by decide +kernel)
theorem bw_327 : (Cond.instanceMethod ⟨"BoardStore", "root", "(I)I"⟩) ∈ bw := bwi 367 (by decide +kernel) (by decide +kernel)
theorem bw_328 : (Cond.selects "BoardStore" ⟨"BoardStore", "root", "(I)I"⟩ ⟨"BoardStore", "root", "(I)I"⟩) ∈ bw := bwi 368 (by decide +kernel) (by decide +kernel)
theorem bw_329 : (Cond.code ⟨"BoardStore", "root", "(I)I"⟩ prog_1_method_6_code 6 (some .int)) ∈ bw := bwi 369 (by decide +kernel) (by decide +kernel)
theorem bw_330 : (Cond.methodLink "BoardStore" 113 ⟨"BoardStore$Pieces", "sum", "(III)I"⟩) ∈ bw := bwi 370 (by decide +kernel) (by decide +kernel)
theorem bw_331 : (Cond.instanceMethod ⟨"BoardStore$Pieces", "sum", "(III)I"⟩) ∈ bw := bwi 371 (by decide +kernel) (by decide +kernel)
theorem bw_332 : (Cond.selects "BoardStore$Pieces" ⟨"BoardStore$Pieces", "sum", "(III)I"⟩ ⟨"BoardStore$Pieces", "sum", "(III)I"⟩) ∈ bw := bwi 372 (by decide +kernel) (by decide +kernel)
theorem bw_333 : (Cond.code ⟨"BoardStore$Pieces", "sum", "(III)I"⟩ prog_4_method_16_code 7 (some .int)) ∈ bw := bwi 373 (by decide +kernel) (by decide +kernel)
theorem bw_334 : (Cond.methodLink "BoardStore$Pieces" 48 ⟨"java/lang/Math", "min", "(II)I"⟩) ∈ bw := bwi 374 (by decide +kernel) (by decide +kernel)
theorem bw_336 : (Cond.static ⟨"BoardStore", "nextSum", "(II)I"⟩) ∈ bw := bwi 376 (by decide +kernel) (by decide +kernel)
theorem bw_337 : (Cond.code ⟨"BoardStore", "nextSum", "(II)I"⟩ prog_1_method_42_code 3 (some .int)) ∈ bw := bwi 377 (by decide +kernel) (by decide +kernel)
theorem bw_338 : (Cond.constant "BoardStore" 240 (-1028477387 : Int32)) ∈ bw := bwi 378 (by decide +kernel) (by decide +kernel)
theorem bw_339 : (Cond.methodLink "BoardStoreLaw" 102 ⟨"BoardStoreLaw", "sweep", "(LBoardStore;[J)I"⟩) ∈ bw := bwi 379 (by decide +kernel) (by decide +kernel)
theorem bw_340 : (Cond.static ⟨"BoardStoreLaw", "sweep", "(LBoardStore;[J)I"⟩) ∈ bw := bwi 380 (by decide +kernel) (by decide +kernel)
theorem bw_341 : (Cond.codeWith ⟨"BoardStoreLaw", "sweep", "(LBoardStore;[J)I"⟩ method_8_code 3 (some .int) [(0, 8, 11, 13)]) ∈ bw := bwi 381 (by decide +kernel) (by decide +kernel)
theorem bw_342 : (Cond.methodLink "BoardStoreLaw" 32 ⟨"BoardStore", "sweep", "()I"⟩) ∈ bw := bwi 382 (by decide +kernel) (by decide +kernel)
theorem bw_343 : (Cond.instanceMethod ⟨"BoardStore", "sweep", "()I"⟩) ∈ bw := bwi 383 (by decide +kernel) (by decide +kernel)
theorem bw_344 : (Cond.selects "BoardStore" ⟨"BoardStore", "sweep", "()I"⟩ ⟨"BoardStore", "sweep", "()I"⟩) ∈ bw := bwi 384 (by decide +kernel) (by decide +kernel)
theorem bw_345 : (Cond.code ⟨"BoardStore", "sweep", "()I"⟩ prog_1_method_7_code 1 (some .int)) ∈ bw := bwi 385 (by decide +kernel) (by decide +kernel)
theorem bw_346 : (Cond.methodLink "BoardStore" 117 ⟨"BoardStore", "removeUnheldBlocks", "()I"⟩) ∈ bw := bwi 386 (by decide +kernel) (by decide +kernel)
theorem bw_347 : (Cond.privateMethod ⟨"BoardStore", "removeUnheldBlocks", "()I"⟩) ∈ bw := bwi 387 (by decide +kernel) (by decide +kernel)
theorem bw_348 : (Cond.instanceMethod ⟨"BoardStore", "removeUnheldBlocks", "()I"⟩) ∈ bw := bwi 388 (by decide +kernel) (by decide +kernel)
theorem bw_349 : (Cond.code ⟨"BoardStore", "removeUnheldBlocks", "()I"⟩ prog_1_method_30_code 3 (some .int)) ∈ bw := bwi 389 (by decide +kernel) (by decide +kernel)
theorem bw_350 : (Cond.methodLink "BoardStore" 225 ⟨"BoardStore", "markHeldBlocks", "()V"⟩) ∈ bw := bwi 390 (by decide +kernel) (by decide +kernel)
theorem bw_351 : (Cond.privateMethod ⟨"BoardStore", "markHeldBlocks", "()V"⟩) ∈ bw := bwi 391 (by decide +kernel) (by decide +kernel)
theorem bw_352 : (Cond.instanceMethod ⟨"BoardStore", "markHeldBlocks", "()V"⟩) ∈ bw := bwi 392 (by decide +kernel) (by decide +kernel)
theorem bw_353 : (Cond.code ⟨"BoardStore", "markHeldBlocks", "()V"⟩ prog_1_method_31_code 4 none) ∈ bw := bwi 393 (by decide +kernel) (by decide +kernel)
theorem bw_354 : (Cond.methodLink "BoardStore" 231 ⟨"BoardStore$Marks", "clear", "()V"⟩) ∈ bw := bwi 394 (by decide +kernel) (by decide +kernel)
theorem bw_355 : (Cond.instanceMethod ⟨"BoardStore$Marks", "clear", "()V"⟩) ∈ bw := bwi 395 (by decide +kernel) (by decide +kernel)
theorem bw_356 : (Cond.selects "BoardStore$Marks" ⟨"BoardStore$Marks", "clear", "()V"⟩ ⟨"BoardStore$Marks", "clear", "()V"⟩) ∈ bw := bwi 396 (by decide +kernel) (by decide +kernel)
theorem bw_357 : (Cond.code ⟨"BoardStore$Marks", "clear", "()V"⟩ prog_3_method_5_code 2 none) ∈ bw := bwi 397 (by decide +kernel) (by decide +kernel)
theorem bw_358 : (Cond.methodLink "BoardStore" 228 ⟨"BoardStore$Marks", "turnOff", "(I)V"⟩) ∈ bw := bwi 398 (by decide +kernel) (by decide +kernel)
theorem bw_359 : (Cond.instanceMethod ⟨"BoardStore$Marks", "turnOff", "(I)V"⟩) ∈ bw := bwi 399 (by decide +kernel) (by decide +kernel)
theorem bw_360 : (Cond.selects "BoardStore$Marks" ⟨"BoardStore$Marks", "turnOff", "(I)V"⟩ ⟨"BoardStore$Marks", "turnOff", "(I)V"⟩) ∈ bw := bwi 400 (by decide +kernel) (by decide +kernel)
theorem bw_361 : (Cond.code ⟨"BoardStore$Marks", "turnOff", "(I)V"⟩ prog_3_method_4_code 2 none) ∈ bw := bwi 401 (by decide +kernel) (by decide +kernel)
theorem bw_362 : (Cond.methodLink "BoardStoreLaw" 105 ⟨"BoardStoreLaw", "pack", "(LBoardStore;[J)I"⟩) ∈ bw := bwi 402 (by decide +kernel) (by decide +kernel)
theorem bw_363 : (Cond.static ⟨"BoardStoreLaw", "pack", "(LBoardStore;[J)I"⟩) ∈ bw := bwi 403 (by decide +kernel) (by decide +kernel)
theorem bw_364 : (Cond.codeWith ⟨"BoardStoreLaw", "pack", "(LBoardStore;[J)I"⟩ method_9_code 3 (some .int) [(0, 8, 11, 13)]) ∈ bw := bwi 404 (by decide +kernel) (by decide +kernel)
theorem bw_365 : (Cond.methodLink "BoardStoreLaw" 35 ⟨"BoardStore", "pack", "()I"⟩) ∈ bw := bwi 405 (by decide +kernel) (by decide +kernel)
theorem bw_366 : (Cond.instanceMethod ⟨"BoardStore", "pack", "()I"⟩) ∈ bw := bwi 406 (by decide +kernel) (by decide +kernel)
theorem bw_367 : (Cond.selects "BoardStore" ⟨"BoardStore", "pack", "()I"⟩ ⟨"BoardStore", "pack", "()I"⟩) ∈ bw := bwi 407 (by decide +kernel) (by decide +kernel)
theorem bw_368 : (Cond.code ⟨"BoardStore", "pack", "()I"⟩ prog_1_method_8_code 3 (some .int)) ∈ bw := bwi 408 (by decide +kernel) (by decide +kernel)
theorem bw_369 : (Cond.methodLink "BoardStore" 120 ⟨"BoardStore", "countUnpacked", "()I"⟩) ∈ bw := bwi 409 (by decide +kernel) (by decide +kernel)
theorem bw_370 : (Cond.privateMethod ⟨"BoardStore", "countUnpacked", "()I"⟩) ∈ bw := bwi 410 (by decide +kernel) (by decide +kernel)
theorem bw_371 : (Cond.instanceMethod ⟨"BoardStore", "countUnpacked", "()I"⟩) ∈ bw := bwi 411 (by decide +kernel) (by decide +kernel)
theorem bw_372 : (Cond.code ⟨"BoardStore", "countUnpacked", "()I"⟩ prog_1_method_35_code 3 (some .int)) ∈ bw := bwi 412 (by decide +kernel) (by decide +kernel)
theorem bw_373 : (Cond.methodLink "BoardStore" 126 ⟨"BoardStore", "isUnpacked", "(I)Z"⟩) ∈ bw := bwi 413 (by decide +kernel) (by decide +kernel)
theorem bw_374 : (Cond.privateMethod ⟨"BoardStore", "isUnpacked", "(I)Z"⟩) ∈ bw := bwi 414 (by decide +kernel) (by decide +kernel)
theorem bw_375 : (Cond.instanceMethod ⟨"BoardStore", "isUnpacked", "(I)Z"⟩) ∈ bw := bwi 415 (by decide +kernel) (by decide +kernel)
theorem bw_376 : (Cond.code ⟨"BoardStore", "isUnpacked", "(I)Z"⟩ prog_1_method_34_code 2 (some .boolean)) ∈ bw := bwi 416 (by decide +kernel) (by decide +kernel)
theorem bw_377 : (Cond.methodLink "BoardStore" 129 ⟨"BoardStore", "addToOpenPack", "(I)V"⟩) ∈ bw := bwi 417 (by decide +kernel) (by decide +kernel)
theorem bw_378 : (Cond.privateMethod ⟨"BoardStore", "addToOpenPack", "(I)V"⟩) ∈ bw := bwi 418 (by decide +kernel) (by decide +kernel)
theorem bw_379 : (Cond.instanceMethod ⟨"BoardStore", "addToOpenPack", "(I)V"⟩) ∈ bw := bwi 419 (by decide +kernel) (by decide +kernel)
theorem bw_380 : (Cond.code ⟨"BoardStore", "addToOpenPack", "(I)V"⟩ prog_1_method_36_code 4 none) ∈ bw := bwi 420 (by decide +kernel) (by decide +kernel)
theorem bw_381 : (Cond.methodLink "BoardStore" 132 ⟨"BoardStore", "closePack", "()V"⟩) ∈ bw := bwi 421 (by decide +kernel) (by decide +kernel)
theorem bw_382 : (Cond.privateMethod ⟨"BoardStore", "closePack", "()V"⟩) ∈ bw := bwi 422 (by decide +kernel) (by decide +kernel)
theorem bw_383 : (Cond.instanceMethod ⟨"BoardStore", "closePack", "()V"⟩) ∈ bw := bwi 423 (by decide +kernel) (by decide +kernel)
theorem bw_384 : (Cond.code ⟨"BoardStore", "closePack", "()V"⟩ prog_1_method_37_code 3 none) ∈ bw := bwi 424 (by decide +kernel) (by decide +kernel)
theorem bw_385 : (Cond.methodLink "BoardStore" 177 ⟨"BoardStore", "byteOfSum", "(II)I"⟩) ∈ bw := bwi 425 (by decide +kernel) (by decide +kernel)
theorem bw_386 : (Cond.static ⟨"BoardStore", "byteOfSum", "(II)I"⟩) ∈ bw := bwi 426 (by decide +kernel) (by decide +kernel)
theorem bw_387 : (Cond.code ⟨"BoardStore", "byteOfSum", "(II)I"⟩ prog_1_method_43_code 2 (some .int)) ∈ bw := bwi 427 (by decide +kernel) (by decide +kernel)
theorem bw_388 : (Cond.methodLink "BoardStore" 135 ⟨"BoardStore$Pieces", "stillFree", "()I"⟩) ∈ bw := bwi 428 (by decide +kernel) (by decide +kernel)
theorem bw_389 : (Cond.methodLink "BoardStoreLaw" 108 ⟨"BoardStoreLaw", "byteAt", "(LBoardStore;II[J)I"⟩) ∈ bw := bwi 429 (by decide +kernel) (by decide +kernel)
theorem bw_390 : (Cond.static ⟨"BoardStoreLaw", "byteAt", "(LBoardStore;II[J)I"⟩) ∈ bw := bwi 430 (by decide +kernel) (by decide +kernel)
theorem bw_391 : (Cond.codeWith ⟨"BoardStoreLaw", "byteAt", "(LBoardStore;II[J)I"⟩ method_10_code 5 (some .int) [(0, 10, 13, 26), (0, 10, 17, 13)]) ∈ bw := bwi 431 (by decide +kernel) (by decide +kernel)
theorem bw_392 : (Cond.methodLink "BoardStoreLaw" 38 ⟨"BoardStore", "byteAt", "(II)I"⟩) ∈ bw := bwi 432 (by decide +kernel) (by decide +kernel)
theorem bw_393 : (Cond.instanceMethod ⟨"BoardStore", "byteAt", "(II)I"⟩) ∈ bw := bwi 433 (by decide +kernel) (by decide +kernel)
theorem bw_394 : (Cond.selects "BoardStore" ⟨"BoardStore", "byteAt", "(II)I"⟩ ⟨"BoardStore", "byteAt", "(II)I"⟩) ∈ bw := bwi 434 (by decide +kernel) (by decide +kernel)
theorem bw_395 : (Cond.code ⟨"BoardStore", "byteAt", "(II)I"⟩ prog_1_method_9_code 3 (some .int)) ∈ bw := bwi 435 (by decide +kernel) (by decide +kernel)
theorem bw_396 : (Cond.methodLink "BoardStore" 138 ⟨"BoardStore", "requireNotNegative", "(I)V"⟩) ∈ bw := bwi 436 (by decide +kernel) (by decide +kernel)
theorem bw_397 : (Cond.privateMethod ⟨"BoardStore", "requireNotNegative", "(I)V"⟩) ∈ bw := bwi 437 (by decide +kernel) (by decide +kernel)
theorem bw_398 : (Cond.instanceMethod ⟨"BoardStore", "requireNotNegative", "(I)V"⟩) ∈ bw := bwi 438 (by decide +kernel) (by decide +kernel)
theorem bw_399 : (Cond.code ⟨"BoardStore", "requireNotNegative", "(I)V"⟩ prog_1_method_24_code 2 none) ∈ bw := bwi 439 (by decide +kernel) (by decide +kernel)
theorem bw_401 : (Cond.methodLink "BoardStoreLaw" 111 ⟨"BoardStoreLaw", "crash", "(LBoardStore;I[J)I"⟩) ∈ bw := bwi 441 (by decide +kernel) (by decide +kernel)
theorem bw_402 : (Cond.static ⟨"BoardStoreLaw", "crash", "(LBoardStore;I[J)I"⟩) ∈ bw := bwi 442 (by decide +kernel) (by decide +kernel)
theorem bw_403 : (Cond.codeWith ⟨"BoardStoreLaw", "crash", "(LBoardStore;I[J)I"⟩ method_11_code 4 (some .int) [(0, 16, 19, 45), (0, 16, 22, 13)]) ∈ bw := bwi 443 (by decide +kernel) (by decide +kernel)
theorem bw_404 : (Cond.classLink "BoardStoreLaw" 45 "java/lang/IllegalArgumentException") ∈ bw := bwi 444 (by decide +kernel) (by decide +kernel)
theorem bw_405 : (Cond.methodLink "BoardStoreLaw" 42 ⟨"BoardStore", "crash", "(I)Z"⟩) ∈ bw := bwi 445 (by decide +kernel) (by decide +kernel)
theorem bw_406 : (Cond.instanceMethod ⟨"BoardStore", "crash", "(I)Z"⟩) ∈ bw := bwi 446 (by decide +kernel) (by decide +kernel)
theorem bw_407 : (Cond.selects "BoardStore" ⟨"BoardStore", "crash", "(I)Z"⟩ ⟨"BoardStore", "crash", "(I)Z"⟩) ∈ bw := bwi 447 (by decide +kernel) (by decide +kernel)
theorem bw_408 : (Cond.code ⟨"BoardStore", "crash", "(I)Z"⟩ prog_1_method_10_code 3 (some .boolean)) ∈ bw := bwi 448 (by decide +kernel) (by decide +kernel)
theorem bw_409 : (Cond.methodLink "BoardStore" 144 ⟨"BoardStore", "requireKeepable", "(I)V"⟩) ∈ bw := bwi 449 (by decide +kernel) (by decide +kernel)
theorem bw_410 : (Cond.privateMethod ⟨"BoardStore", "requireKeepable", "(I)V"⟩) ∈ bw := bwi 450 (by decide +kernel) (by decide +kernel)
theorem bw_411 : (Cond.instanceMethod ⟨"BoardStore", "requireKeepable", "(I)V"⟩) ∈ bw := bwi 451 (by decide +kernel) (by decide +kernel)
theorem bw_412 : (Cond.code ⟨"BoardStore", "requireKeepable", "(I)V"⟩ prog_1_method_25_code 2 none) ∈ bw := bwi 452 (by decide +kernel) (by decide +kernel)
theorem bw_413 : (Cond.methodLink "BoardStore" 147 ⟨"BoardStore$Log", "length", "()I"⟩) ∈ bw := bwi 453 (by decide +kernel) (by decide +kernel)
theorem bw_414 : (Cond.instanceMethod ⟨"BoardStore$Log", "length", "()I"⟩) ∈ bw := bwi 454 (by decide +kernel) (by decide +kernel)
theorem bw_415 : (Cond.selects "BoardStore$Log" ⟨"BoardStore$Log", "length", "()I"⟩ ⟨"BoardStore$Log", "length", "()I"⟩) ∈ bw := bwi 455 (by decide +kernel) (by decide +kernel)
theorem bw_416 : (Cond.code ⟨"BoardStore$Log", "length", "()I"⟩ prog_2_method_2_code 1 (some .int)) ∈ bw := bwi 456 (by decide +kernel) (by decide +kernel)
theorem bw_417 : (Cond.classLink "BoardStore" 208 "java/lang/IllegalArgumentException") ∈ bw := bwi 457 (by decide +kernel) (by decide +kernel)
theorem bw_418 : (Cond.instantiable "java/lang/IllegalArgumentException" 6) ∈ bw := bwi 458 (by decide +kernel) (by decide +kernel)
theorem bw_419 : (Cond.castable "java/lang/IllegalArgumentException" "java/lang/IllegalArgumentException") ∈ bw := bwi 459 (by decide +kernel) (by decide +kernel)
theorem bw_420 : (Cond.selects "java/lang/IllegalArgumentException" ⟨"java/lang/Throwable", "fillInStackTrace", "(I)Ljava/lang/Throwable;"⟩ ⟨"java/lang/Throwable", "fillInStackTrace", "(I)Ljava/lang/Throwable;"⟩) ∈ bw := bwi 460 (by decide +kernel) (by decide +kernel)
theorem bw_421 : (Cond.lays "java/lang/IllegalArgumentException" "java/lang/Throwable" "cause" "Ljava/lang/Throwable;") ∈ bw := bwi 461 (by decide +kernel) (by decide +kernel)
theorem bw_422 : (Cond.lays "java/lang/IllegalArgumentException" "java/lang/Throwable" "stackTrace" "[Ljava/lang/StackTraceElement;") ∈ bw := bwi 462 (by decide +kernel) (by decide +kernel)
theorem bw_423 : (Cond.lays "java/lang/IllegalArgumentException" "java/lang/Throwable" "suppressedExceptions" "Ljava/util/List;") ∈ bw := bwi 463 (by decide +kernel) (by decide +kernel)
theorem bw_424 : (Cond.lays "java/lang/IllegalArgumentException" "java/lang/Throwable" "detailMessage" "Ljava/lang/String;") ∈ bw := bwi 464 (by decide +kernel) (by decide +kernel)
theorem bw_425 : (Cond.lays "java/lang/IllegalArgumentException" "java/lang/Throwable" "backtrace" "Ljava/lang/Object;") ∈ bw := bwi 465 (by decide +kernel) (by decide +kernel)
theorem bw_427 : (Cond.methodLink "BoardStore" 212 ⟨"java/lang/IllegalArgumentException", "<init>", "(Ljava/lang/String;)V"⟩) ∈ bw := bwi 467 (by decide +kernel) (by decide +kernel)
theorem bw_428 : (Cond.instanceMethod ⟨"java/lang/IllegalArgumentException", "<init>", "(Ljava/lang/String;)V"⟩) ∈ bw := bwi 468 (by decide +kernel) (by decide +kernel)
theorem bw_429 : (Cond.code ⟨"java/lang/IllegalArgumentException", "<init>", "(Ljava/lang/String;)V"⟩ prog_8_method_2_code 2 none) ∈ bw := bwi 469 (by decide +kernel) (by decide +kernel)
theorem bw_430 : (Cond.methodLink "java/lang/IllegalArgumentException" 7 ⟨"java/lang/RuntimeException", "<init>", "(Ljava/lang/String;)V"⟩) ∈ bw := bwi 470 (by decide +kernel) (by decide +kernel)
theorem bw_431 : (Cond.lays "java/lang/IllegalArgumentException" "java/lang/Throwable" "depth" "I") ∈ bw := bwi 471 (by decide +kernel) (by decide +kernel)
theorem bw_432 : (Cond.superclass "java/lang/IllegalArgumentException" "java/lang/RuntimeException") ∈ bw := bwi 472 (by decide +kernel) (by decide +kernel)
theorem bw_433 : (Cond.methodLink "BoardStore" 149 ⟨"BoardStore$Log", "cutTo", "(I)V"⟩) ∈ bw := bwi 473 (by decide +kernel) (by decide +kernel)
theorem bw_434 : (Cond.instanceMethod ⟨"BoardStore$Log", "cutTo", "(I)V"⟩) ∈ bw := bwi 474 (by decide +kernel) (by decide +kernel)
theorem bw_435 : (Cond.selects "BoardStore$Log" ⟨"BoardStore$Log", "cutTo", "(I)V"⟩ ⟨"BoardStore$Log", "cutTo", "(I)V"⟩) ∈ bw := bwi 475 (by decide +kernel) (by decide +kernel)
theorem bw_436 : (Cond.code ⟨"BoardStore$Log", "cutTo", "(I)V"⟩ prog_2_method_6_code 2 none) ∈ bw := bwi 476 (by decide +kernel) (by decide +kernel)
theorem bw_437 : (Cond.methodLink "BoardStore" 152 ⟨"BoardStore", "forgetAllButLog", "()V"⟩) ∈ bw := bwi 477 (by decide +kernel) (by decide +kernel)
theorem bw_438 : (Cond.privateMethod ⟨"BoardStore", "forgetAllButLog", "()V"⟩) ∈ bw := bwi 478 (by decide +kernel) (by decide +kernel)
theorem bw_439 : (Cond.instanceMethod ⟨"BoardStore", "forgetAllButLog", "()V"⟩) ∈ bw := bwi 479 (by decide +kernel) (by decide +kernel)
theorem bw_440 : (Cond.code ⟨"BoardStore", "forgetAllButLog", "()V"⟩ prog_1_method_39_code 1 none) ∈ bw := bwi 480 (by decide +kernel) (by decide +kernel)
theorem bw_441 : (Cond.methodLink "BoardStore" 234 ⟨"BoardStore$Pieces", "clear", "()V"⟩) ∈ bw := bwi 481 (by decide +kernel) (by decide +kernel)
theorem bw_442 : (Cond.instanceMethod ⟨"BoardStore$Pieces", "clear", "()V"⟩) ∈ bw := bwi 482 (by decide +kernel) (by decide +kernel)
theorem bw_443 : (Cond.selects "BoardStore$Pieces" ⟨"BoardStore$Pieces", "clear", "()V"⟩ ⟨"BoardStore$Pieces", "clear", "()V"⟩) ∈ bw := bwi 483 (by decide +kernel) (by decide +kernel)
theorem bw_444 : (Cond.code ⟨"BoardStore$Pieces", "clear", "()V"⟩ prog_4_method_14_code 1 none) ∈ bw := bwi 484 (by decide +kernel) (by decide +kernel)
theorem bw_445 : (Cond.methodLink "BoardStoreLaw" 114 ⟨"BoardStoreLaw", "reopen", "(LBoardStore;[J)I"⟩) ∈ bw := bwi 485 (by decide +kernel) (by decide +kernel)
theorem bw_446 : (Cond.static ⟨"BoardStoreLaw", "reopen", "(LBoardStore;[J)I"⟩) ∈ bw := bwi 486 (by decide +kernel) (by decide +kernel)
theorem bw_447 : (Cond.codeWith ⟨"BoardStoreLaw", "reopen", "(LBoardStore;[J)I"⟩ method_12_code 3 (some .int) [(0, 8, 11, 13)]) ∈ bw := bwi 487 (by decide +kernel) (by decide +kernel)
theorem bw_448 : (Cond.methodLink "BoardStoreLaw" 47 ⟨"BoardStore", "reopen", "()I"⟩) ∈ bw := bwi 488 (by decide +kernel) (by decide +kernel)
theorem bw_449 : (Cond.instanceMethod ⟨"BoardStore", "reopen", "()I"⟩) ∈ bw := bwi 489 (by decide +kernel) (by decide +kernel)
theorem bw_450 : (Cond.selects "BoardStore" ⟨"BoardStore", "reopen", "()I"⟩ ⟨"BoardStore", "reopen", "()I"⟩) ∈ bw := bwi 490 (by decide +kernel) (by decide +kernel)
theorem bw_451 : (Cond.code ⟨"BoardStore", "reopen", "()I"⟩ prog_1_method_11_code 4 (some .int)) ∈ bw := bwi 491 (by decide +kernel) (by decide +kernel)
theorem bw_452 : (Cond.methodLink "BoardStore" 155 ⟨"BoardStore", "requireCrashed", "()V"⟩) ∈ bw := bwi 492 (by decide +kernel) (by decide +kernel)
theorem bw_453 : (Cond.privateMethod ⟨"BoardStore", "requireCrashed", "()V"⟩) ∈ bw := bwi 493 (by decide +kernel) (by decide +kernel)
theorem bw_454 : (Cond.instanceMethod ⟨"BoardStore", "requireCrashed", "()V"⟩) ∈ bw := bwi 494 (by decide +kernel) (by decide +kernel)
theorem bw_455 : (Cond.code ⟨"BoardStore", "requireCrashed", "()V"⟩ prog_1_method_19_code 1 none) ∈ bw := bwi 495 (by decide +kernel) (by decide +kernel)
theorem bw_457 : (Cond.methodLink "BoardStore" 158 ⟨"BoardStore$Log", "lengthOfRecord", "(I)I"⟩) ∈ bw := bwi 497 (by decide +kernel) (by decide +kernel)
theorem bw_458 : (Cond.instanceMethod ⟨"BoardStore$Log", "lengthOfRecord", "(I)I"⟩) ∈ bw := bwi 498 (by decide +kernel) (by decide +kernel)
theorem bw_459 : (Cond.selects "BoardStore$Log" ⟨"BoardStore$Log", "lengthOfRecord", "(I)I"⟩ ⟨"BoardStore$Log", "lengthOfRecord", "(I)I"⟩) ∈ bw := bwi 499 (by decide +kernel) (by decide +kernel)
theorem bw_460 : (Cond.code ⟨"BoardStore$Log", "lengthOfRecord", "(I)I"⟩ prog_2_method_7_code 3 (some .int)) ∈ bw := bwi 500 (by decide +kernel) (by decide +kernel)
theorem bw_461 : (Cond.methodLink "BoardStore$Log" 19 ⟨"BoardStore$Log", "lengthByKind", "(I)I"⟩) ∈ bw := bwi 501 (by decide +kernel) (by decide +kernel)
theorem bw_462 : (Cond.privateMethod ⟨"BoardStore$Log", "lengthByKind", "(I)I"⟩) ∈ bw := bwi 502 (by decide +kernel) (by decide +kernel)
theorem bw_463 : (Cond.instanceMethod ⟨"BoardStore$Log", "lengthByKind", "(I)I"⟩) ∈ bw := bwi 503 (by decide +kernel) (by decide +kernel)
theorem bw_464 : (Cond.code ⟨"BoardStore$Log", "lengthByKind", "(I)I"⟩ prog_2_method_8_code 2 (some .int)) ∈ bw := bwi 504 (by decide +kernel) (by decide +kernel)
theorem bw_465 : (Cond.methodLink "BoardStore$Log" 23 ⟨"BoardStore$Log", "at", "(I)I"⟩) ∈ bw := bwi 505 (by decide +kernel) (by decide +kernel)
theorem bw_466 : (Cond.instanceMethod ⟨"BoardStore$Log", "at", "(I)I"⟩) ∈ bw := bwi 506 (by decide +kernel) (by decide +kernel)
theorem bw_467 : (Cond.selects "BoardStore$Log" ⟨"BoardStore$Log", "at", "(I)I"⟩ ⟨"BoardStore$Log", "at", "(I)I"⟩) ∈ bw := bwi 507 (by decide +kernel) (by decide +kernel)
theorem bw_468 : (Cond.code ⟨"BoardStore$Log", "at", "(I)I"⟩ prog_2_method_5_code 2 (some .int)) ∈ bw := bwi 508 (by decide +kernel) (by decide +kernel)
theorem bw_469 : (Cond.methodLink "BoardStore$Log" 26 ⟨"java/lang/Math", "max", "(II)I"⟩) ∈ bw := bwi 509 (by decide +kernel) (by decide +kernel)
theorem bw_470 : (Cond.methodLink "BoardStore" 161 ⟨"BoardStore", "redo", "(I)V"⟩) ∈ bw := bwi 510 (by decide +kernel) (by decide +kernel)
theorem bw_471 : (Cond.privateMethod ⟨"BoardStore", "redo", "(I)V"⟩) ∈ bw := bwi 511 (by decide +kernel) (by decide +kernel)
theorem bw_472 : (Cond.instanceMethod ⟨"BoardStore", "redo", "(I)V"⟩) ∈ bw := bwi 512 (by decide +kernel) (by decide +kernel)
theorem bw_473 : (Cond.code ⟨"BoardStore", "redo", "(I)V"⟩ prog_1_method_40_code 2 none) ∈ bw := bwi 513 (by decide +kernel) (by decide +kernel)
theorem bw_474 : (Cond.methodLink "BoardStore" 235 ⟨"BoardStore$Log", "at", "(I)I"⟩) ∈ bw := bwi 514 (by decide +kernel) (by decide +kernel)
theorem bw_475 : (Cond.methodLink "BoardStore" 237 ⟨"BoardStore", "redoNewBlock", "(I)V"⟩) ∈ bw := bwi 515 (by decide +kernel) (by decide +kernel)
theorem bw_476 : (Cond.privateMethod ⟨"BoardStore", "redoNewBlock", "(I)V"⟩) ∈ bw := bwi 516 (by decide +kernel) (by decide +kernel)
theorem bw_477 : (Cond.instanceMethod ⟨"BoardStore", "redoNewBlock", "(I)V"⟩) ∈ bw := bwi 517 (by decide +kernel) (by decide +kernel)
theorem bw_478 : (Cond.code ⟨"BoardStore", "redoNewBlock", "(I)V"⟩ prog_1_method_41_code 4 none) ∈ bw := bwi 518 (by decide +kernel) (by decide +kernel)
theorem bw_479 : (Cond.methodLink "BoardStoreLaw" 117 ⟨"BoardStoreLaw", "poke", "(LBoardStore;III[J)I"⟩) ∈ bw := bwi 519 (by decide +kernel) (by decide +kernel)
theorem bw_480 : (Cond.static ⟨"BoardStoreLaw", "poke", "(LBoardStore;III[J)I"⟩) ∈ bw := bwi 520 (by decide +kernel) (by decide +kernel)
theorem bw_481 : (Cond.codeWith ⟨"BoardStoreLaw", "poke", "(LBoardStore;III[J)I"⟩ method_13_code 6 (some .int) [(0, 19, 22, 26), (0, 19, 26, 13)]) ∈ bw := bwi 521 (by decide +kernel) (by decide +kernel)
theorem bw_482 : (Cond.methodLink "BoardStoreLaw" 50 ⟨"BoardStore", "poke", "(III)Z"⟩) ∈ bw := bwi 522 (by decide +kernel) (by decide +kernel)
theorem bw_483 : (Cond.instanceMethod ⟨"BoardStore", "poke", "(III)Z"⟩) ∈ bw := bwi 523 (by decide +kernel) (by decide +kernel)
theorem bw_484 : (Cond.selects "BoardStore" ⟨"BoardStore", "poke", "(III)Z"⟩ ⟨"BoardStore", "poke", "(III)Z"⟩) ∈ bw := bwi 524 (by decide +kernel) (by decide +kernel)
theorem bw_485 : (Cond.code ⟨"BoardStore", "poke", "(III)Z"⟩ prog_1_method_12_code 6 (some .boolean)) ∈ bw := bwi 525 (by decide +kernel) (by decide +kernel)
theorem bw_486 : (Cond.methodLink "BoardStore" 164 ⟨"BoardStore", "requireByteOfPack", "(II)V"⟩) ∈ bw := bwi 526 (by decide +kernel) (by decide +kernel)
theorem bw_487 : (Cond.privateMethod ⟨"BoardStore", "requireByteOfPack", "(II)V"⟩) ∈ bw := bwi 527 (by decide +kernel) (by decide +kernel)
theorem bw_488 : (Cond.instanceMethod ⟨"BoardStore", "requireByteOfPack", "(II)V"⟩) ∈ bw := bwi 528 (by decide +kernel) (by decide +kernel)
theorem bw_489 : (Cond.code ⟨"BoardStore", "requireByteOfPack", "(II)V"⟩ prog_1_method_22_code 3 none) ∈ bw := bwi 529 (by decide +kernel) (by decide +kernel)
theorem bw_491 : (Cond.methodLink "BoardStore" 167 ⟨"BoardStore$Pieces", "put", "(III)V"⟩) ∈ bw := bwi 531 (by decide +kernel) (by decide +kernel)
theorem bw_492 : (Cond.instanceMethod ⟨"BoardStore$Pieces", "put", "(III)V"⟩) ∈ bw := bwi 532 (by decide +kernel) (by decide +kernel)
theorem bw_493 : (Cond.selects "BoardStore$Pieces" ⟨"BoardStore$Pieces", "put", "(III)V"⟩ ⟨"BoardStore$Pieces", "put", "(III)V"⟩) ∈ bw := bwi 533 (by decide +kernel) (by decide +kernel)
theorem bw_494 : (Cond.code ⟨"BoardStore$Pieces", "put", "(III)V"⟩ prog_4_method_8_code 5 none) ∈ bw := bwi 534 (by decide +kernel) (by decide +kernel)
theorem bw_495 : (Cond.methodLink "BoardStoreLaw" 121 ⟨"BoardStoreLaw", "badAt", "(LBoardStore;[J)I"⟩) ∈ bw := bwi 535 (by decide +kernel) (by decide +kernel)
theorem bw_496 : (Cond.static ⟨"BoardStoreLaw", "badAt", "(LBoardStore;[J)I"⟩) ∈ bw := bwi 536 (by decide +kernel) (by decide +kernel)
theorem bw_497 : (Cond.codeWith ⟨"BoardStoreLaw", "badAt", "(LBoardStore;[J)I"⟩ method_14_code 3 (some .int) [(0, 8, 11, 13)]) ∈ bw := bwi 537 (by decide +kernel) (by decide +kernel)
theorem bw_498 : (Cond.methodLink "BoardStoreLaw" 54 ⟨"BoardStore", "badAt", "()I"⟩) ∈ bw := bwi 538 (by decide +kernel) (by decide +kernel)
theorem bw_499 : (Cond.instanceMethod ⟨"BoardStore", "badAt", "()I"⟩) ∈ bw := bwi 539 (by decide +kernel) (by decide +kernel)
theorem bw_500 : (Cond.selects "BoardStore" ⟨"BoardStore", "badAt", "()I"⟩ ⟨"BoardStore", "badAt", "()I"⟩) ∈ bw := bwi 540 (by decide +kernel) (by decide +kernel)
theorem bw_501 : (Cond.code ⟨"BoardStore", "badAt", "()I"⟩ prog_1_method_13_code 2 (some .int)) ∈ bw := bwi 541 (by decide +kernel) (by decide +kernel)
theorem bw_502 : (Cond.methodLink "BoardStore" 171 ⟨"BoardStore", "isBad", "(I)Z"⟩) ∈ bw := bwi 542 (by decide +kernel) (by decide +kernel)
theorem bw_503 : (Cond.privateMethod ⟨"BoardStore", "isBad", "(I)Z"⟩) ∈ bw := bwi 543 (by decide +kernel) (by decide +kernel)
theorem bw_504 : (Cond.instanceMethod ⟨"BoardStore", "isBad", "(I)Z"⟩) ∈ bw := bwi 544 (by decide +kernel) (by decide +kernel)
theorem bw_505 : (Cond.code ⟨"BoardStore", "isBad", "(I)Z"⟩ prog_1_method_38_code 5 (some .boolean)) ∈ bw := bwi 545 (by decide +kernel) (by decide +kernel)
theorem bw_506 : (Cond.methodLink "BoardStoreLaw" 124 ⟨"BoardStoreLaw", "packByte", "(LBoardStore;II[J)I"⟩) ∈ bw := bwi 546 (by decide +kernel) (by decide +kernel)
theorem bw_507 : (Cond.static ⟨"BoardStoreLaw", "packByte", "(LBoardStore;II[J)I"⟩) ∈ bw := bwi 547 (by decide +kernel) (by decide +kernel)
theorem bw_508 : (Cond.codeWith ⟨"BoardStoreLaw", "packByte", "(LBoardStore;II[J)I"⟩ method_15_code 5 (some .int) [(0, 10, 13, 26), (0, 10, 17, 13)]) ∈ bw := bwi 548 (by decide +kernel) (by decide +kernel)
theorem bw_509 : (Cond.methodLink "BoardStoreLaw" 57 ⟨"BoardStore", "packByte", "(II)I"⟩) ∈ bw := bwi 549 (by decide +kernel) (by decide +kernel)
theorem bw_510 : (Cond.instanceMethod ⟨"BoardStore", "packByte", "(II)I"⟩) ∈ bw := bwi 550 (by decide +kernel) (by decide +kernel)
theorem bw_511 : (Cond.selects "BoardStore" ⟨"BoardStore", "packByte", "(II)I"⟩ ⟨"BoardStore", "packByte", "(II)I"⟩) ∈ bw := bwi 551 (by decide +kernel) (by decide +kernel)
theorem bw_512 : (Cond.code ⟨"BoardStore", "packByte", "(II)I"⟩ prog_1_method_14_code 3 (some .int)) ∈ bw := bwi 552 (by decide +kernel) (by decide +kernel)
theorem bw_513 : (Cond.methodLink "BoardStoreLaw" 127 ⟨"BoardStoreLaw", "digest", "(LBoardStore;II[J)I"⟩) ∈ bw := bwi 553 (by decide +kernel) (by decide +kernel)
theorem bw_514 : (Cond.static ⟨"BoardStoreLaw", "digest", "(LBoardStore;II[J)I"⟩) ∈ bw := bwi 554 (by decide +kernel) (by decide +kernel)
theorem bw_515 : (Cond.codeWith ⟨"BoardStoreLaw", "digest", "(LBoardStore;II[J)I"⟩ method_16_code 5 (some .int) [(0, 10, 13, 26), (0, 10, 17, 13)]) ∈ bw := bwi 555 (by decide +kernel) (by decide +kernel)
theorem bw_516 : (Cond.methodLink "BoardStoreLaw" 60 ⟨"BoardStore", "digest", "(II)I"⟩) ∈ bw := bwi 556 (by decide +kernel) (by decide +kernel)
theorem bw_517 : (Cond.instanceMethod ⟨"BoardStore", "digest", "(II)I"⟩) ∈ bw := bwi 557 (by decide +kernel) (by decide +kernel)
theorem bw_518 : (Cond.selects "BoardStore" ⟨"BoardStore", "digest", "(II)I"⟩ ⟨"BoardStore", "digest", "(II)I"⟩) ∈ bw := bwi 558 (by decide +kernel) (by decide +kernel)
theorem bw_519 : (Cond.code ⟨"BoardStore", "digest", "(II)I"⟩ prog_1_method_15_code 3 (some .int)) ∈ bw := bwi 559 (by decide +kernel) (by decide +kernel)
theorem bw_520 : (Cond.methodLink "BoardStore" 174 ⟨"BoardStore", "requireByteOfSum", "(I)V"⟩) ∈ bw := bwi 560 (by decide +kernel) (by decide +kernel)
theorem bw_521 : (Cond.privateMethod ⟨"BoardStore", "requireByteOfSum", "(I)V"⟩) ∈ bw := bwi 561 (by decide +kernel) (by decide +kernel)
theorem bw_522 : (Cond.instanceMethod ⟨"BoardStore", "requireByteOfSum", "(I)V"⟩) ∈ bw := bwi 562 (by decide +kernel) (by decide +kernel)
theorem bw_523 : (Cond.code ⟨"BoardStore", "requireByteOfSum", "(I)V"⟩ prog_1_method_23_code 2 none) ∈ bw := bwi 563 (by decide +kernel) (by decide +kernel)
theorem bw_525 : (Cond.methodLink "BoardStoreLaw" 130 ⟨"BoardStoreLaw", "out", "(LBoardStore;II[J)I"⟩) ∈ bw := bwi 565 (by decide +kernel) (by decide +kernel)
theorem bw_526 : (Cond.static ⟨"BoardStoreLaw", "out", "(LBoardStore;II[J)I"⟩) ∈ bw := bwi 566 (by decide +kernel) (by decide +kernel)
theorem bw_527 : (Cond.codeWith ⟨"BoardStoreLaw", "out", "(LBoardStore;II[J)I"⟩ method_17_code 5 (some .int) [(0, 10, 13, 26), (0, 10, 17, 13)]) ∈ bw := bwi 567 (by decide +kernel) (by decide +kernel)
theorem bw_528 : (Cond.methodLink "BoardStoreLaw" 63 ⟨"BoardStore", "out", "(II)I"⟩) ∈ bw := bwi 568 (by decide +kernel) (by decide +kernel)
theorem bw_529 : (Cond.instanceMethod ⟨"BoardStore", "out", "(II)I"⟩) ∈ bw := bwi 569 (by decide +kernel) (by decide +kernel)
theorem bw_530 : (Cond.selects "BoardStore" ⟨"BoardStore", "out", "(II)I"⟩ ⟨"BoardStore", "out", "(II)I"⟩) ∈ bw := bwi 570 (by decide +kernel) (by decide +kernel)
theorem bw_531 : (Cond.code ⟨"BoardStore", "out", "(II)I"⟩ prog_1_method_16_code 7 (some .int)) ∈ bw := bwi 571 (by decide +kernel) (by decide +kernel)
theorem bw_532 : (Cond.methodLink "BoardStoreLaw" 133 ⟨"BoardStoreLaw", "drop", "(LBoardStore;I[J)I"⟩) ∈ bw := bwi 572 (by decide +kernel) (by decide +kernel)
theorem bw_533 : (Cond.static ⟨"BoardStoreLaw", "drop", "(LBoardStore;I[J)I"⟩) ∈ bw := bwi 573 (by decide +kernel) (by decide +kernel)
theorem bw_534 : (Cond.codeWith ⟨"BoardStoreLaw", "drop", "(LBoardStore;I[J)I"⟩ method_18_code 4 (some .int) [(0, 16, 19, 26), (0, 16, 22, 13)]) ∈ bw := bwi 574 (by decide +kernel) (by decide +kernel)
theorem bw_535 : (Cond.methodLink "BoardStoreLaw" 66 ⟨"BoardStore", "drop", "(I)Z"⟩) ∈ bw := bwi 575 (by decide +kernel) (by decide +kernel)
theorem bw_536 : (Cond.instanceMethod ⟨"BoardStore", "drop", "(I)Z"⟩) ∈ bw := bwi 576 (by decide +kernel) (by decide +kernel)
theorem bw_537 : (Cond.selects "BoardStore" ⟨"BoardStore", "drop", "(I)Z"⟩ ⟨"BoardStore", "drop", "(I)Z"⟩) ∈ bw := bwi 577 (by decide +kernel) (by decide +kernel)
theorem bw_538 : (Cond.code ⟨"BoardStore", "drop", "(I)Z"⟩ prog_1_method_17_code 2 (some .boolean)) ∈ bw := bwi 578 (by decide +kernel) (by decide +kernel)
theorem bw_539 : (Cond.classLink "BoardStoreLaw" 78 "BoardStoreModel") ∈ bw := bwi 579 (by decide +kernel) (by decide +kernel)
theorem bw_540 : (Cond.instantiable "BoardStoreModel" 21) ∈ bw := bwi 580 (by decide +kernel) (by decide +kernel)
theorem bw_541 : (Cond.methodLink "BoardStoreLaw" 80 ⟨"BoardStoreModel", "<init>", "(I)V"⟩) ∈ bw := bwi 581 (by decide +kernel) (by decide +kernel)
theorem bw_542 : (Cond.instanceMethod ⟨"BoardStoreModel", "<init>", "(I)V"⟩) ∈ bw := bwi 582 (by decide +kernel) (by decide +kernel)
theorem bw_543 : (Cond.code ⟨"BoardStoreModel", "<init>", "(I)V"⟩ prog_6_method_1_code 2 none) ∈ bw := bwi 583 (by decide +kernel) (by decide +kernel)
theorem bw_544 : (Cond.methodLink "BoardStoreModel" 1 ⟨"java/lang/Object", "<init>", "()V"⟩) ∈ bw := bwi 584 (by decide +kernel) (by decide +kernel)
theorem bw_545 : (Cond.fieldLink "BoardStoreModel" 48 "BoardStoreModel" "thrown" "I") ∈ bw := bwi 585 (by decide +kernel) (by decide +kernel)
theorem bw_546 : (Cond.fieldLink "BoardStoreModel" 44 "BoardStoreModel" "mostPacks" "I") ∈ bw := bwi 586 (by decide +kernel) (by decide +kernel)
theorem bw_547 : (Cond.fieldLink "BoardStoreModel" 84 "BoardStoreModel" "crashed" "Z") ∈ bw := bwi 587 (by decide +kernel) (by decide +kernel)
theorem bw_548 : (Cond.fieldLink "BoardStoreModel" 97 "BoardStoreModel" "fed" "I") ∈ bw := bwi 588 (by decide +kernel) (by decide +kernel)
theorem bw_549 : (Cond.fieldLink "BoardStoreModel" 7 "BoardStoreModel" "food" "[I") ∈ bw := bwi 589 (by decide +kernel) (by decide +kernel)
theorem bw_550 : (Cond.fieldLink "BoardStoreModel" 64 "BoardStoreModel" "size" "I") ∈ bw := bwi 590 (by decide +kernel) (by decide +kernel)
theorem bw_551 : (Cond.fieldLink "BoardStoreModel" 13 "BoardStoreModel" "log" "[I") ∈ bw := bwi 591 (by decide +kernel) (by decide +kernel)
theorem bw_552 : (Cond.fieldLink "BoardStoreModel" 117 "BoardStoreModel" "packs" "I") ∈ bw := bwi 592 (by decide +kernel) (by decide +kernel)
theorem bw_553 : (Cond.fieldLink "BoardStoreModel" 16 "BoardStoreModel" "packSize" "[I") ∈ bw := bwi 593 (by decide +kernel) (by decide +kernel)
theorem bw_554 : (Cond.fieldLink "BoardStoreModel" 19 "BoardStoreModel" "packBytes" "[I") ∈ bw := bwi 594 (by decide +kernel) (by decide +kernel)
theorem bw_555 : (Cond.fieldLink "BoardStoreModel" 22 "BoardStoreModel" "isPacked" "[Z") ∈ bw := bwi 595 (by decide +kernel) (by decide +kernel)
theorem bw_556 : (Cond.fieldLink "BoardStoreModel" 57 "BoardStoreModel" "blocks" "I") ∈ bw := bwi 596 (by decide +kernel) (by decide +kernel)
theorem bw_557 : (Cond.fieldLink "BoardStoreModel" 26 "BoardStoreModel" "from" "[I") ∈ bw := bwi 597 (by decide +kernel) (by decide +kernel)
theorem bw_558 : (Cond.fieldLink "BoardStoreModel" 29 "BoardStoreModel" "lengths" "[I") ∈ bw := bwi 598 (by decide +kernel) (by decide +kernel)
theorem bw_559 : (Cond.fieldLink "BoardStoreModel" 32 "BoardStoreModel" "there" "[Z") ∈ bw := bwi 599 (by decide +kernel) (by decide +kernel)
theorem bw_560 : (Cond.fieldLink "BoardStoreModel" 51 "BoardStoreModel" "versions" "I") ∈ bw := bwi 600 (by decide +kernel) (by decide +kernel)
theorem bw_561 : (Cond.fieldLink "BoardStoreModel" 35 "BoardStoreModel" "counts" "[I") ∈ bw := bwi 601 (by decide +kernel) (by decide +kernel)
theorem bw_562 : (Cond.fieldLink "BoardStoreModel" 38 "BoardStoreModel" "rows" "[I") ∈ bw := bwi 602 (by decide +kernel) (by decide +kernel)
theorem bw_563 : (Cond.fieldLink "BoardStoreModel" 41 "BoardStoreModel" "dropped" "[Z") ∈ bw := bwi 603 (by decide +kernel) (by decide +kernel)
theorem bw_564 : (Cond.fieldLink "BoardStoreModel" 74 "BoardStoreModel" "end" "I") ∈ bw := bwi 604 (by decide +kernel) (by decide +kernel)
theorem bw_565 : (Cond.fieldLink "BoardStoreModel" 54 "BoardStoreModel" "swept" "I") ∈ bw := bwi 605 (by decide +kernel) (by decide +kernel)
theorem bw_566 : (Cond.lays "BoardStoreModel" "BoardStoreModel" "thrown" "I") ∈ bw := bwi 606 (by decide +kernel) (by decide +kernel)
theorem bw_567 : (Cond.soleField "BoardStoreModel" "thrown") ∈ bw := bwi 607 (by decide +kernel) (by decide +kernel)
theorem bw_568 : (Cond.laysFinal "BoardStoreModel" "BoardStoreModel" "mostPacks" "I") ∈ bw := bwi 608 (by decide +kernel) (by decide +kernel)
theorem bw_569 : (Cond.soleField "BoardStoreModel" "mostPacks") ∈ bw := bwi 609 (by decide +kernel) (by decide +kernel)
theorem bw_570 : (Cond.lays "BoardStoreModel" "BoardStoreModel" "crashed" "Z") ∈ bw := bwi 610 (by decide +kernel) (by decide +kernel)
theorem bw_571 : (Cond.soleField "BoardStoreModel" "crashed") ∈ bw := bwi 611 (by decide +kernel) (by decide +kernel)
theorem bw_572 : (Cond.lays "BoardStoreModel" "BoardStoreModel" "fed" "I") ∈ bw := bwi 612 (by decide +kernel) (by decide +kernel)
theorem bw_573 : (Cond.soleField "BoardStoreModel" "fed") ∈ bw := bwi 613 (by decide +kernel) (by decide +kernel)
theorem bw_574 : (Cond.laysFinal "BoardStoreModel" "BoardStoreModel" "food" "[I") ∈ bw := bwi 614 (by decide +kernel) (by decide +kernel)
theorem bw_575 : (Cond.soleField "BoardStoreModel" "food") ∈ bw := bwi 615 (by decide +kernel) (by decide +kernel)
theorem bw_576 : (Cond.lays "BoardStoreModel" "BoardStoreModel" "size" "I") ∈ bw := bwi 616 (by decide +kernel) (by decide +kernel)
theorem bw_577 : (Cond.soleField "BoardStoreModel" "size") ∈ bw := bwi 617 (by decide +kernel) (by decide +kernel)
theorem bw_578 : (Cond.laysFinal "BoardStoreModel" "BoardStoreModel" "log" "[I") ∈ bw := bwi 618 (by decide +kernel) (by decide +kernel)
theorem bw_579 : (Cond.soleField "BoardStoreModel" "log") ∈ bw := bwi 619 (by decide +kernel) (by decide +kernel)
theorem bw_580 : (Cond.lays "BoardStoreModel" "BoardStoreModel" "packs" "I") ∈ bw := bwi 620 (by decide +kernel) (by decide +kernel)
theorem bw_581 : (Cond.soleField "BoardStoreModel" "packs") ∈ bw := bwi 621 (by decide +kernel) (by decide +kernel)
theorem bw_582 : (Cond.laysFinal "BoardStoreModel" "BoardStoreModel" "packSize" "[I") ∈ bw := bwi 622 (by decide +kernel) (by decide +kernel)
theorem bw_583 : (Cond.soleField "BoardStoreModel" "packSize") ∈ bw := bwi 623 (by decide +kernel) (by decide +kernel)
theorem bw_584 : (Cond.laysFinal "BoardStoreModel" "BoardStoreModel" "packBytes" "[I") ∈ bw := bwi 624 (by decide +kernel) (by decide +kernel)
theorem bw_585 : (Cond.soleField "BoardStoreModel" "packBytes") ∈ bw := bwi 625 (by decide +kernel) (by decide +kernel)
theorem bw_586 : (Cond.laysFinal "BoardStoreModel" "BoardStoreModel" "isPacked" "[Z") ∈ bw := bwi 626 (by decide +kernel) (by decide +kernel)
theorem bw_587 : (Cond.soleField "BoardStoreModel" "isPacked") ∈ bw := bwi 627 (by decide +kernel) (by decide +kernel)
theorem bw_588 : (Cond.lays "BoardStoreModel" "BoardStoreModel" "blocks" "I") ∈ bw := bwi 628 (by decide +kernel) (by decide +kernel)
theorem bw_589 : (Cond.soleField "BoardStoreModel" "blocks") ∈ bw := bwi 629 (by decide +kernel) (by decide +kernel)
theorem bw_590 : (Cond.laysFinal "BoardStoreModel" "BoardStoreModel" "from" "[I") ∈ bw := bwi 630 (by decide +kernel) (by decide +kernel)
theorem bw_591 : (Cond.soleField "BoardStoreModel" "from") ∈ bw := bwi 631 (by decide +kernel) (by decide +kernel)
theorem bw_592 : (Cond.laysFinal "BoardStoreModel" "BoardStoreModel" "lengths" "[I") ∈ bw := bwi 632 (by decide +kernel) (by decide +kernel)
theorem bw_593 : (Cond.soleField "BoardStoreModel" "lengths") ∈ bw := bwi 633 (by decide +kernel) (by decide +kernel)
theorem bw_594 : (Cond.laysFinal "BoardStoreModel" "BoardStoreModel" "there" "[Z") ∈ bw := bwi 634 (by decide +kernel) (by decide +kernel)
theorem bw_595 : (Cond.soleField "BoardStoreModel" "there") ∈ bw := bwi 635 (by decide +kernel) (by decide +kernel)
theorem bw_596 : (Cond.lays "BoardStoreModel" "BoardStoreModel" "versions" "I") ∈ bw := bwi 636 (by decide +kernel) (by decide +kernel)
theorem bw_597 : (Cond.soleField "BoardStoreModel" "versions") ∈ bw := bwi 637 (by decide +kernel) (by decide +kernel)
theorem bw_598 : (Cond.laysFinal "BoardStoreModel" "BoardStoreModel" "counts" "[I") ∈ bw := bwi 638 (by decide +kernel) (by decide +kernel)
theorem bw_599 : (Cond.soleField "BoardStoreModel" "counts") ∈ bw := bwi 639 (by decide +kernel) (by decide +kernel)
theorem bw_600 : (Cond.laysFinal "BoardStoreModel" "BoardStoreModel" "rows" "[I") ∈ bw := bwi 640 (by decide +kernel) (by decide +kernel)
theorem bw_601 : (Cond.soleField "BoardStoreModel" "rows") ∈ bw := bwi 641 (by decide +kernel) (by decide +kernel)
theorem bw_602 : (Cond.laysFinal "BoardStoreModel" "BoardStoreModel" "dropped" "[Z") ∈ bw := bwi 642 (by decide +kernel) (by decide +kernel)
theorem bw_603 : (Cond.soleField "BoardStoreModel" "dropped") ∈ bw := bwi 643 (by decide +kernel) (by decide +kernel)
theorem bw_604 : (Cond.lays "BoardStoreModel" "BoardStoreModel" "end" "I") ∈ bw := bwi 644 (by decide +kernel) (by decide +kernel)
theorem bw_605 : (Cond.soleField "BoardStoreModel" "end") ∈ bw := bwi 645 (by decide +kernel) (by decide +kernel)
theorem bw_606 : (Cond.lays "BoardStoreModel" "BoardStoreModel" "swept" "I") ∈ bw := bwi 646 (by decide +kernel) (by decide +kernel)
theorem bw_607 : (Cond.soleField "BoardStoreModel" "swept") ∈ bw := bwi 647 (by decide +kernel) (by decide +kernel)
theorem bw_608 : (Cond.superclass "BoardStoreModel" "java/lang/Object") ∈ bw := bwi 648 (by decide +kernel) (by decide +kernel)
theorem bw_609 : (Cond.methodLink "BoardStoreLaw" 85 ⟨"BoardStoreModel", "thrown", "()I"⟩) ∈ bw := bwi 649 (by decide +kernel) (by decide +kernel)
theorem bw_610 : (Cond.instanceMethod ⟨"BoardStoreModel", "thrown", "()I"⟩) ∈ bw := bwi 650 (by decide +kernel) (by decide +kernel)
theorem bw_611 : (Cond.selects "BoardStoreModel" ⟨"BoardStoreModel", "thrown", "()I"⟩ ⟨"BoardStoreModel", "thrown", "()I"⟩) ∈ bw := bwi 651 (by decide +kernel) (by decide +kernel)
theorem bw_612 : (Cond.code ⟨"BoardStoreModel", "thrown", "()I"⟩ prog_6_method_2_code 1 (some .int)) ∈ bw := bwi 652 (by decide +kernel) (by decide +kernel)
theorem bw_613 : (Cond.methodLink "BoardStoreLaw" 84 ⟨"BoardStoreModel", "feed", "(I)Z"⟩) ∈ bw := bwi 653 (by decide +kernel) (by decide +kernel)
theorem bw_614 : (Cond.instanceMethod ⟨"BoardStoreModel", "feed", "(I)Z"⟩) ∈ bw := bwi 654 (by decide +kernel) (by decide +kernel)
theorem bw_615 : (Cond.selects "BoardStoreModel" ⟨"BoardStoreModel", "feed", "(I)Z"⟩ ⟨"BoardStoreModel", "feed", "(I)Z"⟩) ∈ bw := bwi 655 (by decide +kernel) (by decide +kernel)
theorem bw_616 : (Cond.code ⟨"BoardStoreModel", "feed", "(I)Z"⟩ prog_6_method_12_code 2 (some .boolean)) ∈ bw := bwi 656 (by decide +kernel) (by decide +kernel)
theorem bw_617 : (Cond.methodLink "BoardStoreModel" 91 ⟨"BoardStoreModel", "isReady", "(I)Z"⟩) ∈ bw := bwi 657 (by decide +kernel) (by decide +kernel)
theorem bw_618 : (Cond.privateMethod ⟨"BoardStoreModel", "isReady", "(I)Z"⟩) ∈ bw := bwi 658 (by decide +kernel) (by decide +kernel)
theorem bw_619 : (Cond.instanceMethod ⟨"BoardStoreModel", "isReady", "(I)Z"⟩) ∈ bw := bwi 659 (by decide +kernel) (by decide +kernel)
theorem bw_620 : (Cond.code ⟨"BoardStoreModel", "isReady", "(I)Z"⟩ prog_6_method_9_code 2 (some .boolean)) ∈ bw := bwi 660 (by decide +kernel) (by decide +kernel)
theorem bw_621 : (Cond.methodLink "BoardStoreModel" 88 ⟨"BoardStoreModel", "walk", "()V"⟩) ∈ bw := bwi 661 (by decide +kernel) (by decide +kernel)
theorem bw_622 : (Cond.privateMethod ⟨"BoardStoreModel", "walk", "()V"⟩) ∈ bw := bwi 662 (by decide +kernel) (by decide +kernel)
theorem bw_623 : (Cond.instanceMethod ⟨"BoardStoreModel", "walk", "()V"⟩) ∈ bw := bwi 663 (by decide +kernel) (by decide +kernel)
theorem bw_624 : (Cond.code ⟨"BoardStoreModel", "walk", "()V"⟩ prog_6_method_8_code 1 none) ∈ bw := bwi 664 (by decide +kernel) (by decide +kernel)
theorem bw_625 : (Cond.methodLink "BoardStoreModel" 77 ⟨"BoardStoreModel", "sizeOf", "(I)I"⟩) ∈ bw := bwi 665 (by decide +kernel) (by decide +kernel)
theorem bw_626 : (Cond.privateMethod ⟨"BoardStoreModel", "sizeOf", "(I)I"⟩) ∈ bw := bwi 666 (by decide +kernel) (by decide +kernel)
theorem bw_627 : (Cond.instanceMethod ⟨"BoardStoreModel", "sizeOf", "(I)I"⟩) ∈ bw := bwi 667 (by decide +kernel) (by decide +kernel)
theorem bw_628 : (Cond.code ⟨"BoardStoreModel", "sizeOf", "(I)I"⟩ prog_6_method_6_code 3 (some .int)) ∈ bw := bwi 668 (by decide +kernel) (by decide +kernel)
theorem bw_629 : (Cond.methodLink "BoardStoreModel" 81 ⟨"BoardStoreModel", "act", "(I)V"⟩) ∈ bw := bwi 669 (by decide +kernel) (by decide +kernel)
theorem bw_630 : (Cond.privateMethod ⟨"BoardStoreModel", "act", "(I)V"⟩) ∈ bw := bwi 670 (by decide +kernel) (by decide +kernel)
theorem bw_631 : (Cond.instanceMethod ⟨"BoardStoreModel", "act", "(I)V"⟩) ∈ bw := bwi 671 (by decide +kernel) (by decide +kernel)
theorem bw_632 : (Cond.code ⟨"BoardStoreModel", "act", "(I)V"⟩ prog_6_method_7_code 3 none) ∈ bw := bwi 672 (by decide +kernel) (by decide +kernel)
theorem bw_633 : (Cond.methodLink "BoardStoreModel" 67 ⟨"BoardStoreModel", "append", "(I)V"⟩) ∈ bw := bwi 673 (by decide +kernel) (by decide +kernel)
theorem bw_634 : (Cond.privateMethod ⟨"BoardStoreModel", "append", "(I)V"⟩) ∈ bw := bwi 674 (by decide +kernel) (by decide +kernel)
theorem bw_635 : (Cond.instanceMethod ⟨"BoardStoreModel", "append", "(I)V"⟩) ∈ bw := bwi 675 (by decide +kernel) (by decide +kernel)
theorem bw_636 : (Cond.code ⟨"BoardStoreModel", "append", "(I)V"⟩ prog_6_method_3_code 2 none) ∈ bw := bwi 676 (by decide +kernel) (by decide +kernel)
theorem bw_637 : (Cond.methodLink "BoardStoreModel" 71 ⟨"BoardStoreModel", "sweepAll", "()V"⟩) ∈ bw := bwi 677 (by decide +kernel) (by decide +kernel)
theorem bw_638 : (Cond.privateMethod ⟨"BoardStoreModel", "sweepAll", "()V"⟩) ∈ bw := bwi 678 (by decide +kernel) (by decide +kernel)
theorem bw_639 : (Cond.instanceMethod ⟨"BoardStoreModel", "sweepAll", "()V"⟩) ∈ bw := bwi 679 (by decide +kernel) (by decide +kernel)
theorem bw_640 : (Cond.code ⟨"BoardStoreModel", "sweepAll", "()V"⟩ prog_6_method_5_code 2 none) ∈ bw := bwi 680 (by decide +kernel) (by decide +kernel)
theorem bw_641 : (Cond.methodLink "BoardStoreModel" 60 ⟨"BoardStoreModel", "isHeld", "(I)Z"⟩) ∈ bw := bwi 681 (by decide +kernel) (by decide +kernel)
theorem bw_642 : (Cond.privateMethod ⟨"BoardStoreModel", "isHeld", "(I)Z"⟩) ∈ bw := bwi 682 (by decide +kernel) (by decide +kernel)
theorem bw_643 : (Cond.instanceMethod ⟨"BoardStoreModel", "isHeld", "(I)Z"⟩) ∈ bw := bwi 683 (by decide +kernel) (by decide +kernel)
theorem bw_644 : (Cond.code ⟨"BoardStoreModel", "isHeld", "(I)Z"⟩ prog_6_method_4_code 5 (some .boolean)) ∈ bw := bwi 684 (by decide +kernel) (by decide +kernel)
theorem bw_645 : (Cond.methodLink "BoardStoreModel" 94 ⟨"BoardStoreModel", "isByte", "(I)Z"⟩) ∈ bw := bwi 685 (by decide +kernel) (by decide +kernel)
theorem bw_646 : (Cond.static ⟨"BoardStoreModel", "isByte", "(I)Z"⟩) ∈ bw := bwi 686 (by decide +kernel) (by decide +kernel)
theorem bw_647 : (Cond.code ⟨"BoardStoreModel", "isByte", "(I)Z"⟩ prog_6_method_11_code 1 (some .boolean)) ∈ bw := bwi 687 (by decide +kernel) (by decide +kernel)
theorem bw_648 : (Cond.methodLink "BoardStoreLaw" 91 ⟨"BoardStoreModel", "block", "()I"⟩) ∈ bw := bwi 688 (by decide +kernel) (by decide +kernel)
theorem bw_649 : (Cond.instanceMethod ⟨"BoardStoreModel", "block", "()I"⟩) ∈ bw := bwi 689 (by decide +kernel) (by decide +kernel)
theorem bw_650 : (Cond.selects "BoardStoreModel" ⟨"BoardStoreModel", "block", "()I"⟩ ⟨"BoardStoreModel", "block", "()I"⟩) ∈ bw := bwi 690 (by decide +kernel) (by decide +kernel)
theorem bw_651 : (Cond.code ⟨"BoardStoreModel", "block", "()I"⟩ prog_6_method_14_code 5 (some .int)) ∈ bw := bwi 691 (by decide +kernel) (by decide +kernel)
theorem bw_652 : (Cond.methodLink "BoardStoreModel" 100 ⟨"BoardStoreModel", "isFood", "(I)Z"⟩) ∈ bw := bwi 692 (by decide +kernel) (by decide +kernel)
theorem bw_653 : (Cond.privateMethod ⟨"BoardStoreModel", "isFood", "(I)Z"⟩) ∈ bw := bwi 693 (by decide +kernel) (by decide +kernel)
theorem bw_654 : (Cond.instanceMethod ⟨"BoardStoreModel", "isFood", "(I)Z"⟩) ∈ bw := bwi 694 (by decide +kernel) (by decide +kernel)
theorem bw_655 : (Cond.code ⟨"BoardStoreModel", "isFood", "(I)Z"⟩ prog_6_method_13_code 4 (some .boolean)) ∈ bw := bwi 695 (by decide +kernel) (by decide +kernel)
theorem bw_656 : (Cond.methodLink "BoardStoreModel" 103 ⟨"BoardStoreModel", "write", "(I)V"⟩) ∈ bw := bwi 696 (by decide +kernel) (by decide +kernel)
theorem bw_657 : (Cond.privateMethod ⟨"BoardStoreModel", "write", "(I)V"⟩) ∈ bw := bwi 697 (by decide +kernel) (by decide +kernel)
theorem bw_658 : (Cond.instanceMethod ⟨"BoardStoreModel", "write", "(I)V"⟩) ∈ bw := bwi 698 (by decide +kernel) (by decide +kernel)
theorem bw_659 : (Cond.code ⟨"BoardStoreModel", "write", "(I)V"⟩ prog_6_method_10_code 2 none) ∈ bw := bwi 699 (by decide +kernel) (by decide +kernel)
theorem bw_660 : (Cond.methodLink "BoardStoreLaw" 94 ⟨"BoardStoreModel", "version", "()I"⟩) ∈ bw := bwi 700 (by decide +kernel) (by decide +kernel)
theorem bw_661 : (Cond.instanceMethod ⟨"BoardStoreModel", "version", "()I"⟩) ∈ bw := bwi 701 (by decide +kernel) (by decide +kernel)
theorem bw_662 : (Cond.selects "BoardStoreModel" ⟨"BoardStoreModel", "version", "()I"⟩ ⟨"BoardStoreModel", "version", "()I"⟩) ∈ bw := bwi 702 (by decide +kernel) (by decide +kernel)
theorem bw_663 : (Cond.code ⟨"BoardStoreModel", "version", "()I"⟩ prog_6_method_15_code 1 (some .int)) ∈ bw := bwi 703 (by decide +kernel) (by decide +kernel)
theorem bw_664 : (Cond.methodLink "BoardStoreLaw" 104 ⟨"BoardStoreModel", "sweep", "()I"⟩) ∈ bw := bwi 704 (by decide +kernel) (by decide +kernel)
theorem bw_665 : (Cond.instanceMethod ⟨"BoardStoreModel", "sweep", "()I"⟩) ∈ bw := bwi 705 (by decide +kernel) (by decide +kernel)
theorem bw_666 : (Cond.selects "BoardStoreModel" ⟨"BoardStoreModel", "sweep", "()I"⟩ ⟨"BoardStoreModel", "sweep", "()I"⟩) ∈ bw := bwi 706 (by decide +kernel) (by decide +kernel)
theorem bw_667 : (Cond.code ⟨"BoardStoreModel", "sweep", "()I"⟩ prog_6_method_16_code 2 (some .int)) ∈ bw := bwi 707 (by decide +kernel) (by decide +kernel)
theorem bw_668 : (Cond.methodLink "BoardStoreLaw" 135 ⟨"BoardStoreModel", "drop", "(I)Z"⟩) ∈ bw := bwi 708 (by decide +kernel) (by decide +kernel)
theorem bw_669 : (Cond.instanceMethod ⟨"BoardStoreModel", "drop", "(I)Z"⟩) ∈ bw := bwi 709 (by decide +kernel) (by decide +kernel)
theorem bw_670 : (Cond.selects "BoardStoreModel" ⟨"BoardStoreModel", "drop", "(I)Z"⟩ ⟨"BoardStoreModel", "drop", "(I)Z"⟩) ∈ bw := bwi 710 (by decide +kernel) (by decide +kernel)
theorem bw_671 : (Cond.code ⟨"BoardStoreModel", "drop", "(I)Z"⟩ prog_6_method_19_code 2 (some .boolean)) ∈ bw := bwi 711 (by decide +kernel) (by decide +kernel)
theorem bw_672 : (Cond.methodLink "BoardStoreModel" 106 ⟨"BoardStoreModel", "isVersion", "(I)Z"⟩) ∈ bw := bwi 712 (by decide +kernel) (by decide +kernel)
theorem bw_673 : (Cond.privateMethod ⟨"BoardStoreModel", "isVersion", "(I)Z"⟩) ∈ bw := bwi 713 (by decide +kernel) (by decide +kernel)
theorem bw_674 : (Cond.instanceMethod ⟨"BoardStoreModel", "isVersion", "(I)Z"⟩) ∈ bw := bwi 714 (by decide +kernel) (by decide +kernel)
theorem bw_675 : (Cond.code ⟨"BoardStoreModel", "isVersion", "(I)Z"⟩ prog_6_method_17_code 2 (some .boolean)) ∈ bw := bwi 715 (by decide +kernel) (by decide +kernel)
theorem bw_676 : (Cond.methodLink "BoardStoreLaw" 98 ⟨"BoardStoreModel", "holds", "(II)Z"⟩) ∈ bw := bwi 716 (by decide +kernel) (by decide +kernel)
theorem bw_677 : (Cond.instanceMethod ⟨"BoardStoreModel", "holds", "(II)Z"⟩) ∈ bw := bwi 717 (by decide +kernel) (by decide +kernel)
theorem bw_678 : (Cond.selects "BoardStoreModel" ⟨"BoardStoreModel", "holds", "(II)Z"⟩ ⟨"BoardStoreModel", "holds", "(II)Z"⟩) ∈ bw := bwi 718 (by decide +kernel) (by decide +kernel)
theorem bw_679 : (Cond.code ⟨"BoardStoreModel", "holds", "(II)Z"⟩ prog_6_method_20_code 5 (some .boolean)) ∈ bw := bwi 719 (by decide +kernel) (by decide +kernel)
theorem bw_680 : (Cond.methodLink "BoardStoreModel" 109 ⟨"BoardStoreModel", "isBlock", "(I)Z"⟩) ∈ bw := bwi 720 (by decide +kernel) (by decide +kernel)
theorem bw_681 : (Cond.privateMethod ⟨"BoardStoreModel", "isBlock", "(I)Z"⟩) ∈ bw := bwi 721 (by decide +kernel) (by decide +kernel)
theorem bw_682 : (Cond.instanceMethod ⟨"BoardStoreModel", "isBlock", "(I)Z"⟩) ∈ bw := bwi 722 (by decide +kernel) (by decide +kernel)
theorem bw_683 : (Cond.code ⟨"BoardStoreModel", "isBlock", "(I)Z"⟩ prog_6_method_18_code 2 (some .boolean)) ∈ bw := bwi 723 (by decide +kernel) (by decide +kernel)
theorem bw_684 : (Cond.methodLink "BoardStoreLaw" 101 ⟨"BoardStoreModel", "root", "(I)I"⟩) ∈ bw := bwi 724 (by decide +kernel) (by decide +kernel)
theorem bw_685 : (Cond.instanceMethod ⟨"BoardStoreModel", "root", "(I)I"⟩) ∈ bw := bwi 725 (by decide +kernel) (by decide +kernel)
theorem bw_686 : (Cond.selects "BoardStoreModel" ⟨"BoardStoreModel", "root", "(I)I"⟩ ⟨"BoardStoreModel", "root", "(I)I"⟩) ∈ bw := bwi 726 (by decide +kernel) (by decide +kernel)
theorem bw_687 : (Cond.code ⟨"BoardStoreModel", "root", "(I)I"⟩ prog_6_method_22_code 6 (some .int)) ∈ bw := bwi 727 (by decide +kernel) (by decide +kernel)
theorem bw_688 : (Cond.methodLink "BoardStoreModel" 113 ⟨"BoardStoreModel", "next", "(II)I"⟩) ∈ bw := bwi 728 (by decide +kernel) (by decide +kernel)
theorem bw_689 : (Cond.static ⟨"BoardStoreModel", "next", "(II)I"⟩) ∈ bw := bwi 729 (by decide +kernel) (by decide +kernel)
theorem bw_690 : (Cond.code ⟨"BoardStoreModel", "next", "(II)I"⟩ prog_6_method_21_code 3 (some .int)) ∈ bw := bwi 730 (by decide +kernel) (by decide +kernel)
theorem bw_691 : (Cond.constant "BoardStoreModel" 112 (-1028477387 : Int32)) ∈ bw := bwi 731 (by decide +kernel) (by decide +kernel)
theorem bw_692 : (Cond.methodLink "BoardStoreLaw" 132 ⟨"BoardStoreModel", "out", "(II)I"⟩) ∈ bw := bwi 732 (by decide +kernel) (by decide +kernel)
theorem bw_693 : (Cond.instanceMethod ⟨"BoardStoreModel", "out", "(II)I"⟩) ∈ bw := bwi 733 (by decide +kernel) (by decide +kernel)
theorem bw_694 : (Cond.selects "BoardStoreModel" ⟨"BoardStoreModel", "out", "(II)I"⟩ ⟨"BoardStoreModel", "out", "(II)I"⟩) ∈ bw := bwi 734 (by decide +kernel) (by decide +kernel)
theorem bw_695 : (Cond.code ⟨"BoardStoreModel", "out", "(II)I"⟩ prog_6_method_23_code 6 (some .int)) ∈ bw := bwi 735 (by decide +kernel) (by decide +kernel)
theorem bw_696 : (Cond.methodLink "BoardStoreLaw" 110 ⟨"BoardStoreModel", "byteAt", "(II)I"⟩) ∈ bw := bwi 736 (by decide +kernel) (by decide +kernel)
theorem bw_697 : (Cond.instanceMethod ⟨"BoardStoreModel", "byteAt", "(II)I"⟩) ∈ bw := bwi 737 (by decide +kernel) (by decide +kernel)
theorem bw_698 : (Cond.selects "BoardStoreModel" ⟨"BoardStoreModel", "byteAt", "(II)I"⟩ ⟨"BoardStoreModel", "byteAt", "(II)I"⟩) ∈ bw := bwi 738 (by decide +kernel) (by decide +kernel)
theorem bw_699 : (Cond.code ⟨"BoardStoreModel", "byteAt", "(II)I"⟩ prog_6_method_24_code 3 (some .int)) ∈ bw := bwi 739 (by decide +kernel) (by decide +kernel)
theorem bw_700 : (Cond.methodLink "BoardStoreLaw" 129 ⟨"BoardStoreModel", "digest", "(II)I"⟩) ∈ bw := bwi 740 (by decide +kernel) (by decide +kernel)
theorem bw_701 : (Cond.instanceMethod ⟨"BoardStoreModel", "digest", "(II)I"⟩) ∈ bw := bwi 741 (by decide +kernel) (by decide +kernel)
theorem bw_702 : (Cond.selects "BoardStoreModel" ⟨"BoardStoreModel", "digest", "(II)I"⟩ ⟨"BoardStoreModel", "digest", "(II)I"⟩) ∈ bw := bwi 742 (by decide +kernel) (by decide +kernel)
theorem bw_703 : (Cond.code ⟨"BoardStoreModel", "digest", "(II)I"⟩ prog_6_method_25_code 5 (some .int)) ∈ bw := bwi 743 (by decide +kernel) (by decide +kernel)
theorem bw_704 : (Cond.methodLink "BoardStoreLaw" 107 ⟨"BoardStoreModel", "pack", "()I"⟩) ∈ bw := bwi 744 (by decide +kernel) (by decide +kernel)
theorem bw_705 : (Cond.instanceMethod ⟨"BoardStoreModel", "pack", "()I"⟩) ∈ bw := bwi 745 (by decide +kernel) (by decide +kernel)
theorem bw_706 : (Cond.selects "BoardStoreModel" ⟨"BoardStoreModel", "pack", "()I"⟩ ⟨"BoardStoreModel", "pack", "()I"⟩) ∈ bw := bwi 746 (by decide +kernel) (by decide +kernel)
theorem bw_707 : (Cond.code ⟨"BoardStoreModel", "pack", "()I"⟩ prog_6_method_28_code 4 (some .int)) ∈ bw := bwi 747 (by decide +kernel) (by decide +kernel)
theorem bw_708 : (Cond.methodLink "BoardStoreModel" 120 ⟨"BoardStoreModel", "put", "(I)V"⟩) ∈ bw := bwi 748 (by decide +kernel) (by decide +kernel)
theorem bw_709 : (Cond.privateMethod ⟨"BoardStoreModel", "put", "(I)V"⟩) ∈ bw := bwi 749 (by decide +kernel) (by decide +kernel)
theorem bw_710 : (Cond.instanceMethod ⟨"BoardStoreModel", "put", "(I)V"⟩) ∈ bw := bwi 750 (by decide +kernel) (by decide +kernel)
theorem bw_711 : (Cond.code ⟨"BoardStoreModel", "put", "(I)V"⟩ prog_6_method_26_code 2 none) ∈ bw := bwi 751 (by decide +kernel) (by decide +kernel)
theorem bw_712 : (Cond.methodLink "BoardStoreModel" 123 ⟨"BoardStoreModel", "sumOf", "(I)I"⟩) ∈ bw := bwi 752 (by decide +kernel) (by decide +kernel)
theorem bw_713 : (Cond.privateMethod ⟨"BoardStoreModel", "sumOf", "(I)I"⟩) ∈ bw := bwi 753 (by decide +kernel) (by decide +kernel)
theorem bw_714 : (Cond.instanceMethod ⟨"BoardStoreModel", "sumOf", "(I)I"⟩) ∈ bw := bwi 754 (by decide +kernel) (by decide +kernel)
theorem bw_715 : (Cond.code ⟨"BoardStoreModel", "sumOf", "(I)I"⟩ prog_6_method_27_code 4 (some .int)) ∈ bw := bwi 755 (by decide +kernel) (by decide +kernel)
theorem bw_716 : (Cond.methodLink "BoardStoreLaw" 126 ⟨"BoardStoreModel", "packByte", "(II)I"⟩) ∈ bw := bwi 756 (by decide +kernel) (by decide +kernel)
theorem bw_717 : (Cond.instanceMethod ⟨"BoardStoreModel", "packByte", "(II)I"⟩) ∈ bw := bwi 757 (by decide +kernel) (by decide +kernel)
theorem bw_718 : (Cond.selects "BoardStoreModel" ⟨"BoardStoreModel", "packByte", "(II)I"⟩ ⟨"BoardStoreModel", "packByte", "(II)I"⟩) ∈ bw := bwi 758 (by decide +kernel) (by decide +kernel)
theorem bw_719 : (Cond.code ⟨"BoardStoreModel", "packByte", "(II)I"⟩ prog_6_method_30_code 3 (some .int)) ∈ bw := bwi 759 (by decide +kernel) (by decide +kernel)
theorem bw_720 : (Cond.methodLink "BoardStoreModel" 126 ⟨"BoardStoreModel", "isPackByte", "(II)Z"⟩) ∈ bw := bwi 760 (by decide +kernel) (by decide +kernel)
theorem bw_721 : (Cond.privateMethod ⟨"BoardStoreModel", "isPackByte", "(II)Z"⟩) ∈ bw := bwi 761 (by decide +kernel) (by decide +kernel)
theorem bw_722 : (Cond.instanceMethod ⟨"BoardStoreModel", "isPackByte", "(II)Z"⟩) ∈ bw := bwi 762 (by decide +kernel) (by decide +kernel)
theorem bw_723 : (Cond.code ⟨"BoardStoreModel", "isPackByte", "(II)Z"⟩ prog_6_method_29_code 3 (some .boolean)) ∈ bw := bwi 763 (by decide +kernel) (by decide +kernel)
theorem bw_724 : (Cond.methodLink "BoardStoreLaw" 120 ⟨"BoardStoreModel", "poke", "(III)Z"⟩) ∈ bw := bwi 764 (by decide +kernel) (by decide +kernel)
theorem bw_725 : (Cond.instanceMethod ⟨"BoardStoreModel", "poke", "(III)Z"⟩) ∈ bw := bwi 765 (by decide +kernel) (by decide +kernel)
theorem bw_726 : (Cond.selects "BoardStoreModel" ⟨"BoardStoreModel", "poke", "(III)Z"⟩ ⟨"BoardStoreModel", "poke", "(III)Z"⟩) ∈ bw := bwi 766 (by decide +kernel) (by decide +kernel)
theorem bw_727 : (Cond.code ⟨"BoardStoreModel", "poke", "(III)Z"⟩ prog_6_method_31_code 4 (some .boolean)) ∈ bw := bwi 767 (by decide +kernel) (by decide +kernel)
theorem bw_728 : (Cond.methodLink "BoardStoreLaw" 123 ⟨"BoardStoreModel", "badAt", "()I"⟩) ∈ bw := bwi 768 (by decide +kernel) (by decide +kernel)
theorem bw_729 : (Cond.instanceMethod ⟨"BoardStoreModel", "badAt", "()I"⟩) ∈ bw := bwi 769 (by decide +kernel) (by decide +kernel)
theorem bw_730 : (Cond.selects "BoardStoreModel" ⟨"BoardStoreModel", "badAt", "()I"⟩ ⟨"BoardStoreModel", "badAt", "()I"⟩) ∈ bw := bwi 770 (by decide +kernel) (by decide +kernel)
theorem bw_731 : (Cond.code ⟨"BoardStoreModel", "badAt", "()I"⟩ prog_6_method_32_code 4 (some .int)) ∈ bw := bwi 771 (by decide +kernel) (by decide +kernel)
theorem bw_732 : (Cond.methodLink "BoardStoreLaw" 113 ⟨"BoardStoreModel", "crash", "(I)Z"⟩) ∈ bw := bwi 772 (by decide +kernel) (by decide +kernel)
theorem bw_733 : (Cond.instanceMethod ⟨"BoardStoreModel", "crash", "(I)Z"⟩) ∈ bw := bwi 773 (by decide +kernel) (by decide +kernel)
theorem bw_734 : (Cond.selects "BoardStoreModel" ⟨"BoardStoreModel", "crash", "(I)Z"⟩ ⟨"BoardStoreModel", "crash", "(I)Z"⟩) ∈ bw := bwi 774 (by decide +kernel) (by decide +kernel)
theorem bw_735 : (Cond.code ⟨"BoardStoreModel", "crash", "(I)Z"⟩ prog_6_method_33_code 4 (some .boolean)) ∈ bw := bwi 775 (by decide +kernel) (by decide +kernel)
theorem bw_736 : (Cond.methodLink "BoardStoreLaw" 116 ⟨"BoardStoreModel", "reopen", "()I"⟩) ∈ bw := bwi 776 (by decide +kernel) (by decide +kernel)
theorem bw_737 : (Cond.instanceMethod ⟨"BoardStoreModel", "reopen", "()I"⟩) ∈ bw := bwi 777 (by decide +kernel) (by decide +kernel)
theorem bw_738 : (Cond.selects "BoardStoreModel" ⟨"BoardStoreModel", "reopen", "()I"⟩ ⟨"BoardStoreModel", "reopen", "()I"⟩) ∈ bw := bwi 778 (by decide +kernel) (by decide +kernel)
theorem bw_739 : (Cond.code ⟨"BoardStoreModel", "reopen", "()I"⟩ prog_6_method_34_code 1 (some .int)) ∈ bw := bwi 779 (by decide +kernel) (by decide +kernel)
theorem bw_740 : (Cond.arrayClass .long) ∈ bw := bwi 780 (by decide +kernel) (by decide +kernel)
theorem bw_741 : (Cond.sameMethod "java/lang/Throwable" "java/lang/Throwable" "fillInStackTrace" "(I)Ljava/lang/Throwable;") ∈ bw := bwi 781 (by decide +kernel) (by decide +kernel)
end
section
theorem in_L : ∀ w ∈ u_ws "BoardStore$Log" F_L 2, w ∈ bw := by decide +kernel
theorem cl_L : bCl bcl 0 "BoardStore$Log" F_L 2 t_L := ⟨rfl, in_L, t_L_ok, n_L⟩
theorem in_K : ∀ w ∈ u_ws "BoardStore$Marks" F_K 1, w ∈ bw := by decide +kernel
theorem cl_K : bCl bcl 1 "BoardStore$Marks" F_K 1 t_K := ⟨rfl, in_K, t_K_ok, n_K⟩
theorem in_P : ∀ w ∈ u_ws "BoardStore$Pieces" F_P 4, w ∈ bw := by decide +kernel
theorem cl_P : bCl bcl 2 "BoardStore$Pieces" F_P 4 t_P := ⟨rfl, in_P, t_P_ok, n_P⟩
theorem in_S : ∀ w ∈ u_ws "BoardStore" F_S 9, w ∈ bw := by decide +kernel
theorem cl_S : bCl bcl 3 "BoardStore" F_S 9 t_S := ⟨rfl, in_S, t_S_ok, n_S⟩
theorem in_M : ∀ w ∈ u_ws "BoardStoreModel" F_M 21, w ∈ bw := by decide +kernel
theorem cl_M : bCl bcl 4 "BoardStoreModel" F_M 21 t_M := ⟨rfl, in_M, t_M_ok, n_M⟩
theorem m_S_init : bMd y_S_init b_S_init 2 none [] 1 := ⟨Or.inl ⟨bw_17, rfl⟩, bw_1, by decide +kernel, by decide +kernel⟩
theorem m_S_feed : bMd y_S_feed b_S_feed 2 (some .boolean) [] 1 := ⟨Or.inl ⟨bw_111, rfl⟩, bw_1, by decide +kernel, by decide +kernel⟩
theorem m_S_block : bMd y_S_block b_S_block 2 (some .int) [] 0 := ⟨Or.inl ⟨bw_202, rfl⟩, bw_1, by decide +kernel, by decide +kernel⟩
theorem m_S_version : bMd y_S_version b_S_version 1 (some .int) [] 0 := ⟨Or.inl ⟨bw_275, rfl⟩, bw_1, by decide +kernel, by decide +kernel⟩
theorem m_S_holds : bMd y_S_holds b_S_holds 3 (some .boolean) [] 2 := ⟨Or.inl ⟨bw_283, rfl⟩, bw_1, by decide +kernel, by decide +kernel⟩
theorem m_S_root : bMd y_S_root b_S_root 6 (some .int) [] 1 := ⟨Or.inl ⟨bw_329, rfl⟩, bw_1, by decide +kernel, by decide +kernel⟩
theorem m_S_sweep : bMd y_S_sweep b_S_sweep 1 (some .int) [] 0 := ⟨Or.inl ⟨bw_345, rfl⟩, bw_1, by decide +kernel, by decide +kernel⟩
theorem m_S_pack : bMd y_S_pack b_S_pack 3 (some .int) [] 0 := ⟨Or.inl ⟨bw_368, rfl⟩, bw_1, by decide +kernel, by decide +kernel⟩
theorem m_S_byteAt : bMd y_S_byteAt b_S_byteAt 3 (some .int) [] 2 := ⟨Or.inl ⟨bw_395, rfl⟩, bw_1, by decide +kernel, by decide +kernel⟩
theorem m_S_crash : bMd y_S_crash b_S_crash 3 (some .boolean) [] 1 := ⟨Or.inl ⟨bw_408, rfl⟩, bw_1, by decide +kernel, by decide +kernel⟩
theorem m_S_reopen : bMd y_S_reopen b_S_reopen 4 (some .int) [] 0 := ⟨Or.inl ⟨bw_451, rfl⟩, bw_1, by decide +kernel, by decide +kernel⟩
theorem m_S_poke : bMd y_S_poke b_S_poke 6 (some .boolean) [] 3 := ⟨Or.inl ⟨bw_485, rfl⟩, bw_1, by decide +kernel, by decide +kernel⟩
theorem m_S_badAt : bMd y_S_badAt b_S_badAt 2 (some .int) [] 0 := ⟨Or.inl ⟨bw_501, rfl⟩, bw_1, by decide +kernel, by decide +kernel⟩
theorem m_S_packByte : bMd y_S_packByte b_S_packByte 3 (some .int) [] 2 := ⟨Or.inl ⟨bw_512, rfl⟩, bw_1, by decide +kernel, by decide +kernel⟩
theorem m_S_digest : bMd y_S_digest b_S_digest 3 (some .int) [] 2 := ⟨Or.inl ⟨bw_519, rfl⟩, bw_1, by decide +kernel, by decide +kernel⟩
theorem m_S_out : bMd y_S_out b_S_out 7 (some .int) [] 2 := ⟨Or.inl ⟨bw_531, rfl⟩, bw_1, by decide +kernel, by decide +kernel⟩
theorem m_S_drop : bMd y_S_drop b_S_drop 2 (some .boolean) [] 1 := ⟨Or.inl ⟨bw_538, rfl⟩, bw_1, by decide +kernel, by decide +kernel⟩
theorem m_S_requireRunning : bMd y_S_requireRunning b_S_requireRunning 1 none [] 0 := ⟨Or.inl ⟨bw_115, rfl⟩, bw_1, by decide +kernel, by decide +kernel⟩
theorem m_S_requireCrashed : bMd y_S_requireCrashed b_S_requireCrashed 1 none [] 0 := ⟨Or.inl ⟨bw_455, rfl⟩, bw_1, by decide +kernel, by decide +kernel⟩
theorem m_S_requireVersion : bMd y_S_requireVersion b_S_requireVersion 2 none [] 1 := ⟨Or.inl ⟨bw_287, rfl⟩, bw_1, by decide +kernel, by decide +kernel⟩
theorem m_S_requireBlock : bMd y_S_requireBlock b_S_requireBlock 2 none [] 1 := ⟨Or.inl ⟨bw_311, rfl⟩, bw_1, by decide +kernel, by decide +kernel⟩
theorem m_S_requireByteOfPack : bMd y_S_requireByteOfPack b_S_requireByteOfPack 3 none [] 2 := ⟨Or.inl ⟨bw_489, rfl⟩, bw_1, by decide +kernel, by decide +kernel⟩
theorem m_S_requireByteOfSum : bMd y_S_requireByteOfSum b_S_requireByteOfSum 2 none [] 1 := ⟨Or.inl ⟨bw_523, rfl⟩, bw_1, by decide +kernel, by decide +kernel⟩
theorem m_S_requireNotNegative : bMd y_S_requireNotNegative b_S_requireNotNegative 2 none [] 1 := ⟨Or.inl ⟨bw_399, rfl⟩, bw_1, by decide +kernel, by decide +kernel⟩
theorem m_S_requireKeepable : bMd y_S_requireKeepable b_S_requireKeepable 2 none [] 1 := ⟨Or.inl ⟨bw_412, rfl⟩, bw_1, by decide +kernel, by decide +kernel⟩
theorem m_S_equalOfFed : bMd y_S_equalOfFed b_S_equalOfFed 2 (some .int) [] 0 := ⟨Or.inl ⟨bw_206, rfl⟩, bw_1, by decide +kernel, by decide +kernel⟩
theorem m_S_takeNewBlock : bMd y_S_takeNewBlock b_S_takeNewBlock 3 (some .int) [] 0 := ⟨Or.inl ⟨bw_231, rfl⟩, bw_1, by decide +kernel, by decide +kernel⟩
theorem m_S_takeOldBlock : bMd y_S_takeOldBlock b_S_takeOldBlock 2 (some .int) [] 1 := ⟨Or.inl ⟨bw_264, rfl⟩, bw_1, by decide +kernel, by decide +kernel⟩
theorem m_S_closeFed : bMd y_S_closeFed b_S_closeFed 2 (some .int) [] 0 := ⟨Or.inl ⟨bw_252, rfl⟩, bw_1, by decide +kernel, by decide +kernel⟩
theorem m_S_removeUnheldBlocks : bMd y_S_removeUnheldBlocks b_S_removeUnheldBlocks 3 (some .int) [] 0 := ⟨Or.inl ⟨bw_349, rfl⟩, bw_1, by decide +kernel, by decide +kernel⟩
theorem m_S_markHeldBlocks : bMd y_S_markHeldBlocks b_S_markHeldBlocks 4 none [] 0 := ⟨Or.inl ⟨bw_353, rfl⟩, bw_1, by decide +kernel, by decide +kernel⟩
theorem m_S_hasBlock : bMd y_S_hasBlock b_S_hasBlock 5 (some .boolean) [] 2 := ⟨Or.inl ⟨bw_316, rfl⟩, bw_1, by decide +kernel, by decide +kernel⟩
theorem m_S_lengthOfVersion : bMd y_S_lengthOfVersion b_S_lengthOfVersion 2 (some .int) [] 1 := ⟨Or.inl ⟨bw_320, rfl⟩, bw_1, by decide +kernel, by decide +kernel⟩
theorem m_S_isUnpacked : bMd y_S_isUnpacked b_S_isUnpacked 2 (some .boolean) [] 1 := ⟨Or.inl ⟨bw_376, rfl⟩, bw_1, by decide +kernel, by decide +kernel⟩
theorem m_S_countUnpacked : bMd y_S_countUnpacked b_S_countUnpacked 3 (some .int) [] 0 := ⟨Or.inl ⟨bw_372, rfl⟩, bw_1, by decide +kernel, by decide +kernel⟩
theorem m_S_addToOpenPack : bMd y_S_addToOpenPack b_S_addToOpenPack 4 none [] 1 := ⟨Or.inl ⟨bw_380, rfl⟩, bw_1, by decide +kernel, by decide +kernel⟩
theorem m_S_closePack : bMd y_S_closePack b_S_closePack 3 none [] 0 := ⟨Or.inl ⟨bw_384, rfl⟩, bw_1, by decide +kernel, by decide +kernel⟩
theorem m_S_isBad : bMd y_S_isBad b_S_isBad 5 (some .boolean) [] 1 := ⟨Or.inl ⟨bw_505, rfl⟩, bw_1, by decide +kernel, by decide +kernel⟩
theorem m_S_forgetAllButLog : bMd y_S_forgetAllButLog b_S_forgetAllButLog 1 none [] 0 := ⟨Or.inl ⟨bw_440, rfl⟩, bw_1, by decide +kernel, by decide +kernel⟩
theorem m_S_redo : bMd y_S_redo b_S_redo 2 none [] 1 := ⟨Or.inl ⟨bw_473, rfl⟩, bw_1, by decide +kernel, by decide +kernel⟩
theorem m_S_redoNewBlock : bMd y_S_redoNewBlock b_S_redoNewBlock 4 none [] 1 := ⟨Or.inl ⟨bw_478, rfl⟩, bw_1, by decide +kernel, by decide +kernel⟩
theorem m_S_nextSum : bMd y_S_nextSum b_S_nextSum 3 (some .int) [] 2 := ⟨Or.inl ⟨bw_337, rfl⟩, bw_1, by decide +kernel, by decide +kernel⟩
theorem m_S_byteOfSum : bMd y_S_byteOfSum b_S_byteOfSum 2 (some .int) [] 2 := ⟨Or.inl ⟨bw_387, rfl⟩, bw_1, by decide +kernel, by decide +kernel⟩
theorem m_M_init : bMd y_M_init b_M_init 2 none [] 1 := ⟨Or.inl ⟨bw_543, rfl⟩, bw_6, by decide +kernel, by decide +kernel⟩
theorem m_M_thrown : bMd y_M_thrown b_M_thrown 1 (some .int) [] 0 := ⟨Or.inl ⟨bw_612, rfl⟩, bw_6, by decide +kernel, by decide +kernel⟩
theorem m_M_append : bMd y_M_append b_M_append 2 none [] 1 := ⟨Or.inl ⟨bw_636, rfl⟩, bw_6, by decide +kernel, by decide +kernel⟩
theorem m_M_isHeld : bMd y_M_isHeld b_M_isHeld 5 (some .boolean) [] 1 := ⟨Or.inl ⟨bw_644, rfl⟩, bw_6, by decide +kernel, by decide +kernel⟩
theorem m_M_sweepAll : bMd y_M_sweepAll b_M_sweepAll 2 none [] 0 := ⟨Or.inl ⟨bw_640, rfl⟩, bw_6, by decide +kernel, by decide +kernel⟩
theorem m_M_sizeOf : bMd y_M_sizeOf b_M_sizeOf 3 (some .int) [] 1 := ⟨Or.inl ⟨bw_628, rfl⟩, bw_6, by decide +kernel, by decide +kernel⟩
theorem m_M_act : bMd y_M_act b_M_act 3 none [] 1 := ⟨Or.inl ⟨bw_632, rfl⟩, bw_6, by decide +kernel, by decide +kernel⟩
theorem m_M_walk : bMd y_M_walk b_M_walk 1 none [] 0 := ⟨Or.inl ⟨bw_624, rfl⟩, bw_6, by decide +kernel, by decide +kernel⟩
theorem m_M_isReady : bMd y_M_isReady b_M_isReady 2 (some .boolean) [] 1 := ⟨Or.inl ⟨bw_620, rfl⟩, bw_6, by decide +kernel, by decide +kernel⟩
theorem m_M_write : bMd y_M_write b_M_write 2 none [] 1 := ⟨Or.inl ⟨bw_659, rfl⟩, bw_6, by decide +kernel, by decide +kernel⟩
theorem m_M_isByte : bMd y_M_isByte b_M_isByte 1 (some .boolean) [] 1 := ⟨Or.inl ⟨bw_647, rfl⟩, bw_6, by decide +kernel, by decide +kernel⟩
theorem m_M_feed : bMd y_M_feed b_M_feed 2 (some .boolean) [] 1 := ⟨Or.inl ⟨bw_616, rfl⟩, bw_6, by decide +kernel, by decide +kernel⟩
theorem m_M_isFood : bMd y_M_isFood b_M_isFood 4 (some .boolean) [] 1 := ⟨Or.inl ⟨bw_655, rfl⟩, bw_6, by decide +kernel, by decide +kernel⟩
theorem m_M_block : bMd y_M_block b_M_block 5 (some .int) [] 0 := ⟨Or.inl ⟨bw_651, rfl⟩, bw_6, by decide +kernel, by decide +kernel⟩
theorem m_M_version : bMd y_M_version b_M_version 1 (some .int) [] 0 := ⟨Or.inl ⟨bw_663, rfl⟩, bw_6, by decide +kernel, by decide +kernel⟩
theorem m_M_sweep : bMd y_M_sweep b_M_sweep 2 (some .int) [] 0 := ⟨Or.inl ⟨bw_667, rfl⟩, bw_6, by decide +kernel, by decide +kernel⟩
theorem m_M_isVersion : bMd y_M_isVersion b_M_isVersion 2 (some .boolean) [] 1 := ⟨Or.inl ⟨bw_675, rfl⟩, bw_6, by decide +kernel, by decide +kernel⟩
theorem m_M_isBlock : bMd y_M_isBlock b_M_isBlock 2 (some .boolean) [] 1 := ⟨Or.inl ⟨bw_683, rfl⟩, bw_6, by decide +kernel, by decide +kernel⟩
theorem m_M_drop : bMd y_M_drop b_M_drop 2 (some .boolean) [] 1 := ⟨Or.inl ⟨bw_671, rfl⟩, bw_6, by decide +kernel, by decide +kernel⟩
theorem m_M_holds : bMd y_M_holds b_M_holds 5 (some .boolean) [] 2 := ⟨Or.inl ⟨bw_679, rfl⟩, bw_6, by decide +kernel, by decide +kernel⟩
theorem m_M_next : bMd y_M_next b_M_next 3 (some .int) [] 2 := ⟨Or.inl ⟨bw_690, rfl⟩, bw_6, by decide +kernel, by decide +kernel⟩
theorem m_M_root : bMd y_M_root b_M_root 6 (some .int) [] 1 := ⟨Or.inl ⟨bw_687, rfl⟩, bw_6, by decide +kernel, by decide +kernel⟩
theorem m_M_out : bMd y_M_out b_M_out 6 (some .int) [] 2 := ⟨Or.inl ⟨bw_695, rfl⟩, bw_6, by decide +kernel, by decide +kernel⟩
theorem m_M_byteAt : bMd y_M_byteAt b_M_byteAt 3 (some .int) [] 2 := ⟨Or.inl ⟨bw_699, rfl⟩, bw_6, by decide +kernel, by decide +kernel⟩
theorem m_M_digest : bMd y_M_digest b_M_digest 5 (some .int) [] 2 := ⟨Or.inl ⟨bw_703, rfl⟩, bw_6, by decide +kernel, by decide +kernel⟩
theorem m_M_put : bMd y_M_put b_M_put 2 none [] 1 := ⟨Or.inl ⟨bw_711, rfl⟩, bw_6, by decide +kernel, by decide +kernel⟩
theorem m_M_sumOf : bMd y_M_sumOf b_M_sumOf 4 (some .int) [] 1 := ⟨Or.inl ⟨bw_715, rfl⟩, bw_6, by decide +kernel, by decide +kernel⟩
theorem m_M_pack : bMd y_M_pack b_M_pack 4 (some .int) [] 0 := ⟨Or.inl ⟨bw_707, rfl⟩, bw_6, by decide +kernel, by decide +kernel⟩
theorem m_M_isPackByte : bMd y_M_isPackByte b_M_isPackByte 3 (some .boolean) [] 2 := ⟨Or.inl ⟨bw_723, rfl⟩, bw_6, by decide +kernel, by decide +kernel⟩
theorem m_M_packByte : bMd y_M_packByte b_M_packByte 3 (some .int) [] 2 := ⟨Or.inl ⟨bw_719, rfl⟩, bw_6, by decide +kernel, by decide +kernel⟩
theorem m_M_poke : bMd y_M_poke b_M_poke 4 (some .boolean) [] 3 := ⟨Or.inl ⟨bw_727, rfl⟩, bw_6, by decide +kernel, by decide +kernel⟩
theorem m_M_badAt : bMd y_M_badAt b_M_badAt 4 (some .int) [] 0 := ⟨Or.inl ⟨bw_731, rfl⟩, bw_6, by decide +kernel, by decide +kernel⟩
theorem m_M_crash : bMd y_M_crash b_M_crash 4 (some .boolean) [] 1 := ⟨Or.inl ⟨bw_735, rfl⟩, bw_6, by decide +kernel, by decide +kernel⟩
theorem m_M_reopen : bMd y_M_reopen b_M_reopen 1 (some .int) [] 0 := ⟨Or.inl ⟨bw_739, rfl⟩, bw_6, by decide +kernel, by decide +kernel⟩
theorem m_L_init : bMd y_L_init b_L_init 1 none [] 0 := ⟨Or.inl ⟨bw_25, rfl⟩, bw_2, by decide +kernel, by decide +kernel⟩
theorem m_L_length : bMd y_L_length b_L_length 1 (some .int) [] 0 := ⟨Or.inl ⟨bw_416, rfl⟩, bw_2, by decide +kernel, by decide +kernel⟩
theorem m_L_hasRoom : bMd y_L_hasRoom b_L_hasRoom 2 (some .boolean) [] 1 := ⟨Or.inl ⟨bw_243, rfl⟩, bw_2, by decide +kernel, by decide +kernel⟩
theorem m_L_add : bMd y_L_add b_L_add 2 none [] 1 := ⟨Or.inl ⟨bw_247, rfl⟩, bw_2, by decide +kernel, by decide +kernel⟩
theorem m_L_at : bMd y_L_at b_L_at 2 (some .int) [] 1 := ⟨Or.inl ⟨bw_468, rfl⟩, bw_2, by decide +kernel, by decide +kernel⟩
theorem m_L_cutTo : bMd y_L_cutTo b_L_cutTo 2 none [] 1 := ⟨Or.inl ⟨bw_436, rfl⟩, bw_2, by decide +kernel, by decide +kernel⟩
theorem m_L_lengthOfRecord : bMd y_L_lengthOfRecord b_L_lengthOfRecord 3 (some .int) [] 1 := ⟨Or.inl ⟨bw_460, rfl⟩, bw_2, by decide +kernel, by decide +kernel⟩
theorem m_L_lengthByKind : bMd y_L_lengthByKind b_L_lengthByKind 2 (some .int) [] 1 := ⟨Or.inl ⟨bw_464, rfl⟩, bw_2, by decide +kernel, by decide +kernel⟩
theorem m_K_init : bMd y_K_init b_K_init 2 none [] 1 := ⟨Or.inl ⟨bw_61, rfl⟩, bw_5, by decide +kernel, by decide +kernel⟩
theorem m_K_isOn : bMd y_K_isOn b_K_isOn 2 (some .boolean) [] 1 := ⟨Or.inl ⟨bw_214, rfl⟩, bw_5, by decide +kernel, by decide +kernel⟩
theorem m_K_turnOn : bMd y_K_turnOn b_K_turnOn 2 none [] 1 := ⟨Or.inl ⟨bw_260, rfl⟩, bw_5, by decide +kernel, by decide +kernel⟩
theorem m_K_turnOff : bMd y_K_turnOff b_K_turnOff 2 none [] 1 := ⟨Or.inl ⟨bw_361, rfl⟩, bw_5, by decide +kernel, by decide +kernel⟩
theorem m_K_clear : bMd y_K_clear b_K_clear 2 none [] 0 := ⟨Or.inl ⟨bw_357, rfl⟩, bw_5, by decide +kernel, by decide +kernel⟩
theorem m_P_init : bMd y_P_init b_P_init 3 none [] 2 := ⟨Or.inl ⟨bw_39, rfl⟩, bw_3, by decide +kernel, by decide +kernel⟩
theorem m_P_count : bMd y_P_count b_P_count 1 (some .int) [] 0 := ⟨Or.inl ⟨bw_210, rfl⟩, bw_3, by decide +kernel, by decide +kernel⟩
theorem m_P_stillFree : bMd y_P_stillFree b_P_stillFree 1 (some .int) [] 0 := ⟨Or.inl ⟨bw_239, rfl⟩, bw_3, by decide +kernel, by decide +kernel⟩
theorem m_P_isFull : bMd y_P_isFull b_P_isFull 1 (some .boolean) [] 0 := ⟨Or.inl ⟨bw_235, rfl⟩, bw_3, by decide +kernel, by decide +kernel⟩
theorem m_P_has : bMd y_P_has b_P_has 2 (some .boolean) [] 1 := ⟨Or.inl ⟨bw_291, rfl⟩, bw_3, by decide +kernel, by decide +kernel⟩
theorem m_P_length : bMd y_P_length b_P_length 3 (some .int) [] 1 := ⟨Or.inl ⟨bw_191, rfl⟩, bw_3, by decide +kernel, by decide +kernel⟩
theorem m_P_at : bMd y_P_at b_P_at 4 (some .int) [] 2 := ⟨Or.inl ⟨bw_223, rfl⟩, bw_3, by decide +kernel, by decide +kernel⟩
theorem m_P_put : bMd y_P_put b_P_put 5 none [] 3 := ⟨Or.inl ⟨bw_494, rfl⟩, bw_3, by decide +kernel, by decide +kernel⟩
theorem m_P_openLength : bMd y_P_openLength b_P_openLength 1 (some .int) [] 0 := ⟨Or.inl ⟨bw_187, rfl⟩, bw_3, by decide +kernel, by decide +kernel⟩
theorem m_P_openAt : bMd y_P_openAt b_P_openAt 2 (some .int) [] 1 := ⟨Or.inl ⟨bw_227, rfl⟩, bw_3, by decide +kernel, by decide +kernel⟩
theorem m_P_add : bMd y_P_add b_P_add 2 none [] 1 := ⟨Or.inl ⟨bw_195, rfl⟩, bw_3, by decide +kernel, by decide +kernel⟩
theorem m_P_close : bMd y_P_close b_P_close 1 (some .int) [] 0 := ⟨Or.inl ⟨bw_256, rfl⟩, bw_3, by decide +kernel, by decide +kernel⟩
theorem m_P_clearOpen : bMd y_P_clearOpen b_P_clearOpen 1 none [] 0 := ⟨Or.inl ⟨bw_268, rfl⟩, bw_3, by decide +kernel, by decide +kernel⟩
theorem m_P_clear : bMd y_P_clear b_P_clear 1 none [] 0 := ⟨Or.inl ⟨bw_444, rfl⟩, bw_3, by decide +kernel, by decide +kernel⟩
theorem m_P_equalsOpen : bMd y_P_equalsOpen b_P_equalsOpen 4 (some .boolean) [] 1 := ⟨Or.inl ⟨bw_218, rfl⟩, bw_3, by decide +kernel, by decide +kernel⟩
theorem m_P_sum : bMd y_P_sum b_P_sum 7 (some .int) [] 3 := ⟨Or.inl ⟨bw_333, rfl⟩, bw_3, by decide +kernel, by decide +kernel⟩
theorem m_W_cell : bMd y_W_cell b_W_cell 2 (some .int) [] 2 := ⟨Or.inl ⟨bw_103, rfl⟩, bw_0, by decide +kernel, by decide +kernel⟩
theorem m_W_feed : bMd y_W_feed b_W_feed 4 (some .int) [(0, (16), (19), (13))] 3 := ⟨Or.inr bw_106, bw_0, by decide +kernel, by decide +kernel⟩
theorem m_W_block : bMd y_W_block b_W_block 3 (some .int) [(0, (8), (11), (13))] 2 := ⟨Or.inr bw_198, bw_0, by decide +kernel, by decide +kernel⟩
theorem m_W_version : bMd y_W_version b_W_version 3 (some .int) [(0, (8), (11), (13))] 2 := ⟨Or.inr bw_271, bw_0, by decide +kernel, by decide +kernel⟩
theorem m_W_holds : bMd y_W_holds b_W_holds 5 (some .int) [(0, (17), (20), (26)), (0, (17), (24), (13))] 4 := ⟨Or.inr bw_278, bw_0, by decide +kernel, by decide +kernel⟩
theorem m_W_root : bMd y_W_root b_W_root 4 (some .int) [(0, (9), (12), (26)), (0, (9), (15), (13))] 3 := ⟨Or.inr bw_325, bw_0, by decide +kernel, by decide +kernel⟩
theorem m_W_sweep : bMd y_W_sweep b_W_sweep 3 (some .int) [(0, (8), (11), (13))] 2 := ⟨Or.inr bw_341, bw_0, by decide +kernel, by decide +kernel⟩
theorem m_W_pack : bMd y_W_pack b_W_pack 3 (some .int) [(0, (8), (11), (13))] 2 := ⟨Or.inr bw_364, bw_0, by decide +kernel, by decide +kernel⟩
theorem m_W_byteAt : bMd y_W_byteAt b_W_byteAt 5 (some .int) [(0, (10), (13), (26)), (0, (10), (17), (13))] 4 := ⟨Or.inr bw_391, bw_0, by decide +kernel, by decide +kernel⟩
theorem m_W_crash : bMd y_W_crash b_W_crash 4 (some .int) [(0, (16), (19), (45)), (0, (16), (22), (13))] 3 := ⟨Or.inr bw_403, bw_0, by decide +kernel, by decide +kernel⟩
theorem m_W_reopen : bMd y_W_reopen b_W_reopen 3 (some .int) [(0, (8), (11), (13))] 2 := ⟨Or.inr bw_447, bw_0, by decide +kernel, by decide +kernel⟩
theorem m_W_poke : bMd y_W_poke b_W_poke 6 (some .int) [(0, (19), (22), (26)), (0, (19), (26), (13))] 5 := ⟨Or.inr bw_481, bw_0, by decide +kernel, by decide +kernel⟩
theorem m_W_badAt : bMd y_W_badAt b_W_badAt 3 (some .int) [(0, (8), (11), (13))] 2 := ⟨Or.inr bw_497, bw_0, by decide +kernel, by decide +kernel⟩
theorem m_W_packByte : bMd y_W_packByte b_W_packByte 5 (some .int) [(0, (10), (13), (26)), (0, (10), (17), (13))] 4 := ⟨Or.inr bw_508, bw_0, by decide +kernel, by decide +kernel⟩
theorem m_W_digest : bMd y_W_digest b_W_digest 5 (some .int) [(0, (10), (13), (26)), (0, (10), (17), (13))] 4 := ⟨Or.inr bw_515, bw_0, by decide +kernel, by decide +kernel⟩
theorem m_W_out : bMd y_W_out b_W_out 5 (some .int) [(0, (10), (13), (26)), (0, (10), (17), (13))] 4 := ⟨Or.inr bw_527, bw_0, by decide +kernel, by decide +kernel⟩
theorem m_W_drop : bMd y_W_drop b_W_drop 4 (some .int) [(0, (16), (19), (26)), (0, (16), (22), (13))] 3 := ⟨Or.inr bw_534, bw_0, by decide +kernel, by decide +kernel⟩
end
section
/-! ===== numbered pieces of one row of numbers: the cells (items, starts, size, count) and what they stand for (how many, each one's length, its numbers; the last one is open) ===== -/
def fup (f : Nat → Nat) (k v : Nat) : Nat → Nat := fun j => if j = k then v else f j
def fup2 (g : Nat → Nat → Nat) (a b v : Nat) : Nat → Nat → Nat := fun j i => if j = a ∧ i = b then v else g j i
theorem fup_s {f : Nat → Nat} {k v : Nat} : fup f k v k = v := if_pos rfl
theorem fup_n {f : Nat → Nat} {k v j : Nat} (h : j ≠ k) : fup f k v j = f j := if_neg h
theorem fup2_s {g : Nat → Nat → Nat} {a b v : Nat} : fup2 g a b v a b = v := if_pos ⟨rfl, rfl⟩
theorem fup2_n {g : Nat → Nat → Nat} {a b v j i : Nat} (h : ¬ (j = a ∧ i = b)) : fup2 g a b v j i = g j i := if_neg h
def pcS (pl : Nat → Nat) : Nat → Nat
  | 0 => 0
  | j + 1 => pcS pl j + pl j
theorem pcS_congr {pl pl' : Nat → Nat} : ∀ n, (∀ j, j < n → pl j = pl' j) → pcS pl n = pcS pl' n := by
  intro n
  induction n with
  | zero => intro _; rfl
  | succ n ih =>
    intro h
    show pcS pl n + pl n = pcS pl' n + pl' n
    rw [ih (fun j hj => h j (by omega)), h n (by omega)]
theorem pcS_mono {pl : Nat → Nat} {a b : Nat} (h : a ≤ b) : pcS pl a ≤ pcS pl b := by
  induction b with
  | zero => rw [Nat.le_zero.mp h]; exact Nat.le_refl _
  | succ b ih =>
    rcases Nat.lt_or_ge a (b + 1) with q | q
    · exact Nat.le_trans (ih (by omega)) (Nat.le_add_right _ _)
    · rw [show a = b + 1 by omega]; exact Nat.le_refl _
theorem pcS_lt {pl : Nat → Nat} {ct j i : Nat} (hj : j ≤ ct) (hi : i < pl j) : pcS pl j + i < pcS pl (ct + 1) := by
  have h1 : pcS pl (j + 1) ≤ pcS pl (ct + 1) := pcS_mono (by omega)
  have h2 : pcS pl (j + 1) = pcS pl j + pl j := rfl
  omega
theorem pcS_inj {pl : Nat → Nat} {j i j' i' : Nat} (hi : i < pl j) (hi' : i' < pl j') (h : pcS pl j + i = pcS pl j' + i') : j = j' ∧ i = i' := by
  have key : ∀ {a b x y : Nat}, a < b → x < pl a → y < pl b → pcS pl a + x ≠ pcS pl b + y := by
    intro a b x y hab hx hy he
    have h1 : pcS pl (a + 1) ≤ pcS pl b := pcS_mono (by omega)
    have h2 : pcS pl (a + 1) = pcS pl a + pl a := rfl
    omega
  rcases Nat.lt_trichotomy j j' with q | q | q
  · exact absurd h (key q hi hi')
  · subst q; exact ⟨rfl, by omega⟩
  · exact absurd h.symm (key q hi' hi)
abbrev pc_A := Nat × (Nat → Nat) × (Nat → Nat → Nat)
abbrev pc_C := (Nat → Int32) × (Nat → Int32) × Nat × Nat
def pc_R (NI ns : Nat) (P : pc_C) (A : pc_A) : Prop := P.2.2.2 = A.1 ∧ A.1 < ns ∧ ns < 2 ^ 31 ∧ NI < 2 ^ 31 ∧ P.2.2.1 = pcS A.2.1 (A.1 + 1) ∧ P.2.2.1 ≤ NI ∧ (∀ j, j ≤ A.1 → P.2.1 j = nI (pcS A.2.1 j)) ∧ (∀ j i, j ≤ A.1 → i < A.2.1 j → P.1 (pcS A.2.1 j + i) = nI (A.2.2 j i)) ∧ (∀ j i, j ≤ A.1 → i < A.2.1 j → A.2.2 j i < 2 ^ 31)
theorem pc_R_add {NI ns : Nat} {P : pc_C} {A : pc_A} {x : Nat} (h : pc_R NI ns P A) (hx : x < 2 ^ 31) (hr : P.2.2.1 < NI) : pc_R NI ns (upd P.1 P.2.2.1 (nI x), P.2.1, P.2.2.1 + 1, P.2.2.2) (A.1, fup A.2.1 A.1 (A.2.1 A.1 + 1), fup2 A.2.2 A.1 (A.2.1 A.1) x) := by
  obtain ⟨f, st, sz, ct⟩ := P
  obtain ⟨c, pl, pa⟩ := A
  obtain ⟨h1, h2, h3, h4, h5, h6, h7, h8, h9⟩ := h
  dsimp only at *
  subst h1
  have hS : ∀ j, j ≤ ct → pcS (fup pl ct (pl ct + 1)) j = pcS pl j := fun j hj => pcS_congr j (fun i hi => fup_n (by omega))
  have hE : sz = pcS pl ct + pl ct := h5
  unfold pc_R
  dsimp only
  refine ⟨rfl, h2, h3, h4, ?_, hr, fun j hj => by rw [hS j hj]; exact h7 j hj, fun j i hj hi => ?_, fun j i hj hi => ?_⟩
  · show sz + 1 = pcS (fup pl ct (pl ct + 1)) ct + fup pl ct (pl ct + 1) ct
    rw [hS ct (Nat.le_refl _), fup_s]; omega
  · rw [hS j hj]
    by_cases hjc : j = ct
    · subst hjc
      rw [fup_s] at hi
      by_cases hi2 : i = pl j
      · subst hi2
        rw [fup2_s, ← hE]; exact pk_us
      · rw [fup2_n (by omega), pk_un (by omega)]
        exact h8 j i hj (by omega)
    · rw [fup_n hjc] at hi
      rw [fup2_n (by omega)]
      have := pcS_lt hj hi
      rw [pk_un (by omega)]
      exact h8 j i hj hi
  · by_cases hjc : j = ct
    · subst hjc
      rw [fup_s] at hi
      by_cases hi2 : i = pl j
      · subst hi2; rw [fup2_s]; exact hx
      · rw [fup2_n (by omega)]; exact h9 j i hj (by omega)
    · rw [fup_n hjc] at hi
      rw [fup2_n (by omega)]; exact h9 j i hj hi
theorem pc_R_close {NI ns : Nat} {P : pc_C} {A : pc_A} (h : pc_R NI ns P A) (hr : A.1 + 1 < ns) : pc_R NI ns (P.1, upd P.2.1 (P.2.2.2 + 1) (nI P.2.2.1), P.2.2.1, P.2.2.2 + 1) (A.1 + 1, fup A.2.1 (A.1 + 1) 0, A.2.2) := by
  obtain ⟨f, st, sz, ct⟩ := P
  obtain ⟨c, pl, pa⟩ := A
  obtain ⟨h1, h2, h3, h4, h5, h6, h7, h8, h9⟩ := h
  dsimp only at *
  subst h1
  have hS : ∀ j, j ≤ ct + 1 → pcS (fup pl (ct + 1) 0) j = pcS pl j := fun j hj => pcS_congr j (fun i hi => fup_n (by omega))
  unfold pc_R
  dsimp only
  refine ⟨rfl, hr, h3, h4, ?_, h6, fun j hj => ?_, fun j i hj hi => ?_, fun j i hj hi => ?_⟩
  · show sz = pcS (fup pl (ct + 1) 0) (ct + 1) + fup pl (ct + 1) 0 (ct + 1)
    rw [hS (ct + 1) (Nat.le_refl _), fup_s]; exact h5
  · rw [hS j hj]
    by_cases hjc : j = ct + 1
    · subst hjc; rw [pk_us, h5]
    · rw [pk_un hjc]; exact h7 j (by omega)
  · rw [hS j hj]
    by_cases hjc : j = ct + 1
    · subst hjc; rw [fup_s] at hi; omega
    · rw [fup_n hjc] at hi; exact h8 j i (by omega) hi
  · by_cases hjc : j = ct + 1
    · subst hjc; rw [fup_s] at hi; omega
    · rw [fup_n hjc] at hi; exact h9 j i (by omega) hi
theorem pc_R_clearOpen {NI ns : Nat} {P : pc_C} {A : pc_A} (h : pc_R NI ns P A) : pc_R NI ns (P.1, P.2.1, P.2.2.1 - A.2.1 A.1, P.2.2.2) (A.1, fup A.2.1 A.1 0, A.2.2) := by
  obtain ⟨f, st, sz, ct⟩ := P
  obtain ⟨c, pl, pa⟩ := A
  obtain ⟨h1, h2, h3, h4, h5, h6, h7, h8, h9⟩ := h
  dsimp only at *
  subst h1
  have hS : ∀ j, j ≤ ct → pcS (fup pl ct 0) j = pcS pl j := fun j hj => pcS_congr j (fun i hi => fup_n (by omega))
  have hE : sz = pcS pl ct + pl ct := h5
  unfold pc_R
  dsimp only
  refine ⟨rfl, h2, h3, h4, ?_, by omega, fun j hj => by rw [hS j hj]; exact h7 j hj, fun j i hj hi => ?_, fun j i hj hi => ?_⟩
  · show sz - pl ct = pcS (fup pl ct 0) ct + fup pl ct 0 ct
    rw [hS ct (Nat.le_refl _), fup_s]; omega
  · rw [hS j hj]
    by_cases hjc : j = ct
    · subst hjc; rw [fup_s] at hi; omega
    · rw [fup_n hjc] at hi; exact h8 j i hj hi
  · by_cases hjc : j = ct
    · subst hjc; rw [fup_s] at hi; omega
    · rw [fup_n hjc] at hi; exact h9 j i hj hi
theorem pc_R_clear {NI ns : Nat} {P : pc_C} {A : pc_A} (h : pc_R NI ns P A) : pc_R NI ns (P.1, P.2.1, 0, 0) (0, fun _ => 0, A.2.2) := by
  obtain ⟨f, st, sz, ct⟩ := P
  obtain ⟨c, pl, pa⟩ := A
  obtain ⟨h1, h2, h3, h4, h5, h6, h7, h8, h9⟩ := h
  dsimp only at *
  unfold pc_R
  dsimp only
  refine ⟨rfl, by omega, h3, h4, rfl, Nat.zero_le _, fun j hj => ?_, fun j i hj hi => absurd hi (Nat.not_lt_zero _), fun j i hj hi => absurd hi (Nat.not_lt_zero _)⟩
  rw [Nat.le_zero.mp hj]
  exact h7 0 (Nat.zero_le _)
theorem pc_R_put {NI ns : Nat} {P : pc_C} {A : pc_A} {j i x : Nat} (h : pc_R NI ns P A) (hj : j ≤ A.1) (hi : i < A.2.1 j) (hx : x < 2 ^ 31) : pc_R NI ns (upd P.1 (pcS A.2.1 j + i) (nI x), P.2.1, P.2.2.1, P.2.2.2) (A.1, A.2.1, fup2 A.2.2 j i x) := by
  obtain ⟨f, st, sz, ct⟩ := P
  obtain ⟨c, pl, pa⟩ := A
  obtain ⟨h1, h2, h3, h4, h5, h6, h7, h8, h9⟩ := h
  dsimp only at *
  unfold pc_R
  dsimp only
  refine ⟨h1, h2, h3, h4, h5, h6, h7, fun j' i' hj' hi' => ?_, fun j' i' hj' hi' => ?_⟩
  · by_cases hq : j' = j ∧ i' = i
    · obtain ⟨rfl, rfl⟩ := hq
      rw [fup2_s, pk_us]
    · rw [fup2_n hq, pk_un (fun z => hq (pcS_inj hi' hi z))]
      exact h8 j' i' hj' hi'
  · by_cases hq : j' = j ∧ i' = i
    · obtain ⟨rfl, rfl⟩ := hq
      rw [fup2_s]; exact hx
    · rw [fup2_n hq]; exact h9 j' i' hj' hi'
end
section
/-! ===== Pieces: contracts ===== -/
abbrev rmL (f l : Nat) : Room := { frames := f, cells := 0, slots := 0, locals := l }
def pc_at (cI : ClassId) (ws : va_W) (q0 q1 q2 a ai az NI ns : Nat) (P : pc_C) : Prop := ws[q0]? = some (a, .inr (2, [.ref ai, .ref az, .int (nI P.2.2.1), .int (nI P.2.2.2)])) ∧ ws[q1]? = some (ai, .inl (cI, NI, .inl P.1)) ∧ ws[q2]? = some (az, .inl (cI, ns, .inl P.2.1)) ∧ q0 ≠ q1 ∧ q0 ≠ q2 ∧ q1 ≠ q2
/-- the world with the pieces P there instead -/
def pc_put (cI : ClassId) (ws : va_W) (q0 q1 q2 a ai az NI ns : Nat) (P : pc_C) : va_W := ((ws.set q1 (ai, .inl (cI, NI, .inl P.1))).set q2 (az, .inl (cI, ns, .inl P.2.1))).set q0 (a, .inr (2, [.ref ai, .ref az, .int (nI P.2.2.1), .int (nI P.2.2.2)]))
theorem d_P_count_0 : decode b_P_count 0 = .ok (.aload_n 0, 1) := by decide +kernel
theorem d_P_count_1 : decode b_P_count 1 = .ok (.getfield 15, 3) := by decide +kernel
theorem d_P_count_4 : decode b_P_count 4 = .ok (.ireturn, 1) := by decide +kernel
set_option maxRecDepth 20000 in
set_option maxHeartbeats 4000000 in
theorem c_P_count {D : va_G} {cI cZ cJ : ClassId} {ws : va_W} {q0 q1 q2 a ai az NI ns : Nat} {P : pc_C} {A : pc_A} (hW : pc_at cI ws q0 q1 q2 a ai az NI ns P) (hR : pc_R NI ns P A)  : bC D bcl (tys3 cI cZ cJ) y_P_count (rmL 0 0) ws [.ref a] (bI (fun x ws9 => x = nI A.1 ∧ ws9 = ws) bno) := by
  obtain ⟨h0, h1, h2, n01, n02, n12⟩ := hW
  obtain ⟨f, st, sz, ct⟩ := P
  obtain ⟨c, pl, pa⟩ := A
  have hR0 := hR
  obtain ⟨e1, r2, r3, r4, r5, r6, r7, r8, r9⟩ := hR
  dsimp only at *
  subst e1
  have hs5 : pcS pl (ct + 1) = pcS pl ct + pl ct := rfl
  refine bC.of (by decide) m_P_count.1 (Nat.le_of_ble_eq_true rfl) ?_
  intro Γ G E0
  show bV D bcl Γ 1 ws 0 0 0 [(0, .ref a)] []
  refine bV.aload_n G d_P_count_0 rfl ?_
  refine bV.getf G cl_P q0 3 h0 (by decide) bw_47 rfl d_P_count_1 ?_
  exact bV.iretI G E0 rfl rfl (by decide) (by decide) d_P_count_4 ⟨rfl, rfl⟩
theorem d_P_stillFree_0 : decode b_P_stillFree 0 = .ok (.aload_n 0, 1) := by decide +kernel
theorem d_P_stillFree_1 : decode b_P_stillFree 1 = .ok (.getfield 28, 3) := by decide +kernel
theorem d_P_stillFree_4 : decode b_P_stillFree 4 = .ok (.arraylength, 1) := by decide +kernel
theorem d_P_stillFree_5 : decode b_P_stillFree 5 = .ok (.iconst 1, 1) := by decide +kernel
theorem d_P_stillFree_6 : decode b_P_stillFree 6 = .ok (.isub, 1) := by decide +kernel
theorem d_P_stillFree_7 : decode b_P_stillFree 7 = .ok (.aload_n 0, 1) := by decide +kernel
theorem d_P_stillFree_8 : decode b_P_stillFree 8 = .ok (.getfield 15, 3) := by decide +kernel
theorem d_P_stillFree_11 : decode b_P_stillFree 11 = .ok (.isub, 1) := by decide +kernel
theorem d_P_stillFree_12 : decode b_P_stillFree 12 = .ok (.ireturn, 1) := by decide +kernel
set_option maxRecDepth 20000 in
set_option maxHeartbeats 4000000 in
theorem c_P_stillFree {D : va_G} {cI cZ cJ : ClassId} {ws : va_W} {q0 q1 q2 a ai az NI ns : Nat} {P : pc_C} {A : pc_A} (hW : pc_at cI ws q0 q1 q2 a ai az NI ns P) (hR : pc_R NI ns P A)  : bC D bcl (tys3 cI cZ cJ) y_P_stillFree (rmL 0 0) ws [.ref a] (bI (fun x ws9 => x = nI (ns - 1 - A.1) ∧ ws9 = ws) bno) := by
  obtain ⟨h0, h1, h2, n01, n02, n12⟩ := hW
  obtain ⟨f, st, sz, ct⟩ := P
  obtain ⟨c, pl, pa⟩ := A
  have hR0 := hR
  obtain ⟨e1, r2, r3, r4, r5, r6, r7, r8, r9⟩ := hR
  dsimp only at *
  subst e1
  have hs5 : pcS pl (ct + 1) = pcS pl ct + pl ct := rfl
  refine bC.of (by decide) m_P_stillFree.1 (Nat.le_of_ble_eq_true rfl) ?_
  intro Γ G E0
  show bV D bcl Γ 1 ws 0 0 0 [(0, .ref a)] []
  refine bV.aload_n G d_P_stillFree_0 rfl ?_
  refine bV.getf G cl_P q0 1 h0 (by decide) bw_45 rfl d_P_stillFree_1 ?_
  refine bV.alenN G q2 0 h2 rfl d_P_stillFree_4 ?_
  refine bV.iconst (v := nI 1) G d_P_stillFree_5 (by decide) ?_
  refine bV.isubN G d_P_stillFree_6 (by omega) ?_
  refine bV.aload_n G d_P_stillFree_7 rfl ?_
  refine bV.getf G cl_P q0 3 h0 (by decide) bw_47 rfl d_P_stillFree_8 ?_
  refine bV.isubN G d_P_stillFree_11 (by omega) ?_
  exact bV.iretI G E0 rfl rfl (by decide) (by decide) d_P_stillFree_12 ⟨congrArg nI (by omega), rfl⟩
theorem d_P_isFull_0 : decode b_P_isFull 0 = .ok (.aload_n 0, 1) := by decide +kernel
theorem d_P_isFull_1 : decode b_P_isFull 1 = .ok (.invokevirtual 31, 3) := by decide +kernel
theorem d_P_isFull_4 : decode b_P_isFull 4 = .ok (.ifCond .gt 7, 3) := by decide +kernel
theorem d_P_isFull_7 : decode b_P_isFull 7 = .ok (.iconst 1, 1) := by decide +kernel
theorem d_P_isFull_8 : decode b_P_isFull 8 = .ok (.goto 4, 3) := by decide +kernel
theorem d_P_isFull_11 : decode b_P_isFull 11 = .ok (.iconst 0, 1) := by decide +kernel
theorem d_P_isFull_12 : decode b_P_isFull 12 = .ok (.ireturn, 1) := by decide +kernel
set_option maxRecDepth 20000 in
set_option maxHeartbeats 4000000 in
theorem c_P_isFull {D : va_G} {cI cZ cJ : ClassId} {ws : va_W} {q0 q1 q2 a ai az NI ns : Nat} {P : pc_C} {A : pc_A} (hW : pc_at cI ws q0 q1 q2 a ai az NI ns P) (hR : pc_R NI ns P A)  : bC D bcl (tys3 cI cZ cJ) y_P_isFull (rmL 1 20) ws [.ref a] (bI (fun x ws9 => x = bB (decide (A.1 + 1 = ns)) ∧ ws9 = ws) bno) := by
  obtain ⟨h0, h1, h2, n01, n02, n12⟩ := hW
  obtain ⟨f, st, sz, ct⟩ := P
  obtain ⟨c, pl, pa⟩ := A
  have hR0 := hR
  obtain ⟨e1, r2, r3, r4, r5, r6, r7, r8, r9⟩ := hR
  dsimp only at *
  subst e1
  have hs5 : pcS pl (ct + 1) = pcS pl ct + pl ct := rfl
  refine bC.of (by decide) m_P_isFull.1 (Nat.le_of_ble_eq_true rfl) ?_
  intro Γ G E0
  show bV D bcl Γ 1 ws 0 0 0 [(0, .ref a)] []
  refine bV.aload_n G d_P_isFull_0 rfl ?_
  refine bV.callVi G m_P_stillFree bw_237 bw_238 bw_236 (c_P_stillFree (ws := ws) (q1 := q1) (q2 := q2) (NI := NI) (ns := ns) (P := (f, st, sz, ct)) (A := (ct, pl, pa)) ⟨h0, h1, h2, n01, n02, n12⟩ hR0) q0 h0 rfl rfl rfl rfl ⟨by decide, by decide⟩ ⟨by decide, by decide⟩ (Nat.le_of_ble_eq_true rfl) d_P_isFull_1 (fun x9 ws9 h9 => ?_)
  obtain ⟨rfl, h9e⟩ := h9
  rw [h9e]
  try dsimp only
  refine bV.if_gtN (tgt := 11) G d_P_isFull_4 (by decide) (by omega) (fun c4 => ?_) (fun c4 => ?_)
  · refine bV.iconst (v := nI 0) G d_P_isFull_11 (by decide) ?_
    refine bV.topi (x := nI 0) (y := bB false) (by decide) ?_
    exact bV.iretI G E0 rfl (bB_n _) (by decide) (by decide) d_P_isFull_12 ⟨by rw [decide_eq_false (by omega)], rfl⟩
  · refine bV.iconst (v := nI 1) G d_P_isFull_7 (by decide) ?_
    refine bV.goto (tgt := 12) G d_P_isFull_8 (by decide) ?_
    refine bV.topi (x := nI 1) (y := bB true) (by decide) ?_
    exact bV.iretI G E0 rfl (bB_n _) (by decide) (by decide) d_P_isFull_12 ⟨by rw [decide_eq_true (by omega)], rfl⟩
theorem d_P_has_0 : decode b_P_has 0 = .ok (.iload_n 1, 1) := by decide +kernel
theorem d_P_has_1 : decode b_P_has 1 = .ok (.ifCond .lt 15, 3) := by decide +kernel
theorem d_P_has_4 : decode b_P_has 4 = .ok (.iload_n 1, 1) := by decide +kernel
theorem d_P_has_5 : decode b_P_has 5 = .ok (.aload_n 0, 1) := by decide +kernel
theorem d_P_has_6 : decode b_P_has 6 = .ok (.getfield 15, 3) := by decide +kernel
theorem d_P_has_9 : decode b_P_has 9 = .ok (.if_icmp .ge 7, 3) := by decide +kernel
theorem d_P_has_12 : decode b_P_has 12 = .ok (.iconst 1, 1) := by decide +kernel
theorem d_P_has_13 : decode b_P_has 13 = .ok (.goto 4, 3) := by decide +kernel
theorem d_P_has_16 : decode b_P_has 16 = .ok (.iconst 0, 1) := by decide +kernel
theorem d_P_has_17 : decode b_P_has 17 = .ok (.ireturn, 1) := by decide +kernel
set_option maxRecDepth 20000 in
set_option maxHeartbeats 4000000 in
theorem c_P_has {D : va_G} {cI cZ cJ : ClassId} {ws : va_W} {q0 q1 q2 a ai az NI ns : Nat} {P : pc_C} {A : pc_A} (hW : pc_at cI ws q0 q1 q2 a ai az NI ns P) (hR : pc_R NI ns P A) {v : Int32} : bC D bcl (tys3 cI cZ cJ) y_P_has (rmL 0 0) ws [.ref a, .int (v)] (bI (fun x ws9 => x = bB (decide (0 ≤ v ∧ v < nI A.1)) ∧ ws9 = ws) bno) := by
  obtain ⟨h0, h1, h2, n01, n02, n12⟩ := hW
  obtain ⟨f, st, sz, ct⟩ := P
  obtain ⟨c, pl, pa⟩ := A
  have hR0 := hR
  obtain ⟨e1, r2, r3, r4, r5, r6, r7, r8, r9⟩ := hR
  dsimp only at *
  subst e1
  have hs5 : pcS pl (ct + 1) = pcS pl ct + pl ct := rfl
  refine bC.of (by decide) m_P_has.1 (Nat.le_of_ble_eq_true rfl) ?_
  intro Γ G E0
  show bV D bcl Γ 2 ws 0 0 0 [(0, .ref a), (1, .int (v))] []
  refine bV.iload_n G d_P_has_0 rfl ?_
  refine bV.if_lt (tgt := 16) G d_P_has_1 (by decide) (fun c1 => ?_) (fun c1 => ?_)
  · refine bV.iconst (v := nI 0) G d_P_has_16 (by decide) ?_
    refine bV.topi (x := nI 0) (y := bB false) (by decide) ?_
    exact bV.iretI G E0 rfl (bB_n _) (by decide) (by decide) d_P_has_17 ⟨by rw [decide_eq_false (fun z => by first | exact absurd z.1 (Int32.not_le.mpr c1) | exact absurd z.2 (Int32.not_lt.mpr c9))], rfl⟩
  · refine bV.iload_n G d_P_has_4 rfl ?_
    refine bV.aload_n G d_P_has_5 rfl ?_
    refine bV.getf G cl_P q0 3 h0 (by decide) bw_47 rfl d_P_has_6 ?_
    refine bV.icmp_ge (tgt := 16) G d_P_has_9 (by decide) (fun c9 => ?_) (fun c9 => ?_)
    · refine bV.iconst (v := nI 0) G d_P_has_16 (by decide) ?_
      refine bV.topi (x := nI 0) (y := bB false) (by decide) ?_
      exact bV.iretI G E0 rfl (bB_n _) (by decide) (by decide) d_P_has_17 ⟨by rw [decide_eq_false (fun z => by first | exact absurd z.1 (Int32.not_le.mpr c1) | exact absurd z.2 (Int32.not_lt.mpr c9))], rfl⟩
    · refine bV.iconst (v := nI 1) G d_P_has_12 (by decide) ?_
      refine bV.goto (tgt := 17) G d_P_has_13 (by decide) ?_
      refine bV.topi (x := nI 1) (y := bB true) (by decide) ?_
      exact bV.iretI G E0 rfl (bB_n _) (by decide) (by decide) d_P_has_17 ⟨by rw [decide_eq_true ⟨Int32.not_lt.mp c1, Int32.not_le.mp c9⟩], rfl⟩
theorem d_P_length_0 : decode b_P_length 0 = .ok (.iload_n 1, 1) := by decide +kernel
theorem d_P_length_1 : decode b_P_length 1 = .ok (.ifCond .lt 20, 3) := by decide +kernel
theorem d_P_length_4 : decode b_P_length 4 = .ok (.iload_n 1, 1) := by decide +kernel
theorem d_P_length_5 : decode b_P_length 5 = .ok (.aload_n 0, 1) := by decide +kernel
theorem d_P_length_6 : decode b_P_length 6 = .ok (.getfield 15, 3) := by decide +kernel
theorem d_P_length_9 : decode b_P_length 9 = .ok (.if_icmp .gt 12, 3) := by decide +kernel
theorem d_P_length_12 : decode b_P_length 12 = .ok (.iload_n 1, 1) := by decide +kernel
theorem d_P_length_13 : decode b_P_length 13 = .ok (.aload_n 0, 1) := by decide +kernel
theorem d_P_length_14 : decode b_P_length 14 = .ok (.getfield 28, 3) := by decide +kernel
theorem d_P_length_17 : decode b_P_length 17 = .ok (.arraylength, 1) := by decide +kernel
theorem d_P_length_18 : decode b_P_length 18 = .ok (.if_icmp .lt 5, 3) := by decide +kernel
theorem d_P_length_21 : decode b_P_length 21 = .ok (.iconst 0, 1) := by decide +kernel
theorem d_P_length_22 : decode b_P_length 22 = .ok (.ireturn, 1) := by decide +kernel
theorem d_P_length_23 : decode b_P_length 23 = .ok (.iload_n 1, 1) := by decide +kernel
theorem d_P_length_24 : decode b_P_length 24 = .ok (.aload_n 0, 1) := by decide +kernel
theorem d_P_length_25 : decode b_P_length 25 = .ok (.getfield 15, 3) := by decide +kernel
theorem d_P_length_28 : decode b_P_length 28 = .ok (.if_icmp .ge 25, 3) := by decide +kernel
theorem d_P_length_31 : decode b_P_length 31 = .ok (.iload_n 1, 1) := by decide +kernel
theorem d_P_length_32 : decode b_P_length 32 = .ok (.iconst 1, 1) := by decide +kernel
theorem d_P_length_33 : decode b_P_length 33 = .ok (.iadd, 1) := by decide +kernel
theorem d_P_length_34 : decode b_P_length 34 = .ok (.aload_n 0, 1) := by decide +kernel
theorem d_P_length_35 : decode b_P_length 35 = .ok (.getfield 28, 3) := by decide +kernel
theorem d_P_length_38 : decode b_P_length 38 = .ok (.arraylength, 1) := by decide +kernel
theorem d_P_length_39 : decode b_P_length 39 = .ok (.if_icmp .ge 14, 3) := by decide +kernel
theorem d_P_length_42 : decode b_P_length 42 = .ok (.aload_n 0, 1) := by decide +kernel
theorem d_P_length_43 : decode b_P_length 43 = .ok (.getfield 28, 3) := by decide +kernel
theorem d_P_length_46 : decode b_P_length 46 = .ok (.iload_n 1, 1) := by decide +kernel
theorem d_P_length_47 : decode b_P_length 47 = .ok (.iconst 1, 1) := by decide +kernel
theorem d_P_length_48 : decode b_P_length 48 = .ok (.iadd, 1) := by decide +kernel
theorem d_P_length_49 : decode b_P_length 49 = .ok (.iaload, 1) := by decide +kernel
theorem d_P_length_50 : decode b_P_length 50 = .ok (.goto 7, 3) := by decide +kernel
theorem d_P_length_53 : decode b_P_length 53 = .ok (.aload_n 0, 1) := by decide +kernel
theorem d_P_length_54 : decode b_P_length 54 = .ok (.getfield 9, 3) := by decide +kernel
theorem d_P_length_57 : decode b_P_length 57 = .ok (.istore_n 2, 1) := by decide +kernel
theorem d_P_length_58 : decode b_P_length 58 = .ok (.iload_n 2, 1) := by decide +kernel
theorem d_P_length_59 : decode b_P_length 59 = .ok (.aload_n 0, 1) := by decide +kernel
theorem d_P_length_60 : decode b_P_length 60 = .ok (.getfield 28, 3) := by decide +kernel
theorem d_P_length_63 : decode b_P_length 63 = .ok (.iload_n 1, 1) := by decide +kernel
theorem d_P_length_64 : decode b_P_length 64 = .ok (.iaload, 1) := by decide +kernel
theorem d_P_length_65 : decode b_P_length 65 = .ok (.isub, 1) := by decide +kernel
theorem d_P_length_66 : decode b_P_length 66 = .ok (.ireturn, 1) := by decide +kernel
set_option maxRecDepth 20000 in
set_option maxHeartbeats 4000000 in
theorem c_P_length {D : va_G} {cI cZ cJ : ClassId} {ws : va_W} {q0 q1 q2 a ai az NI ns : Nat} {P : pc_C} {A : pc_A} (hW : pc_at cI ws q0 q1 q2 a ai az NI ns P) (hR : pc_R NI ns P A) {j : Nat} (hj : j ≤ A.1) : bC D bcl (tys3 cI cZ cJ) y_P_length (rmL 0 0) ws [.ref a, .int (nI (j))] (bI (fun x ws9 => x = nI (A.2.1 j) ∧ ws9 = ws) bno) := by
  obtain ⟨h0, h1, h2, n01, n02, n12⟩ := hW
  obtain ⟨f, st, sz, ct⟩ := P
  obtain ⟨c, pl, pa⟩ := A
  have hR0 := hR
  obtain ⟨e1, r2, r3, r4, r5, r6, r7, r8, r9⟩ := hR
  dsimp only at *
  subst e1
  have hs5 : pcS pl (ct + 1) = pcS pl ct + pl ct := rfl
  refine bC.of (by decide) m_P_length.1 (Nat.le_of_ble_eq_true rfl) ?_
  intro Γ G E0
  show bV D bcl Γ 3 ws 0 0 0 [(0, .ref a), (1, .int (nI (j)))] []
  have hs6 : pcS pl (j + 1) = pcS pl j + pl j := rfl
  refine bV.iload_n G d_P_length_0 rfl ?_
  refine bV.if_ltN (tgt := 21) G d_P_length_1 (by decide) (by omega) ?_
  refine bV.iload_n G d_P_length_4 rfl ?_
  refine bV.aload_n G d_P_length_5 rfl ?_
  refine bV.getf G cl_P q0 3 h0 (by decide) bw_47 rfl d_P_length_6 ?_
  refine bV.icmp_gtN (tgt := 21) G d_P_length_9 (by decide) (by omega) (by omega) (fun c9 => ?_) (fun c9 => ?_)
  · exfalso; omega
  · refine bV.iload_n G d_P_length_12 rfl ?_
    refine bV.aload_n G d_P_length_13 rfl ?_
    refine bV.getf G cl_P q0 1 h0 (by decide) bw_45 rfl d_P_length_14 ?_
    refine bV.alenN G q2 0 h2 rfl d_P_length_17 ?_
    refine bV.icmp_ltN (tgt := 23) G d_P_length_18 (by decide) (by omega) (by omega) (fun c18 => ?_) (fun c18 => ?_)
    · refine bV.iload_n G d_P_length_23 rfl ?_
      refine bV.aload_n G d_P_length_24 rfl ?_
      refine bV.getf G cl_P q0 3 h0 (by decide) bw_47 rfl d_P_length_25 ?_
      refine bV.icmp_geN (tgt := 53) G d_P_length_28 (by decide) (by omega) (by omega) (fun c28 => ?_) (fun c28 => ?_)
      · obtain rfl : j = ct := by omega
        refine bV.aload_n G d_P_length_53 rfl ?_
        refine bV.getf G cl_P q0 2 h0 (by decide) bw_46 rfl d_P_length_54 ?_
        refine bV.istore_n G (lv' := [(0, .ref a), (1, .int (nI (j))), (2, .int (nI (sz)))]) d_P_length_57 (by decide) rfl rfl ?_
        refine bV.iload_n G d_P_length_58 rfl ?_
        refine bV.aload_n G d_P_length_59 rfl ?_
        refine bV.getf G cl_P q0 1 h0 (by decide) bw_45 rfl d_P_length_60 ?_
        refine bV.iload_n G d_P_length_63 rfl ?_
        refine bV.ialoadN G q2 0 h2 rfl (by omega) (by omega) d_P_length_64 ?_
        refine bV.topi (y := (nI (pcS pl j))) (r7 _ (by omega)) ?_
        refine bV.isubN G d_P_length_65 (by omega) ?_
        exact bV.iretI G E0 rfl rfl (by decide) (by decide) d_P_length_66 ⟨congrArg nI (by omega), rfl⟩
      · refine bV.iload_n G d_P_length_31 rfl ?_
        refine bV.iconst (v := nI 1) G d_P_length_32 (by decide) ?_
        refine bV.iaddN G d_P_length_33 ?_
        refine bV.aload_n G d_P_length_34 rfl ?_
        refine bV.getf G cl_P q0 1 h0 (by decide) bw_45 rfl d_P_length_35 ?_
        refine bV.alenN G q2 0 h2 rfl d_P_length_38 ?_
        refine bV.icmp_geN (tgt := 53) G d_P_length_39 (by decide) (by omega) (by omega) (fun c39 => ?_) (fun c39 => ?_)
        · exfalso; omega
        · refine bV.aload_n G d_P_length_42 rfl ?_
          refine bV.getf G cl_P q0 1 h0 (by decide) bw_45 rfl d_P_length_43 ?_
          refine bV.iload_n G d_P_length_46 rfl ?_
          refine bV.iconst (v := nI 1) G d_P_length_47 (by decide) ?_
          refine bV.iaddN G d_P_length_48 ?_
          refine bV.ialoadN G q2 0 h2 rfl (by omega) (by omega) d_P_length_49 ?_
          refine bV.topi (y := (nI (pcS pl (j + 1)))) (r7 _ (by omega)) ?_
          refine bV.goto (tgt := 57) G d_P_length_50 (by decide) ?_
          refine bV.istore_n G (lv' := [(0, .ref a), (1, .int (nI (j))), (2, .int (nI (pcS pl (j + 1))))]) d_P_length_57 (by decide) rfl rfl ?_
          refine bV.iload_n G d_P_length_58 rfl ?_
          refine bV.aload_n G d_P_length_59 rfl ?_
          refine bV.getf G cl_P q0 1 h0 (by decide) bw_45 rfl d_P_length_60 ?_
          refine bV.iload_n G d_P_length_63 rfl ?_
          refine bV.ialoadN G q2 0 h2 rfl (by omega) (by omega) d_P_length_64 ?_
          refine bV.topi (y := (nI (pcS pl j))) (r7 _ (by omega)) ?_
          refine bV.isubN G d_P_length_65 (by omega) ?_
          exact bV.iretI G E0 rfl rfl (by decide) (by decide) d_P_length_66 ⟨congrArg nI (by omega), rfl⟩
    · exfalso; omega
theorem d_P_openLength_0 : decode b_P_openLength 0 = .ok (.aload_n 0, 1) := by decide +kernel
theorem d_P_openLength_1 : decode b_P_openLength 1 = .ok (.aload_n 0, 1) := by decide +kernel
theorem d_P_openLength_2 : decode b_P_openLength 2 = .ok (.getfield 15, 3) := by decide +kernel
theorem d_P_openLength_5 : decode b_P_openLength 5 = .ok (.invokevirtual 35, 3) := by decide +kernel
theorem d_P_openLength_8 : decode b_P_openLength 8 = .ok (.ireturn, 1) := by decide +kernel
set_option maxRecDepth 20000 in
set_option maxHeartbeats 4000000 in
theorem c_P_openLength {D : va_G} {cI cZ cJ : ClassId} {ws : va_W} {q0 q1 q2 a ai az NI ns : Nat} {P : pc_C} {A : pc_A} (hW : pc_at cI ws q0 q1 q2 a ai az NI ns P) (hR : pc_R NI ns P A)  : bC D bcl (tys3 cI cZ cJ) y_P_openLength (rmL 1 22) ws [.ref a] (bI (fun x ws9 => x = nI (A.2.1 A.1) ∧ ws9 = ws) bno) := by
  obtain ⟨h0, h1, h2, n01, n02, n12⟩ := hW
  obtain ⟨f, st, sz, ct⟩ := P
  obtain ⟨c, pl, pa⟩ := A
  have hR0 := hR
  obtain ⟨e1, r2, r3, r4, r5, r6, r7, r8, r9⟩ := hR
  dsimp only at *
  subst e1
  have hs5 : pcS pl (ct + 1) = pcS pl ct + pl ct := rfl
  refine bC.of (by decide) m_P_openLength.1 (Nat.le_of_ble_eq_true rfl) ?_
  intro Γ G E0
  show bV D bcl Γ 1 ws 0 0 0 [(0, .ref a)] []
  refine bV.aload_n G d_P_openLength_0 rfl ?_
  refine bV.aload_n G d_P_openLength_1 rfl ?_
  refine bV.getf G cl_P q0 3 h0 (by decide) bw_47 rfl d_P_openLength_2 ?_
  refine bV.callVi G m_P_length bw_189 bw_190 bw_188 (c_P_length (ws := ws) (q1 := q1) (q2 := q2) (NI := NI) (ns := ns) (P := (f, st, sz, ct)) (A := (ct, pl, pa)) ⟨h0, h1, h2, n01, n02, n12⟩ hR0 (j := ct) (by first | omega | exact Nat.le_refl _)) q0 h0 rfl rfl rfl rfl ⟨by decide, by decide⟩ ⟨by decide, by decide⟩ (Nat.le_of_ble_eq_true rfl) d_P_openLength_5 (fun x9 ws9 h9 => ?_)
  obtain ⟨rfl, h9e⟩ := h9
  rw [h9e]
  try dsimp only
  exact bV.iretI G E0 rfl rfl (by decide) (by decide) d_P_openLength_8 ⟨rfl, rfl⟩
theorem d_P_at_0 : decode b_P_at 0 = .ok (.iload_n 1, 1) := by decide +kernel
theorem d_P_at_1 : decode b_P_at 1 = .ok (.ifCond .lt 25, 3) := by decide +kernel
theorem d_P_at_4 : decode b_P_at 4 = .ok (.iload_n 1, 1) := by decide +kernel
theorem d_P_at_5 : decode b_P_at 5 = .ok (.aload_n 0, 1) := by decide +kernel
theorem d_P_at_6 : decode b_P_at 6 = .ok (.getfield 28, 3) := by decide +kernel
theorem d_P_at_9 : decode b_P_at 9 = .ok (.arraylength, 1) := by decide +kernel
theorem d_P_at_10 : decode b_P_at 10 = .ok (.if_icmp .ge 16, 3) := by decide +kernel
theorem d_P_at_13 : decode b_P_at 13 = .ok (.iload_n 2, 1) := by decide +kernel
theorem d_P_at_14 : decode b_P_at 14 = .ok (.ifCond .lt 12, 3) := by decide +kernel
theorem d_P_at_17 : decode b_P_at 17 = .ok (.iload_n 2, 1) := by decide +kernel
theorem d_P_at_18 : decode b_P_at 18 = .ok (.aload_n 0, 1) := by decide +kernel
theorem d_P_at_19 : decode b_P_at 19 = .ok (.iload_n 1, 1) := by decide +kernel
theorem d_P_at_20 : decode b_P_at 20 = .ok (.invokevirtual 35, 3) := by decide +kernel
theorem d_P_at_23 : decode b_P_at 23 = .ok (.if_icmp .lt 5, 3) := by decide +kernel
theorem d_P_at_26 : decode b_P_at 26 = .ok (.iconst (-1), 1) := by decide +kernel
theorem d_P_at_27 : decode b_P_at 27 = .ok (.ireturn, 1) := by decide +kernel
theorem d_P_at_28 : decode b_P_at 28 = .ok (.aload_n 0, 1) := by decide +kernel
theorem d_P_at_29 : decode b_P_at 29 = .ok (.getfield 28, 3) := by decide +kernel
theorem d_P_at_32 : decode b_P_at 32 = .ok (.iload_n 1, 1) := by decide +kernel
theorem d_P_at_33 : decode b_P_at 33 = .ok (.iaload, 1) := by decide +kernel
theorem d_P_at_34 : decode b_P_at 34 = .ok (.iload_n 2, 1) := by decide +kernel
theorem d_P_at_35 : decode b_P_at 35 = .ok (.iadd, 1) := by decide +kernel
theorem d_P_at_36 : decode b_P_at 36 = .ok (.istore_n 3, 1) := by decide +kernel
theorem d_P_at_37 : decode b_P_at 37 = .ok (.iload_n 3, 1) := by decide +kernel
theorem d_P_at_38 : decode b_P_at 38 = .ok (.ifCond .lt 21, 3) := by decide +kernel
theorem d_P_at_41 : decode b_P_at 41 = .ok (.iload_n 3, 1) := by decide +kernel
theorem d_P_at_42 : decode b_P_at 42 = .ok (.aload_n 0, 1) := by decide +kernel
theorem d_P_at_43 : decode b_P_at 43 = .ok (.getfield 24, 3) := by decide +kernel
theorem d_P_at_46 : decode b_P_at 46 = .ok (.arraylength, 1) := by decide +kernel
theorem d_P_at_47 : decode b_P_at 47 = .ok (.if_icmp .ge 12, 3) := by decide +kernel
theorem d_P_at_50 : decode b_P_at 50 = .ok (.aload_n 0, 1) := by decide +kernel
theorem d_P_at_51 : decode b_P_at 51 = .ok (.getfield 24, 3) := by decide +kernel
theorem d_P_at_54 : decode b_P_at 54 = .ok (.iload_n 3, 1) := by decide +kernel
theorem d_P_at_55 : decode b_P_at 55 = .ok (.iaload, 1) := by decide +kernel
theorem d_P_at_56 : decode b_P_at 56 = .ok (.goto 4, 3) := by decide +kernel
theorem d_P_at_59 : decode b_P_at 59 = .ok (.iconst (-1), 1) := by decide +kernel
theorem d_P_at_60 : decode b_P_at 60 = .ok (.ireturn, 1) := by decide +kernel
set_option maxRecDepth 20000 in
set_option maxHeartbeats 4000000 in
theorem c_P_at {D : va_G} {cI cZ cJ : ClassId} {ws : va_W} {q0 q1 q2 a ai az NI ns : Nat} {P : pc_C} {A : pc_A} (hW : pc_at cI ws q0 q1 q2 a ai az NI ns P) (hR : pc_R NI ns P A) {j i : Nat} (hj : j ≤ A.1) (hi : i < 2 ^ 31) : bC D bcl (tys3 cI cZ cJ) y_P_at (rmL 1 22) ws [.ref a, .int (nI (j)), .int (nI (i))] (bI (fun x ws9 => x = (if i < A.2.1 j then nI (A.2.2 j i) else (-1)) ∧ ws9 = ws) bno) := by
  obtain ⟨h0, h1, h2, n01, n02, n12⟩ := hW
  obtain ⟨f, st, sz, ct⟩ := P
  obtain ⟨c, pl, pa⟩ := A
  have hR0 := hR
  obtain ⟨e1, r2, r3, r4, r5, r6, r7, r8, r9⟩ := hR
  dsimp only at *
  subst e1
  have hs5 : pcS pl (ct + 1) = pcS pl ct + pl ct := rfl
  refine bC.of (by decide) m_P_at.1 (Nat.le_of_ble_eq_true rfl) ?_
  intro Γ G E0
  show bV D bcl Γ 4 ws 0 0 0 [(0, .ref a), (1, .int (nI (j))), (2, .int (nI (i)))] []
  have hs6 : pcS pl (j + 1) = pcS pl j + pl j := rfl
  have hs7 : pcS pl (j + 1) ≤ pcS pl (ct + 1) := pcS_mono (by omega)
  refine bV.iload_n G d_P_at_0 rfl ?_
  refine bV.if_ltN (tgt := 26) G d_P_at_1 (by decide) (by omega) ?_
  refine bV.iload_n G d_P_at_4 rfl ?_
  refine bV.aload_n G d_P_at_5 rfl ?_
  refine bV.getf G cl_P q0 1 h0 (by decide) bw_45 rfl d_P_at_6 ?_
  refine bV.alenN G q2 0 h2 rfl d_P_at_9 ?_
  refine bV.icmp_geN (tgt := 26) G d_P_at_10 (by decide) (by omega) (by omega) (fun c10 => ?_) (fun c10 => ?_)
  · exfalso; omega
  · refine bV.iload_n G d_P_at_13 rfl ?_
    refine bV.if_ltN (tgt := 26) G d_P_at_14 (by decide) (by omega) ?_
    refine bV.iload_n G d_P_at_17 rfl ?_
    refine bV.aload_n G d_P_at_18 rfl ?_
    refine bV.iload_n G d_P_at_19 rfl ?_
    refine bV.callVi G m_P_length bw_189 bw_190 bw_188 (c_P_length (ws := ws) (q1 := q1) (q2 := q2) (NI := NI) (ns := ns) (P := (f, st, sz, ct)) (A := (ct, pl, pa)) ⟨h0, h1, h2, n01, n02, n12⟩ hR0 (j := j) (by first | omega | exact Nat.le_refl _)) q0 h0 rfl rfl rfl rfl ⟨by decide, by decide⟩ ⟨by decide, by decide⟩ (Nat.le_of_ble_eq_true rfl) d_P_at_20 (fun x9 ws9 h9 => ?_)
    obtain ⟨rfl, h9e⟩ := h9
    rw [h9e]
    try dsimp only
    refine bV.icmp_ltN (tgt := 28) G d_P_at_23 (by decide) (by omega) (by omega) (fun c23 => ?_) (fun c23 => ?_)
    · have hp := pcS_lt (pl := pl) (ct := ct) hj c23
      refine bV.aload_n G d_P_at_28 rfl ?_
      refine bV.getf G cl_P q0 1 h0 (by decide) bw_45 rfl d_P_at_29 ?_
      refine bV.iload_n G d_P_at_32 rfl ?_
      refine bV.ialoadN G q2 0 h2 rfl (by omega) (by omega) d_P_at_33 ?_
      refine bV.topi (y := (nI (pcS pl j))) (r7 _ (by omega)) ?_
      refine bV.iload_n G d_P_at_34 rfl ?_
      refine bV.iaddN G d_P_at_35 ?_
      refine bV.istore_n G (lv' := [(0, .ref a), (1, .int (nI (j))), (2, .int (nI (i))), (3, .int (nI ((pcS pl j) + i)))]) d_P_at_36 (by decide) rfl rfl ?_
      refine bV.iload_n G d_P_at_37 rfl ?_
      refine bV.if_ltN (tgt := 59) G d_P_at_38 (by decide) (by omega) ?_
      refine bV.iload_n G d_P_at_41 rfl ?_
      refine bV.aload_n G d_P_at_42 rfl ?_
      refine bV.getf G cl_P q0 0 h0 (by decide) bw_44 rfl d_P_at_43 ?_
      refine bV.alenN G q1 0 h1 rfl d_P_at_46 ?_
      refine bV.icmp_geN (tgt := 59) G d_P_at_47 (by decide) (by omega) (by omega) (fun c47 => ?_) (fun c47 => ?_)
      · exfalso; omega
      · refine bV.aload_n G d_P_at_50 rfl ?_
        refine bV.getf G cl_P q0 0 h0 (by decide) bw_44 rfl d_P_at_51 ?_
        refine bV.iload_n G d_P_at_54 rfl ?_
        refine bV.ialoadN G q1 0 h1 rfl (by omega) (by omega) d_P_at_55 ?_
        refine bV.topi (y := (nI (pa j i))) (r8 j i (by omega) c23) ?_
        refine bV.goto (tgt := 60) G d_P_at_56 (by decide) ?_
        exact bV.iretI G E0 rfl rfl (by decide) (by decide) d_P_at_60 ⟨(if_pos c23).symm, rfl⟩
    · refine bV.iconst (v := (-1)) G d_P_at_26 (by decide) ?_
      exact bV.iretI G E0 rfl rfl (by decide) (by decide) d_P_at_27 ⟨(if_neg c23).symm, rfl⟩
theorem d_P_openAt_0 : decode b_P_openAt 0 = .ok (.aload_n 0, 1) := by decide +kernel
theorem d_P_openAt_1 : decode b_P_openAt 1 = .ok (.aload_n 0, 1) := by decide +kernel
theorem d_P_openAt_2 : decode b_P_openAt 2 = .ok (.getfield 15, 3) := by decide +kernel
theorem d_P_openAt_5 : decode b_P_openAt 5 = .ok (.iload_n 1, 1) := by decide +kernel
theorem d_P_openAt_6 : decode b_P_openAt 6 = .ok (.invokevirtual 39, 3) := by decide +kernel
theorem d_P_openAt_9 : decode b_P_openAt 9 = .ok (.ireturn, 1) := by decide +kernel
set_option maxRecDepth 20000 in
set_option maxHeartbeats 4000000 in
theorem c_P_openAt {D : va_G} {cI cZ cJ : ClassId} {ws : va_W} {q0 q1 q2 a ai az NI ns : Nat} {P : pc_C} {A : pc_A} (hW : pc_at cI ws q0 q1 q2 a ai az NI ns P) (hR : pc_R NI ns P A) {i : Nat} (hi : i < 2 ^ 31) : bC D bcl (tys3 cI cZ cJ) y_P_openAt (rmL 2 45) ws [.ref a, .int (nI (i))] (bI (fun x ws9 => x = (if i < A.2.1 A.1 then nI (A.2.2 A.1 i) else (-1)) ∧ ws9 = ws) bno) := by
  obtain ⟨h0, h1, h2, n01, n02, n12⟩ := hW
  obtain ⟨f, st, sz, ct⟩ := P
  obtain ⟨c, pl, pa⟩ := A
  have hR0 := hR
  obtain ⟨e1, r2, r3, r4, r5, r6, r7, r8, r9⟩ := hR
  dsimp only at *
  subst e1
  have hs5 : pcS pl (ct + 1) = pcS pl ct + pl ct := rfl
  refine bC.of (by decide) m_P_openAt.1 (Nat.le_of_ble_eq_true rfl) ?_
  intro Γ G E0
  show bV D bcl Γ 2 ws 0 0 0 [(0, .ref a), (1, .int (nI (i)))] []
  refine bV.aload_n G d_P_openAt_0 rfl ?_
  refine bV.aload_n G d_P_openAt_1 rfl ?_
  refine bV.getf G cl_P q0 3 h0 (by decide) bw_47 rfl d_P_openAt_2 ?_
  refine bV.iload_n G d_P_openAt_5 rfl ?_
  refine bV.callVi G m_P_at bw_221 bw_222 bw_220 (c_P_at (ws := ws) (q1 := q1) (q2 := q2) (NI := NI) (ns := ns) (P := (f, st, sz, ct)) (A := (ct, pl, pa)) ⟨h0, h1, h2, n01, n02, n12⟩ hR0 (j := ct) (i := i) (by first | omega | exact Nat.le_refl _) (by omega)) q0 h0 rfl rfl rfl rfl ⟨by decide, by decide⟩ ⟨by decide, by decide⟩ (Nat.le_of_ble_eq_true rfl) d_P_openAt_6 (fun x9 ws9 h9 => ?_)
  obtain ⟨rfl, h9e⟩ := h9
  rw [h9e]
  try dsimp only
  exact bV.iretI G E0 rfl rfl (by decide) (by decide) d_P_openAt_9 ⟨rfl, rfl⟩
end
section
/-! ===== Pieces: what writes, and loops ===== -/
theorem bs_same {ws : va_W} {q : Nat} {z : Nat × va_E} (h : ws[q]? = some z) : ws.set q z = ws := by
  obtain ⟨hl, rfl⟩ := List.getElem?_eq_some_iff.mp h
  exact List.set_getElem_self hl
def nextS (s b : Int32) : Int32 := (((s ^^^ b) <<< ((nI (31)) &&& 31)) ||| ((s ^^^ b).toUInt32 >>> ((nI (1)).toUInt32 &&& Int32.toUInt32 31)).toInt32) * (-1028477387)
def byteS (s : Int32) (i : Nat) : Int32 := ((s).toUInt32 >>> ((nI (24 - 8 * i)).toUInt32 &&& Int32.toUInt32 31)).toInt32 &&& (nI (255))
def sumS (g : Nat → Nat) (s : Int32) : Nat → Int32
  | 0 => s
  | n + 1 => nextS (sumS g s n) (nI (g n))
theorem d_S_nextSum_0 : decode b_S_nextSum 0 = .ok (.iload_n 0, 1) := by decide +kernel
theorem d_S_nextSum_1 : decode b_S_nextSum 1 = .ok (.iload_n 1, 1) := by decide +kernel
theorem d_S_nextSum_2 : decode b_S_nextSum 2 = .ok (.ixor, 1) := by decide +kernel
theorem d_S_nextSum_3 : decode b_S_nextSum 3 = .ok (.istore_n 2, 1) := by decide +kernel
theorem d_S_nextSum_4 : decode b_S_nextSum 4 = .ok (.iload_n 2, 1) := by decide +kernel
theorem d_S_nextSum_5 : decode b_S_nextSum 5 = .ok (.bipush 31, 2) := by decide +kernel
theorem d_S_nextSum_7 : decode b_S_nextSum 7 = .ok (.ishl, 1) := by decide +kernel
theorem d_S_nextSum_8 : decode b_S_nextSum 8 = .ok (.iload_n 2, 1) := by decide +kernel
theorem d_S_nextSum_9 : decode b_S_nextSum 9 = .ok (.iconst 1, 1) := by decide +kernel
theorem d_S_nextSum_10 : decode b_S_nextSum 10 = .ok (.iushr, 1) := by decide +kernel
theorem d_S_nextSum_11 : decode b_S_nextSum 11 = .ok (.ior, 1) := by decide +kernel
theorem d_S_nextSum_12 : decode b_S_nextSum 12 = .ok (.ldc 240, 2) := by decide +kernel
theorem d_S_nextSum_14 : decode b_S_nextSum 14 = .ok (.imul, 1) := by decide +kernel
theorem d_S_nextSum_15 : decode b_S_nextSum 15 = .ok (.ireturn, 1) := by decide +kernel
set_option maxRecDepth 20000 in
set_option maxHeartbeats 4000000 in
theorem c_S_nextSum {D : va_G} {cI cZ cJ : ClassId} {ws : va_W} {s b : Int32} : bC D bcl (tys3 cI cZ cJ) y_S_nextSum (rmL 0 0) ws [.int (s), .int (b)] (bI (fun x ws9 => x = nextS s b ∧ ws9 = ws) bno) := by
  refine bC.of (by decide) m_S_nextSum.1 (Nat.le_of_ble_eq_true rfl) ?_
  intro Γ G E0
  show bV D bcl Γ 3 ws 0 0 0 [(0, .int (s)), (1, .int (b))] []
  refine bV.iload_n G d_S_nextSum_0 rfl ?_
  refine bV.iload_n G d_S_nextSum_1 rfl ?_
  refine bV.ixor G d_S_nextSum_2 ?_
  refine bV.istore_n G (lv' := [(0, .int (s)), (1, .int (b)), (2, .int (s ^^^ b))]) d_S_nextSum_3 (by decide) rfl rfl ?_
  refine bV.iload_n G d_S_nextSum_4 rfl ?_
  refine bV.bipush (v := nI 31) G d_S_nextSum_5 (by decide) ?_
  refine bV.ishl G d_S_nextSum_7 ?_
  refine bV.iload_n G d_S_nextSum_8 rfl ?_
  refine bV.iconst (v := nI 1) G d_S_nextSum_9 (by decide) ?_
  refine bV.iushr G d_S_nextSum_10 ?_
  refine bV.ior G d_S_nextSum_11 ?_
  refine bV.ldc G d_S_nextSum_12 bw_338 ?_
  refine bV.imul G d_S_nextSum_14 ?_
  exact bV.iretI G E0 rfl rfl (by decide) (by decide) d_S_nextSum_15 ⟨rfl, rfl⟩
theorem d_S_byteOfSum_0 : decode b_S_byteOfSum 0 = .ok (.iload_n 0, 1) := by decide +kernel
theorem d_S_byteOfSum_1 : decode b_S_byteOfSum 1 = .ok (.bipush 24, 2) := by decide +kernel
theorem d_S_byteOfSum_3 : decode b_S_byteOfSum 3 = .ok (.bipush 8, 2) := by decide +kernel
theorem d_S_byteOfSum_5 : decode b_S_byteOfSum 5 = .ok (.iload_n 1, 1) := by decide +kernel
theorem d_S_byteOfSum_6 : decode b_S_byteOfSum 6 = .ok (.imul, 1) := by decide +kernel
theorem d_S_byteOfSum_7 : decode b_S_byteOfSum 7 = .ok (.isub, 1) := by decide +kernel
theorem d_S_byteOfSum_8 : decode b_S_byteOfSum 8 = .ok (.iushr, 1) := by decide +kernel
theorem d_S_byteOfSum_9 : decode b_S_byteOfSum 9 = .ok (.sipush 255, 3) := by decide +kernel
theorem d_S_byteOfSum_12 : decode b_S_byteOfSum 12 = .ok (.iand, 1) := by decide +kernel
theorem d_S_byteOfSum_13 : decode b_S_byteOfSum 13 = .ok (.ireturn, 1) := by decide +kernel
set_option maxRecDepth 20000 in
set_option maxHeartbeats 4000000 in
theorem c_S_byteOfSum {D : va_G} {cI cZ cJ : ClassId} {ws : va_W} {s : Int32} {i : Nat} (hi : i < 4) : bC D bcl (tys3 cI cZ cJ) y_S_byteOfSum (rmL 0 0) ws [.int (s), .int (nI (i))] (bI (fun x ws9 => x = byteS s i ∧ ws9 = ws) bno) := by
  refine bC.of (by decide) m_S_byteOfSum.1 (Nat.le_of_ble_eq_true rfl) ?_
  intro Γ G E0
  show bV D bcl Γ 2 ws 0 0 0 [(0, .int (s)), (1, .int (nI (i)))] []
  refine bV.iload_n G d_S_byteOfSum_0 rfl ?_
  refine bV.bipush (v := nI 24) G d_S_byteOfSum_1 (by decide) ?_
  refine bV.bipush (v := nI 8) G d_S_byteOfSum_3 (by decide) ?_
  refine bV.iload_n G d_S_byteOfSum_5 rfl ?_
  refine bV.imulN G d_S_byteOfSum_6 ?_
  refine bV.isubN G d_S_byteOfSum_7 (by omega) ?_
  refine bV.iushr G d_S_byteOfSum_8 ?_
  refine bV.sipush (v := nI 255) G d_S_byteOfSum_9 (by decide) ?_
  refine bV.iand G d_S_byteOfSum_12 ?_
  exact bV.iretI G E0 rfl rfl (by decide) (by decide) d_S_byteOfSum_13 ⟨rfl, rfl⟩
theorem d_P_add_0 : decode b_P_add 0 = .ok (.aload_n 0, 1) := by decide +kernel
theorem d_P_add_1 : decode b_P_add 1 = .ok (.getfield 9, 3) := by decide +kernel
theorem d_P_add_4 : decode b_P_add 4 = .ok (.ifCond .lt 35, 3) := by decide +kernel
theorem d_P_add_7 : decode b_P_add 7 = .ok (.aload_n 0, 1) := by decide +kernel
theorem d_P_add_8 : decode b_P_add 8 = .ok (.getfield 9, 3) := by decide +kernel
theorem d_P_add_11 : decode b_P_add 11 = .ok (.aload_n 0, 1) := by decide +kernel
theorem d_P_add_12 : decode b_P_add 12 = .ok (.getfield 24, 3) := by decide +kernel
theorem d_P_add_15 : decode b_P_add 15 = .ok (.arraylength, 1) := by decide +kernel
theorem d_P_add_16 : decode b_P_add 16 = .ok (.if_icmp .ge 23, 3) := by decide +kernel
theorem d_P_add_19 : decode b_P_add 19 = .ok (.aload_n 0, 1) := by decide +kernel
theorem d_P_add_20 : decode b_P_add 20 = .ok (.getfield 24, 3) := by decide +kernel
theorem d_P_add_23 : decode b_P_add 23 = .ok (.aload_n 0, 1) := by decide +kernel
theorem d_P_add_24 : decode b_P_add 24 = .ok (.getfield 9, 3) := by decide +kernel
theorem d_P_add_27 : decode b_P_add 27 = .ok (.iload_n 1, 1) := by decide +kernel
theorem d_P_add_28 : decode b_P_add 28 = .ok (.iastore, 1) := by decide +kernel
theorem d_P_add_29 : decode b_P_add 29 = .ok (.aload_n 0, 1) := by decide +kernel
theorem d_P_add_30 : decode b_P_add 30 = .ok (.dup, 1) := by decide +kernel
theorem d_P_add_31 : decode b_P_add 31 = .ok (.getfield 9, 3) := by decide +kernel
theorem d_P_add_34 : decode b_P_add 34 = .ok (.iconst 1, 1) := by decide +kernel
theorem d_P_add_35 : decode b_P_add 35 = .ok (.iadd, 1) := by decide +kernel
theorem d_P_add_36 : decode b_P_add 36 = .ok (.putfield 9, 3) := by decide +kernel
theorem d_P_add_39 : decode b_P_add 39 = .ok (.return_, 1) := by decide +kernel
set_option maxRecDepth 20000 in
set_option maxHeartbeats 4000000 in
theorem c_P_add {D : va_G} {cI cZ cJ : ClassId} {ws : va_W} {q0 q1 q2 a ai az NI ns : Nat} {P : pc_C} {A : pc_A} (hW : pc_at cI ws q0 q1 q2 a ai az NI ns P) (hR : pc_R NI ns P A) {x : Nat} (hx : P.2.2.1 < NI) : bC D bcl (tys3 cI cZ cJ) y_P_add (rmL 0 0) ws [.ref a, .int (nI (x))] (bO (fun ws9 => ws9 = pc_put cI ws q0 q1 q2 a ai az NI ns (upd P.1 P.2.2.1 (nI x), P.2.1, P.2.2.1 + 1, P.2.2.2)) bno) := by
  obtain ⟨h0, h1, h2, n01, n02, n12⟩ := hW
  obtain ⟨f, st, sz, ct⟩ := P
  obtain ⟨c, pl, pa⟩ := A
  have hR0 := hR
  obtain ⟨e1, r2, r3, r4, r5, r6, r7, r8, r9⟩ := hR
  dsimp only at *
  subst e1
  have hs5 : pcS pl (ct + 1) = pcS pl ct + pl ct := rfl
  refine bC.of (by decide) m_P_add.1 (Nat.le_of_ble_eq_true rfl) ?_
  intro Γ G E0
  show bV D bcl Γ 2 ws 0 0 0 [(0, .ref a), (1, .int (nI (x)))] []
  refine bV.aload_n G d_P_add_0 rfl ?_
  refine bV.getf G cl_P q0 2 h0 (by decide) bw_46 rfl d_P_add_1 ?_
  refine bV.if_ltN (tgt := 39) G d_P_add_4 (by decide) (by omega) ?_
  refine bV.aload_n G d_P_add_7 rfl ?_
  refine bV.getf G cl_P q0 2 h0 (by decide) bw_46 rfl d_P_add_8 ?_
  refine bV.aload_n G d_P_add_11 rfl ?_
  refine bV.getf G cl_P q0 0 h0 (by decide) bw_44 rfl d_P_add_12 ?_
  refine bV.alenN G q1 0 h1 rfl d_P_add_15 ?_
  refine bV.icmp_geN (tgt := 39) G d_P_add_16 (by decide) (by omega) (by omega) (fun c16 => ?_) (fun c16 => ?_)
  · exfalso; omega
  · refine bV.aload_n G d_P_add_19 rfl ?_
    refine bV.getf G cl_P q0 0 h0 (by decide) bw_44 rfl d_P_add_20 ?_
    refine bV.aload_n G d_P_add_23 rfl ?_
    refine bV.getf G cl_P q0 2 h0 (by decide) bw_46 rfl d_P_add_24 ?_
    refine bV.iload_n G d_P_add_27 rfl ?_
    refine bV.iastoreN G (ws' := (ws.set q1 (ai, .inl (cI, NI, .inl (upd f sz ((nI (x)))))))) q1 0 h1 rfl (by omega) (by omega) d_P_add_28 rfl ?_
    have g1_q0 := bs_ne (x := (ai, .inl (cI, NI, .inl (upd f sz ((nI (x))))))) (show q1 ≠ q0 from by omega) h0
    have g1_q1 := bs_eq (x := (ai, .inl (cI, NI, .inl (upd f sz ((nI (x))))))) h1
    have g1_q2 := bs_ne (x := (ai, .inl (cI, NI, .inl (upd f sz ((nI (x))))))) (show q1 ≠ q2 from by omega) h2
    refine bV.aload_n G d_P_add_29 rfl ?_
    refine bV.dup G d_P_add_30 rfl ?_
    refine bV.getf G cl_P q0 2 g1_q0 (by decide) bw_46 rfl d_P_add_31 ?_
    refine bV.iconst (v := nI 1) G d_P_add_34 (by decide) ?_
    refine bV.iaddN G d_P_add_35 ?_
    refine bV.putf G (ws' := ((ws.set q1 (ai, .inl (cI, NI, .inl (upd f sz ((nI (x))))))).set q0 (a, .inr (2, [.ref ai, .ref az, .int (nI (sz + 1)), .int (nI (ct))])))) cl_P q0 2 g1_q0 (by decide) bw_46 rfl rfl rfl (Nat.le_of_ble_eq_true rfl) d_P_add_36 rfl ?_
    have g2_q0 := bs_eq (x := (a, .inr (2, [.ref ai, .ref az, .int (nI (sz + 1)), .int (nI (ct))]))) g1_q0
    have g2_q1 := bs_ne (x := (a, .inr (2, [.ref ai, .ref az, .int (nI (sz + 1)), .int (nI (ct))]))) (show q0 ≠ q1 from by omega) g1_q1
    have g2_q2 := bs_ne (x := (a, .inr (2, [.ref ai, .ref az, .int (nI (sz + 1)), .int (nI (ct))]))) (show q0 ≠ q2 from by omega) g1_q2
    exact bV.vretO G E0 rfl (by decide) (by decide) d_P_add_39 (by unfold pc_put; rw [bs_same (bs_ne n12 h2)])
theorem d_P_close_0 : decode b_P_close 0 = .ok (.aload_n 0, 1) := by decide +kernel
theorem d_P_close_1 : decode b_P_close 1 = .ok (.getfield 15, 3) := by decide +kernel
theorem d_P_close_4 : decode b_P_close 4 = .ok (.ifCond .lt 17, 3) := by decide +kernel
theorem d_P_close_7 : decode b_P_close 7 = .ok (.aload_n 0, 1) := by decide +kernel
theorem d_P_close_8 : decode b_P_close 8 = .ok (.getfield 15, 3) := by decide +kernel
theorem d_P_close_11 : decode b_P_close 11 = .ok (.aload_n 0, 1) := by decide +kernel
theorem d_P_close_12 : decode b_P_close 12 = .ok (.getfield 28, 3) := by decide +kernel
theorem d_P_close_15 : decode b_P_close 15 = .ok (.arraylength, 1) := by decide +kernel
theorem d_P_close_16 : decode b_P_close 16 = .ok (.iconst 1, 1) := by decide +kernel
theorem d_P_close_17 : decode b_P_close 17 = .ok (.isub, 1) := by decide +kernel
theorem d_P_close_18 : decode b_P_close 18 = .ok (.if_icmp .lt 5, 3) := by decide +kernel
theorem d_P_close_21 : decode b_P_close 21 = .ok (.iconst (-1), 1) := by decide +kernel
theorem d_P_close_22 : decode b_P_close 22 = .ok (.ireturn, 1) := by decide +kernel
theorem d_P_close_23 : decode b_P_close 23 = .ok (.aload_n 0, 1) := by decide +kernel
theorem d_P_close_24 : decode b_P_close 24 = .ok (.dup, 1) := by decide +kernel
theorem d_P_close_25 : decode b_P_close 25 = .ok (.getfield 15, 3) := by decide +kernel
theorem d_P_close_28 : decode b_P_close 28 = .ok (.iconst 1, 1) := by decide +kernel
theorem d_P_close_29 : decode b_P_close 29 = .ok (.iadd, 1) := by decide +kernel
theorem d_P_close_30 : decode b_P_close 30 = .ok (.putfield 15, 3) := by decide +kernel
theorem d_P_close_33 : decode b_P_close 33 = .ok (.aload_n 0, 1) := by decide +kernel
theorem d_P_close_34 : decode b_P_close 34 = .ok (.getfield 28, 3) := by decide +kernel
theorem d_P_close_37 : decode b_P_close 37 = .ok (.aload_n 0, 1) := by decide +kernel
theorem d_P_close_38 : decode b_P_close 38 = .ok (.getfield 15, 3) := by decide +kernel
theorem d_P_close_41 : decode b_P_close 41 = .ok (.aload_n 0, 1) := by decide +kernel
theorem d_P_close_42 : decode b_P_close 42 = .ok (.getfield 9, 3) := by decide +kernel
theorem d_P_close_45 : decode b_P_close 45 = .ok (.iastore, 1) := by decide +kernel
theorem d_P_close_46 : decode b_P_close 46 = .ok (.aload_n 0, 1) := by decide +kernel
theorem d_P_close_47 : decode b_P_close 47 = .ok (.getfield 15, 3) := by decide +kernel
theorem d_P_close_50 : decode b_P_close 50 = .ok (.iconst 1, 1) := by decide +kernel
theorem d_P_close_51 : decode b_P_close 51 = .ok (.isub, 1) := by decide +kernel
theorem d_P_close_52 : decode b_P_close 52 = .ok (.ireturn, 1) := by decide +kernel
set_option maxRecDepth 20000 in
set_option maxHeartbeats 4000000 in
theorem c_P_close {D : va_G} {cI cZ cJ : ClassId} {ws : va_W} {q0 q1 q2 a ai az NI ns : Nat} {P : pc_C} {A : pc_A} (hW : pc_at cI ws q0 q1 q2 a ai az NI ns P) (hR : pc_R NI ns P A) (hx : A.1 + 1 < ns) : bC D bcl (tys3 cI cZ cJ) y_P_close (rmL 0 0) ws [.ref a] (bI (fun x ws9 => x = nI A.1 ∧ ws9 = pc_put cI ws q0 q1 q2 a ai az NI ns (P.1, upd P.2.1 (P.2.2.2 + 1) (nI P.2.2.1), P.2.2.1, P.2.2.2 + 1)) bno) := by
  obtain ⟨h0, h1, h2, n01, n02, n12⟩ := hW
  obtain ⟨f, st, sz, ct⟩ := P
  obtain ⟨c, pl, pa⟩ := A
  have hR0 := hR
  obtain ⟨e1, r2, r3, r4, r5, r6, r7, r8, r9⟩ := hR
  dsimp only at *
  subst e1
  have hs5 : pcS pl (ct + 1) = pcS pl ct + pl ct := rfl
  refine bC.of (by decide) m_P_close.1 (Nat.le_of_ble_eq_true rfl) ?_
  intro Γ G E0
  show bV D bcl Γ 1 ws 0 0 0 [(0, .ref a)] []
  refine bV.aload_n G d_P_close_0 rfl ?_
  refine bV.getf G cl_P q0 3 h0 (by decide) bw_47 rfl d_P_close_1 ?_
  refine bV.if_ltN (tgt := 21) G d_P_close_4 (by decide) (by omega) ?_
  refine bV.aload_n G d_P_close_7 rfl ?_
  refine bV.getf G cl_P q0 3 h0 (by decide) bw_47 rfl d_P_close_8 ?_
  refine bV.aload_n G d_P_close_11 rfl ?_
  refine bV.getf G cl_P q0 1 h0 (by decide) bw_45 rfl d_P_close_12 ?_
  refine bV.alenN G q2 0 h2 rfl d_P_close_15 ?_
  refine bV.iconst (v := nI 1) G d_P_close_16 (by decide) ?_
  refine bV.isubN G d_P_close_17 (by omega) ?_
  refine bV.icmp_ltN (tgt := 23) G d_P_close_18 (by decide) (by omega) (by omega) (fun c18 => ?_) (fun c18 => ?_)
  · refine bV.aload_n G d_P_close_23 rfl ?_
    refine bV.dup G d_P_close_24 rfl ?_
    refine bV.getf G cl_P q0 3 h0 (by decide) bw_47 rfl d_P_close_25 ?_
    refine bV.iconst (v := nI 1) G d_P_close_28 (by decide) ?_
    refine bV.iaddN G d_P_close_29 ?_
    refine bV.putf G (ws' := (ws.set q0 (a, .inr (2, [.ref ai, .ref az, .int (nI (sz)), .int (nI (ct + 1))])))) cl_P q0 3 h0 (by decide) bw_47 rfl rfl rfl (Nat.le_of_ble_eq_true rfl) d_P_close_30 rfl ?_
    have g1_q0 := bs_eq (x := (a, .inr (2, [.ref ai, .ref az, .int (nI (sz)), .int (nI (ct + 1))]))) h0
    have g1_q1 := bs_ne (x := (a, .inr (2, [.ref ai, .ref az, .int (nI (sz)), .int (nI (ct + 1))]))) (show q0 ≠ q1 from by omega) h1
    have g1_q2 := bs_ne (x := (a, .inr (2, [.ref ai, .ref az, .int (nI (sz)), .int (nI (ct + 1))]))) (show q0 ≠ q2 from by omega) h2
    refine bV.aload_n G d_P_close_33 rfl ?_
    refine bV.getf G cl_P q0 1 g1_q0 (by decide) bw_45 rfl d_P_close_34 ?_
    refine bV.aload_n G d_P_close_37 rfl ?_
    refine bV.getf G cl_P q0 3 g1_q0 (by decide) bw_47 rfl d_P_close_38 ?_
    refine bV.aload_n G d_P_close_41 rfl ?_
    refine bV.getf G cl_P q0 2 g1_q0 (by decide) bw_46 rfl d_P_close_42 ?_
    refine bV.iastoreN G (ws' := ((ws.set q0 (a, .inr (2, [.ref ai, .ref az, .int (nI (sz)), .int (nI (ct + 1))]))).set q2 (az, .inl (cI, ns, .inl (upd st (ct + 1) ((nI (sz)))))))) q2 0 g1_q2 rfl (by omega) (by omega) d_P_close_45 rfl ?_
    have g2_q0 := bs_ne (x := (az, .inl (cI, ns, .inl (upd st (ct + 1) ((nI (sz))))))) (show q2 ≠ q0 from by omega) g1_q0
    have g2_q1 := bs_ne (x := (az, .inl (cI, ns, .inl (upd st (ct + 1) ((nI (sz))))))) (show q2 ≠ q1 from by omega) g1_q1
    have g2_q2 := bs_eq (x := (az, .inl (cI, ns, .inl (upd st (ct + 1) ((nI (sz))))))) g1_q2
    refine bV.aload_n G d_P_close_46 rfl ?_
    refine bV.getf G cl_P q0 3 g2_q0 (by decide) bw_47 rfl d_P_close_47 ?_
    refine bV.iconst (v := nI 1) G d_P_close_50 (by decide) ?_
    refine bV.isubN G d_P_close_51 (by omega) ?_
    exact bV.iretI G E0 rfl rfl (by decide) (by decide) d_P_close_52 ⟨congrArg nI (by omega), by unfold pc_put; rw [bs_same h1, List.set_comm _ _ n02]⟩
  · exfalso; omega
theorem d_P_clearOpen_0 : decode b_P_clearOpen 0 = .ok (.aload_n 0, 1) := by decide +kernel
theorem d_P_clearOpen_1 : decode b_P_clearOpen 1 = .ok (.dup, 1) := by decide +kernel
theorem d_P_clearOpen_2 : decode b_P_clearOpen 2 = .ok (.getfield 9, 3) := by decide +kernel
theorem d_P_clearOpen_5 : decode b_P_clearOpen 5 = .ok (.aload_n 0, 1) := by decide +kernel
theorem d_P_clearOpen_6 : decode b_P_clearOpen 6 = .ok (.invokevirtual 42, 3) := by decide +kernel
theorem d_P_clearOpen_9 : decode b_P_clearOpen 9 = .ok (.isub, 1) := by decide +kernel
theorem d_P_clearOpen_10 : decode b_P_clearOpen 10 = .ok (.putfield 9, 3) := by decide +kernel
theorem d_P_clearOpen_13 : decode b_P_clearOpen 13 = .ok (.return_, 1) := by decide +kernel
set_option maxRecDepth 20000 in
set_option maxHeartbeats 4000000 in
theorem c_P_clearOpen {D : va_G} {cI cZ cJ : ClassId} {ws : va_W} {q0 q1 q2 a ai az NI ns : Nat} {P : pc_C} {A : pc_A} (hW : pc_at cI ws q0 q1 q2 a ai az NI ns P) (hR : pc_R NI ns P A)  : bC D bcl (tys3 cI cZ cJ) y_P_clearOpen (rmL 2 42) ws [.ref a] (bO (fun ws9 => ws9 = pc_put cI ws q0 q1 q2 a ai az NI ns (P.1, P.2.1, P.2.2.1 - A.2.1 A.1, P.2.2.2)) bno) := by
  obtain ⟨h0, h1, h2, n01, n02, n12⟩ := hW
  obtain ⟨f, st, sz, ct⟩ := P
  obtain ⟨c, pl, pa⟩ := A
  have hR0 := hR
  obtain ⟨e1, r2, r3, r4, r5, r6, r7, r8, r9⟩ := hR
  dsimp only at *
  subst e1
  have hs5 : pcS pl (ct + 1) = pcS pl ct + pl ct := rfl
  refine bC.of (by decide) m_P_clearOpen.1 (Nat.le_of_ble_eq_true rfl) ?_
  intro Γ G E0
  show bV D bcl Γ 1 ws 0 0 0 [(0, .ref a)] []
  refine bV.aload_n G d_P_clearOpen_0 rfl ?_
  refine bV.dup G d_P_clearOpen_1 rfl ?_
  refine bV.getf G cl_P q0 2 h0 (by decide) bw_46 rfl d_P_clearOpen_2 ?_
  refine bV.aload_n G d_P_clearOpen_5 rfl ?_
  refine bV.callVi G m_P_openLength bw_185 bw_186 bw_219 (c_P_openLength (ws := ws) (q1 := q1) (q2 := q2) (NI := NI) (ns := ns) (P := (f, st, sz, ct)) (A := (ct, pl, pa)) ⟨h0, h1, h2, n01, n02, n12⟩ hR0) q0 h0 rfl rfl rfl rfl ⟨by decide, by decide⟩ ⟨by decide, by decide⟩ (Nat.le_of_ble_eq_true rfl) d_P_clearOpen_6 (fun x9 ws9 h9 => ?_)
  obtain ⟨rfl, h9e⟩ := h9
  rw [h9e]
  try dsimp only
  refine bV.isubN G d_P_clearOpen_9 (by omega) ?_
  refine bV.putf G (ws' := (ws.set q0 (a, .inr (2, [.ref ai, .ref az, .int (nI (sz - (pl ct))), .int (nI (ct))])))) cl_P q0 2 h0 (by decide) bw_46 rfl rfl rfl (Nat.le_of_ble_eq_true rfl) d_P_clearOpen_10 rfl ?_
  have g1_q0 := bs_eq (x := (a, .inr (2, [.ref ai, .ref az, .int (nI (sz - (pl ct))), .int (nI (ct))]))) h0
  have g1_q1 := bs_ne (x := (a, .inr (2, [.ref ai, .ref az, .int (nI (sz - (pl ct))), .int (nI (ct))]))) (show q0 ≠ q1 from by omega) h1
  have g1_q2 := bs_ne (x := (a, .inr (2, [.ref ai, .ref az, .int (nI (sz - (pl ct))), .int (nI (ct))]))) (show q0 ≠ q2 from by omega) h2
  exact bV.vretO G E0 rfl (by decide) (by decide) d_P_clearOpen_13 (by unfold pc_put; rw [bs_same h1, bs_same h2])
theorem d_P_clear_0 : decode b_P_clear 0 = .ok (.aload_n 0, 1) := by decide +kernel
theorem d_P_clear_1 : decode b_P_clear 1 = .ok (.iconst 0, 1) := by decide +kernel
theorem d_P_clear_2 : decode b_P_clear 2 = .ok (.putfield 9, 3) := by decide +kernel
theorem d_P_clear_5 : decode b_P_clear 5 = .ok (.aload_n 0, 1) := by decide +kernel
theorem d_P_clear_6 : decode b_P_clear 6 = .ok (.iconst 0, 1) := by decide +kernel
theorem d_P_clear_7 : decode b_P_clear 7 = .ok (.putfield 15, 3) := by decide +kernel
theorem d_P_clear_10 : decode b_P_clear 10 = .ok (.return_, 1) := by decide +kernel
set_option maxRecDepth 20000 in
set_option maxHeartbeats 4000000 in
theorem c_P_clear {D : va_G} {cI cZ cJ : ClassId} {ws : va_W} {q0 q1 q2 a ai az NI ns : Nat} {P : pc_C} {A : pc_A} (hW : pc_at cI ws q0 q1 q2 a ai az NI ns P) (hR : pc_R NI ns P A)  : bC D bcl (tys3 cI cZ cJ) y_P_clear (rmL 0 0) ws [.ref a] (bO (fun ws9 => ws9 = pc_put cI ws q0 q1 q2 a ai az NI ns (P.1, P.2.1, 0, 0)) bno) := by
  obtain ⟨h0, h1, h2, n01, n02, n12⟩ := hW
  obtain ⟨f, st, sz, ct⟩ := P
  obtain ⟨c, pl, pa⟩ := A
  have hR0 := hR
  obtain ⟨e1, r2, r3, r4, r5, r6, r7, r8, r9⟩ := hR
  dsimp only at *
  subst e1
  have hs5 : pcS pl (ct + 1) = pcS pl ct + pl ct := rfl
  refine bC.of (by decide) m_P_clear.1 (Nat.le_of_ble_eq_true rfl) ?_
  intro Γ G E0
  show bV D bcl Γ 1 ws 0 0 0 [(0, .ref a)] []
  refine bV.aload_n G d_P_clear_0 rfl ?_
  refine bV.iconst (v := nI 0) G d_P_clear_1 (by decide) ?_
  refine bV.putf G (ws' := (ws.set q0 (a, .inr (2, [.ref ai, .ref az, .int (nI (0)), .int (nI (ct))])))) cl_P q0 2 h0 (by decide) bw_46 rfl rfl rfl (Nat.le_of_ble_eq_true rfl) d_P_clear_2 rfl ?_
  have g1_q0 := bs_eq (x := (a, .inr (2, [.ref ai, .ref az, .int (nI (0)), .int (nI (ct))]))) h0
  have g1_q1 := bs_ne (x := (a, .inr (2, [.ref ai, .ref az, .int (nI (0)), .int (nI (ct))]))) (show q0 ≠ q1 from by omega) h1
  have g1_q2 := bs_ne (x := (a, .inr (2, [.ref ai, .ref az, .int (nI (0)), .int (nI (ct))]))) (show q0 ≠ q2 from by omega) h2
  refine bV.aload_n G d_P_clear_5 rfl ?_
  refine bV.iconst (v := nI 0) G d_P_clear_6 (by decide) ?_
  refine bV.putf G (ws' := ((ws.set q0 (a, .inr (2, [.ref ai, .ref az, .int (nI (0)), .int (nI (ct))]))).set q0 (a, .inr (2, [.ref ai, .ref az, .int (nI (0)), .int (nI (0))])))) cl_P q0 3 g1_q0 (by decide) bw_47 rfl rfl rfl (Nat.le_of_ble_eq_true rfl) d_P_clear_7 rfl ?_
  have g2_q0 := bs_eq (x := (a, .inr (2, [.ref ai, .ref az, .int (nI (0)), .int (nI (0))]))) g1_q0
  have g2_q1 := bs_ne (x := (a, .inr (2, [.ref ai, .ref az, .int (nI (0)), .int (nI (0))]))) (show q0 ≠ q1 from by omega) g1_q1
  have g2_q2 := bs_ne (x := (a, .inr (2, [.ref ai, .ref az, .int (nI (0)), .int (nI (0))]))) (show q0 ≠ q2 from by omega) g1_q2
  exact bV.vretO G E0 rfl (by decide) (by decide) d_P_clear_10 (by unfold pc_put; rw [bs_same h1, bs_same h2, List.set_set])
theorem d_P_put_0 : decode b_P_put 0 = .ok (.iload_n 1, 1) := by decide +kernel
theorem d_P_put_1 : decode b_P_put 1 = .ok (.ifCond .lt 25, 3) := by decide +kernel
theorem d_P_put_4 : decode b_P_put 4 = .ok (.iload_n 1, 1) := by decide +kernel
theorem d_P_put_5 : decode b_P_put 5 = .ok (.aload_n 0, 1) := by decide +kernel
theorem d_P_put_6 : decode b_P_put 6 = .ok (.getfield 28, 3) := by decide +kernel
theorem d_P_put_9 : decode b_P_put 9 = .ok (.arraylength, 1) := by decide +kernel
theorem d_P_put_10 : decode b_P_put 10 = .ok (.if_icmp .ge 16, 3) := by decide +kernel
theorem d_P_put_13 : decode b_P_put 13 = .ok (.iload_n 2, 1) := by decide +kernel
theorem d_P_put_14 : decode b_P_put 14 = .ok (.ifCond .lt 12, 3) := by decide +kernel
theorem d_P_put_17 : decode b_P_put 17 = .ok (.iload_n 2, 1) := by decide +kernel
theorem d_P_put_18 : decode b_P_put 18 = .ok (.aload_n 0, 1) := by decide +kernel
theorem d_P_put_19 : decode b_P_put 19 = .ok (.iload_n 1, 1) := by decide +kernel
theorem d_P_put_20 : decode b_P_put 20 = .ok (.invokevirtual 35, 3) := by decide +kernel
theorem d_P_put_23 : decode b_P_put 23 = .ok (.if_icmp .lt 4, 3) := by decide +kernel
theorem d_P_put_26 : decode b_P_put 26 = .ok (.return_, 1) := by decide +kernel
theorem d_P_put_27 : decode b_P_put 27 = .ok (.aload_n 0, 1) := by decide +kernel
theorem d_P_put_28 : decode b_P_put 28 = .ok (.getfield 28, 3) := by decide +kernel
theorem d_P_put_31 : decode b_P_put 31 = .ok (.iload_n 1, 1) := by decide +kernel
theorem d_P_put_32 : decode b_P_put 32 = .ok (.iaload, 1) := by decide +kernel
theorem d_P_put_33 : decode b_P_put 33 = .ok (.iload_n 2, 1) := by decide +kernel
theorem d_P_put_34 : decode b_P_put 34 = .ok (.iadd, 1) := by decide +kernel
theorem d_P_put_35 : decode b_P_put 35 = .ok (.istore 4, 2) := by decide +kernel
theorem d_P_put_37 : decode b_P_put 37 = .ok (.iload 4, 2) := by decide +kernel
theorem d_P_put_39 : decode b_P_put 39 = .ok (.ifCond .lt 21, 3) := by decide +kernel
theorem d_P_put_42 : decode b_P_put 42 = .ok (.iload 4, 2) := by decide +kernel
theorem d_P_put_44 : decode b_P_put 44 = .ok (.aload_n 0, 1) := by decide +kernel
theorem d_P_put_45 : decode b_P_put 45 = .ok (.getfield 24, 3) := by decide +kernel
theorem d_P_put_48 : decode b_P_put 48 = .ok (.arraylength, 1) := by decide +kernel
theorem d_P_put_49 : decode b_P_put 49 = .ok (.if_icmp .ge 11, 3) := by decide +kernel
theorem d_P_put_52 : decode b_P_put 52 = .ok (.aload_n 0, 1) := by decide +kernel
theorem d_P_put_53 : decode b_P_put 53 = .ok (.getfield 24, 3) := by decide +kernel
theorem d_P_put_56 : decode b_P_put 56 = .ok (.iload 4, 2) := by decide +kernel
theorem d_P_put_58 : decode b_P_put 58 = .ok (.iload_n 3, 1) := by decide +kernel
theorem d_P_put_59 : decode b_P_put 59 = .ok (.iastore, 1) := by decide +kernel
theorem d_P_put_60 : decode b_P_put 60 = .ok (.return_, 1) := by decide +kernel
set_option maxRecDepth 20000 in
set_option maxHeartbeats 4000000 in
theorem c_P_put {D : va_G} {cI cZ cJ : ClassId} {ws : va_W} {q0 q1 q2 a ai az NI ns : Nat} {P : pc_C} {A : pc_A} (hW : pc_at cI ws q0 q1 q2 a ai az NI ns P) (hR : pc_R NI ns P A) {j i x : Nat} (hj : j ≤ A.1) (hi : i < A.2.1 j) : bC D bcl (tys3 cI cZ cJ) y_P_put (rmL 1 22) ws [.ref a, .int (nI (j)), .int (nI (i)), .int (nI (x))] (bO (fun ws9 => ws9 = pc_put cI ws q0 q1 q2 a ai az NI ns (upd P.1 (pcS A.2.1 j + i) (nI x), P.2.1, P.2.2.1, P.2.2.2)) bno) := by
  obtain ⟨h0, h1, h2, n01, n02, n12⟩ := hW
  obtain ⟨f, st, sz, ct⟩ := P
  obtain ⟨c, pl, pa⟩ := A
  have hR0 := hR
  obtain ⟨e1, r2, r3, r4, r5, r6, r7, r8, r9⟩ := hR
  dsimp only at *
  subst e1
  have hs5 : pcS pl (ct + 1) = pcS pl ct + pl ct := rfl
  refine bC.of (by decide) m_P_put.1 (Nat.le_of_ble_eq_true rfl) ?_
  intro Γ G E0
  show bV D bcl Γ 5 ws 0 0 0 [(0, .ref a), (1, .int (nI (j))), (2, .int (nI (i))), (3, .int (nI (x)))] []
  have hs6 : pcS pl (j + 1) = pcS pl j + pl j := rfl
  have hs7 : pcS pl (j + 1) ≤ pcS pl (ct + 1) := pcS_mono (by omega)
  have hp := pcS_lt (pl := pl) (ct := ct) hj hi
  refine bV.iload_n G d_P_put_0 rfl ?_
  refine bV.if_ltN (tgt := 26) G d_P_put_1 (by decide) (by omega) ?_
  refine bV.iload_n G d_P_put_4 rfl ?_
  refine bV.aload_n G d_P_put_5 rfl ?_
  refine bV.getf G cl_P q0 1 h0 (by decide) bw_45 rfl d_P_put_6 ?_
  refine bV.alenN G q2 0 h2 rfl d_P_put_9 ?_
  refine bV.icmp_geN (tgt := 26) G d_P_put_10 (by decide) (by omega) (by omega) (fun c10 => ?_) (fun c10 => ?_)
  · exfalso; omega
  · refine bV.iload_n G d_P_put_13 rfl ?_
    refine bV.if_ltN (tgt := 26) G d_P_put_14 (by decide) (by omega) ?_
    refine bV.iload_n G d_P_put_17 rfl ?_
    refine bV.aload_n G d_P_put_18 rfl ?_
    refine bV.iload_n G d_P_put_19 rfl ?_
    refine bV.callVi G m_P_length bw_189 bw_190 bw_188 (c_P_length (ws := ws) (q1 := q1) (q2 := q2) (NI := NI) (ns := ns) (P := (f, st, sz, ct)) (A := (ct, pl, pa)) ⟨h0, h1, h2, n01, n02, n12⟩ hR0 (j := j) (by first | omega | exact Nat.le_refl _)) q0 h0 rfl rfl rfl rfl ⟨by decide, by decide⟩ ⟨by decide, by decide⟩ (Nat.le_of_ble_eq_true rfl) d_P_put_20 (fun x9 ws9 h9 => ?_)
    obtain ⟨rfl, h9e⟩ := h9
    rw [h9e]
    try dsimp only
    refine bV.icmp_ltN (tgt := 27) G d_P_put_23 (by decide) (by omega) (by omega) (fun c23 => ?_) (fun c23 => ?_)
    · refine bV.aload_n G d_P_put_27 rfl ?_
      refine bV.getf G cl_P q0 1 h0 (by decide) bw_45 rfl d_P_put_28 ?_
      refine bV.iload_n G d_P_put_31 rfl ?_
      refine bV.ialoadN G q2 0 h2 rfl (by omega) (by omega) d_P_put_32 ?_
      refine bV.topi (y := (nI (pcS pl j))) (r7 _ (by omega)) ?_
      refine bV.iload_n G d_P_put_33 rfl ?_
      refine bV.iaddN G d_P_put_34 ?_
      refine bV.istore G (lv' := [(0, .ref a), (1, .int (nI (j))), (2, .int (nI (i))), (3, .int (nI (x))), (4, .int (nI ((pcS pl j) + i)))]) d_P_put_35 (by decide) rfl rfl ?_
      refine bV.iload G d_P_put_37 rfl ?_
      refine bV.if_ltN (tgt := 60) G d_P_put_39 (by decide) (by omega) ?_
      refine bV.iload G d_P_put_42 rfl ?_
      refine bV.aload_n G d_P_put_44 rfl ?_
      refine bV.getf G cl_P q0 0 h0 (by decide) bw_44 rfl d_P_put_45 ?_
      refine bV.alenN G q1 0 h1 rfl d_P_put_48 ?_
      refine bV.icmp_geN (tgt := 60) G d_P_put_49 (by decide) (by omega) (by omega) (fun c49 => ?_) (fun c49 => ?_)
      · exfalso; omega
      · refine bV.aload_n G d_P_put_52 rfl ?_
        refine bV.getf G cl_P q0 0 h0 (by decide) bw_44 rfl d_P_put_53 ?_
        refine bV.iload G d_P_put_56 rfl ?_
        refine bV.iload_n G d_P_put_58 rfl ?_
        refine bV.iastoreN G (ws' := (ws.set q1 (ai, .inl (cI, NI, .inl (upd f ((pcS pl j) + i) ((nI (x)))))))) q1 0 h1 rfl (by omega) (by omega) d_P_put_59 rfl ?_
        have g1_q0 := bs_ne (x := (ai, .inl (cI, NI, .inl (upd f ((pcS pl j) + i) ((nI (x))))))) (show q1 ≠ q0 from by omega) h0
        have g1_q1 := bs_eq (x := (ai, .inl (cI, NI, .inl (upd f ((pcS pl j) + i) ((nI (x))))))) h1
        have g1_q2 := bs_ne (x := (ai, .inl (cI, NI, .inl (upd f ((pcS pl j) + i) ((nI (x))))))) (show q1 ≠ q2 from by omega) h2
        exact bV.vretO G E0 rfl (by decide) (by decide) d_P_put_60 (by unfold pc_put; rw [bs_same (bs_ne n12 h2), bs_same (bs_ne (show q1 ≠ q0 from by omega) h0)])
    · exfalso; omega
theorem d_P_equalsOpen_0 : decode b_P_equalsOpen 0 = .ok (.aload_n 0, 1) := by decide +kernel
theorem d_P_equalsOpen_1 : decode b_P_equalsOpen 1 = .ok (.invokevirtual 42, 3) := by decide +kernel
theorem d_P_equalsOpen_4 : decode b_P_equalsOpen 4 = .ok (.istore_n 2, 1) := by decide +kernel
theorem d_P_equalsOpen_5 : decode b_P_equalsOpen 5 = .ok (.aload_n 0, 1) := by decide +kernel
theorem d_P_equalsOpen_6 : decode b_P_equalsOpen 6 = .ok (.iload_n 1, 1) := by decide +kernel
theorem d_P_equalsOpen_7 : decode b_P_equalsOpen 7 = .ok (.invokevirtual 35, 3) := by decide +kernel
theorem d_P_equalsOpen_10 : decode b_P_equalsOpen 10 = .ok (.iload_n 2, 1) := by decide +kernel
theorem d_P_equalsOpen_11 : decode b_P_equalsOpen 11 = .ok (.if_icmp .eq 5, 3) := by decide +kernel
theorem d_P_equalsOpen_14 : decode b_P_equalsOpen 14 = .ok (.iconst 0, 1) := by decide +kernel
theorem d_P_equalsOpen_15 : decode b_P_equalsOpen 15 = .ok (.ireturn, 1) := by decide +kernel
theorem d_P_equalsOpen_16 : decode b_P_equalsOpen 16 = .ok (.iconst 0, 1) := by decide +kernel
theorem d_P_equalsOpen_17 : decode b_P_equalsOpen 17 = .ok (.istore_n 3, 1) := by decide +kernel
theorem d_P_equalsOpen_18 : decode b_P_equalsOpen 18 = .ok (.iload_n 3, 1) := by decide +kernel
theorem d_P_equalsOpen_19 : decode b_P_equalsOpen 19 = .ok (.iload_n 2, 1) := by decide +kernel
theorem d_P_equalsOpen_20 : decode b_P_equalsOpen 20 = .ok (.if_icmp .ge 25, 3) := by decide +kernel
theorem d_P_equalsOpen_23 : decode b_P_equalsOpen 23 = .ok (.aload_n 0, 1) := by decide +kernel
theorem d_P_equalsOpen_24 : decode b_P_equalsOpen 24 = .ok (.iload_n 1, 1) := by decide +kernel
theorem d_P_equalsOpen_25 : decode b_P_equalsOpen 25 = .ok (.iload_n 3, 1) := by decide +kernel
theorem d_P_equalsOpen_26 : decode b_P_equalsOpen 26 = .ok (.invokevirtual 39, 3) := by decide +kernel
theorem d_P_equalsOpen_29 : decode b_P_equalsOpen 29 = .ok (.aload_n 0, 1) := by decide +kernel
theorem d_P_equalsOpen_30 : decode b_P_equalsOpen 30 = .ok (.iload_n 3, 1) := by decide +kernel
theorem d_P_equalsOpen_31 : decode b_P_equalsOpen 31 = .ok (.invokevirtual 45, 3) := by decide +kernel
theorem d_P_equalsOpen_34 : decode b_P_equalsOpen 34 = .ok (.if_icmp .eq 5, 3) := by decide +kernel
theorem d_P_equalsOpen_37 : decode b_P_equalsOpen 37 = .ok (.iconst 0, 1) := by decide +kernel
theorem d_P_equalsOpen_38 : decode b_P_equalsOpen 38 = .ok (.ireturn, 1) := by decide +kernel
theorem d_P_equalsOpen_39 : decode b_P_equalsOpen 39 = .ok (.iinc 3 1, 3) := by decide +kernel
theorem d_P_equalsOpen_42 : decode b_P_equalsOpen 42 = .ok (.goto (-24), 3) := by decide +kernel
theorem d_P_equalsOpen_45 : decode b_P_equalsOpen 45 = .ok (.iconst 1, 1) := by decide +kernel
theorem d_P_equalsOpen_46 : decode b_P_equalsOpen 46 = .ok (.ireturn, 1) := by decide +kernel
set_option maxRecDepth 20000 in
set_option maxHeartbeats 4000000 in
theorem c_P_equalsOpen {D : va_G} {cI cZ cJ : ClassId} {ws : va_W} {q0 q1 q2 a ai az NI ns : Nat} {P : pc_C} {A : pc_A} (hW : pc_at cI ws q0 q1 q2 a ai az NI ns P) (hR : pc_R NI ns P A) {j : Nat} (hj : j ≤ A.1) : bC D bcl (tys3 cI cZ cJ) y_P_equalsOpen (rmL 3 70) ws [.ref a, .int (nI (j))] (bI (fun x ws9 => x = bB (decide (A.2.1 j = A.2.1 A.1 ∧ ∀ i, i < A.2.1 A.1 → A.2.2 j i = A.2.2 A.1 i)) ∧ ws9 = ws) bno) := by
  obtain ⟨h0, h1, h2, n01, n02, n12⟩ := hW
  obtain ⟨f, st, sz, ct⟩ := P
  obtain ⟨c, pl, pa⟩ := A
  have hR0 := hR
  obtain ⟨e1, r2, r3, r4, r5, r6, r7, r8, r9⟩ := hR
  dsimp only at *
  subst e1
  have hs5 : pcS pl (ct + 1) = pcS pl ct + pl ct := rfl
  refine bC.of (by decide) m_P_equalsOpen.1 (Nat.le_of_ble_eq_true rfl) ?_
  intro Γ G E0
  show bV D bcl Γ 4 ws 0 0 0 [(0, .ref a), (1, .int (nI (j)))] []
  have hs6 : pcS pl (j + 1) = pcS pl j + pl j := rfl
  have hs7 : pcS pl (j + 1) ≤ pcS pl (ct + 1) := pcS_mono (by omega)
  have loop : ∀ (d : Nat) (i : Nat), pl j = pl ct → d + i = pl ct → (∀ i0, i0 < i → pa j i0 = pa ct i0) → bV D bcl Γ 4 ws 0 0 18 [(0, .ref a), (1, .int (nI (j))), (2, .int (nI (pl ct))), (3, .int (nI (i)))] [] := by
    intro d
    induction d with
    | zero =>
      intro i he0 hd hi0
      refine bV.iload_n G d_P_equalsOpen_18 rfl ?_
      refine bV.iload_n G d_P_equalsOpen_19 rfl ?_
      refine bV.icmp_geN (tgt := 45) G d_P_equalsOpen_20 (by decide) (by omega) (by omega) (fun c20 => ?_) (fun c20 => ?_)
      · refine bV.iconst (v := nI 1) G d_P_equalsOpen_45 (by decide) ?_
        refine bV.topi (x := nI 1) (y := bB true) (by decide) ?_
        exact bV.iretI G E0 rfl (bB_n _) (by decide) (by decide) d_P_equalsOpen_46 ⟨by rw [decide_eq_true ⟨he0, fun i0 h => hi0 i0 (by omega)⟩], rfl⟩
      · exfalso; omega
    | succ d ih =>
      intro i he0 hd hi0
      refine bV.iload_n G d_P_equalsOpen_18 rfl ?_
      refine bV.iload_n G d_P_equalsOpen_19 rfl ?_
      refine bV.icmp_geN (tgt := 45) G d_P_equalsOpen_20 (by decide) (by omega) (by omega) (fun c20 => ?_) (fun c20 => ?_)
      · exfalso; omega
      · refine bV.aload_n G d_P_equalsOpen_23 rfl ?_
        refine bV.iload_n G d_P_equalsOpen_24 rfl ?_
        refine bV.iload_n G d_P_equalsOpen_25 rfl ?_
        refine bV.callVi G m_P_at bw_221 bw_222 bw_220 (c_P_at (ws := ws) (q1 := q1) (q2 := q2) (NI := NI) (ns := ns) (P := (f, st, sz, ct)) (A := (ct, pl, pa)) ⟨h0, h1, h2, n01, n02, n12⟩ hR0 (j := j) (i := i) (by first | omega | exact Nat.le_refl _) (by omega)) q0 h0 rfl rfl rfl rfl ⟨by decide, by decide⟩ ⟨by decide, by decide⟩ (Nat.le_of_ble_eq_true rfl) d_P_equalsOpen_26 (fun x9 ws9 h9 => ?_)
        obtain ⟨rfl, h9e⟩ := h9
        rw [h9e]
        dsimp only
        rw [if_pos (by omega)]
        refine bV.aload_n G d_P_equalsOpen_29 rfl ?_
        refine bV.iload_n G d_P_equalsOpen_30 rfl ?_
        refine bV.callVi G m_P_openAt bw_225 bw_226 bw_224 (c_P_openAt (ws := ws) (q1 := q1) (q2 := q2) (NI := NI) (ns := ns) (P := (f, st, sz, ct)) (A := (ct, pl, pa)) ⟨h0, h1, h2, n01, n02, n12⟩ hR0 (i := i) (by omega)) q0 h0 rfl rfl rfl rfl ⟨by decide, by decide⟩ ⟨by decide, by decide⟩ (Nat.le_of_ble_eq_true rfl) d_P_equalsOpen_31 (fun x9 ws9 h9 => ?_)
        obtain ⟨rfl, h9e⟩ := h9
        rw [h9e]
        dsimp only
        rw [if_pos (by omega)]
        have hv1 : pa j i < 2 ^ 31 := r9 j i hj (by omega)
        have hv2 : pa ct i < 2 ^ 31 := r9 ct i (Nat.le_refl _) (by omega)
        refine bV.icmp_eqN (tgt := 39) G d_P_equalsOpen_34 (by decide) (by omega) (by omega) (fun c34 => ?_) (fun c34 => ?_)
        · refine bV.iincN G (lv' := [(0, .ref a), (1, .int (nI (j))), (2, .int (nI (pl ct))), (3, .int (nI (i + 1)))]) d_P_equalsOpen_39 rfl (by decide) rfl rfl ?_
          refine bV.goto (tgt := 18) G d_P_equalsOpen_42 (by decide) ?_
          exact ih (i + 1) he0 (by omega) (fun i0 h => by rcases Nat.lt_or_ge i0 i with z | z; exact hi0 i0 z; rw [show i0 = i by omega]; exact c34)
        · refine bV.iconst (v := nI 0) G d_P_equalsOpen_37 (by decide) ?_
          refine bV.topi (x := nI 0) (y := bB false) (by decide) ?_
          exact bV.iretI G E0 rfl (bB_n _) (by decide) (by decide) d_P_equalsOpen_38 ⟨by rw [decide_eq_false (fun z => by first | exact c11 z.1 | exact c34 (z.2 i (by omega)))], rfl⟩
  refine bV.aload_n G d_P_equalsOpen_0 rfl ?_
  refine bV.callVi G m_P_openLength bw_185 bw_186 bw_219 (c_P_openLength (ws := ws) (q1 := q1) (q2 := q2) (NI := NI) (ns := ns) (P := (f, st, sz, ct)) (A := (ct, pl, pa)) ⟨h0, h1, h2, n01, n02, n12⟩ hR0) q0 h0 rfl rfl rfl rfl ⟨by decide, by decide⟩ ⟨by decide, by decide⟩ (Nat.le_of_ble_eq_true rfl) d_P_equalsOpen_1 (fun x9 ws9 h9 => ?_)
  obtain ⟨rfl, h9e⟩ := h9
  rw [h9e]
  try dsimp only
  refine bV.istore_n G (lv' := [(0, .ref a), (1, .int (nI (j))), (2, .int (nI (pl ct)))]) d_P_equalsOpen_4 (by decide) rfl rfl ?_
  refine bV.aload_n G d_P_equalsOpen_5 rfl ?_
  refine bV.iload_n G d_P_equalsOpen_6 rfl ?_
  refine bV.callVi G m_P_length bw_189 bw_190 bw_188 (c_P_length (ws := ws) (q1 := q1) (q2 := q2) (NI := NI) (ns := ns) (P := (f, st, sz, ct)) (A := (ct, pl, pa)) ⟨h0, h1, h2, n01, n02, n12⟩ hR0 (j := j) (by first | omega | exact Nat.le_refl _)) q0 h0 rfl rfl rfl rfl ⟨by decide, by decide⟩ ⟨by decide, by decide⟩ (Nat.le_of_ble_eq_true rfl) d_P_equalsOpen_7 (fun x9 ws9 h9 => ?_)
  obtain ⟨rfl, h9e⟩ := h9
  rw [h9e]
  try dsimp only
  refine bV.iload_n G d_P_equalsOpen_10 rfl ?_
  refine bV.icmp_eqN (tgt := 16) G d_P_equalsOpen_11 (by decide) (by omega) (by omega) (fun c11 => ?_) (fun c11 => ?_)
  · refine bV.iconst (v := nI 0) G d_P_equalsOpen_16 (by decide) ?_
    refine bV.istore_n G (lv' := [(0, .ref a), (1, .int (nI (j))), (2, .int (nI (pl ct))), (3, .int (nI (0)))]) d_P_equalsOpen_17 (by decide) rfl rfl ?_
    exact loop (pl ct) 0 c11 (by omega) (fun i0 h => absurd h (Nat.not_lt_zero _))
  · refine bV.iconst (v := nI 0) G d_P_equalsOpen_14 (by decide) ?_
    refine bV.topi (x := nI 0) (y := bB false) (by decide) ?_
    exact bV.iretI G E0 rfl (bB_n _) (by decide) (by decide) d_P_equalsOpen_15 ⟨by rw [decide_eq_false (fun z => by first | exact c11 z.1 | exact c34 (z.2 i (by omega)))], rfl⟩
theorem d_P_sum_0 : decode b_P_sum 0 = .ok (.iload_n 1, 1) := by decide +kernel
theorem d_P_sum_1 : decode b_P_sum 1 = .ok (.istore 4, 2) := by decide +kernel
theorem d_P_sum_3 : decode b_P_sum 3 = .ok (.iload_n 3, 1) := by decide +kernel
theorem d_P_sum_4 : decode b_P_sum 4 = .ok (.aload_n 0, 1) := by decide +kernel
theorem d_P_sum_5 : decode b_P_sum 5 = .ok (.iload_n 2, 1) := by decide +kernel
theorem d_P_sum_6 : decode b_P_sum 6 = .ok (.invokevirtual 35, 3) := by decide +kernel
theorem d_P_sum_9 : decode b_P_sum 9 = .ok (.invokestatic 48, 3) := by decide +kernel
theorem d_P_sum_12 : decode b_P_sum 12 = .ok (.istore 5, 2) := by decide +kernel
theorem d_P_sum_14 : decode b_P_sum 14 = .ok (.iconst 0, 1) := by decide +kernel
theorem d_P_sum_15 : decode b_P_sum 15 = .ok (.istore 6, 2) := by decide +kernel
theorem d_P_sum_17 : decode b_P_sum 17 = .ok (.iload 6, 2) := by decide +kernel
theorem d_P_sum_19 : decode b_P_sum 19 = .ok (.iload 5, 2) := by decide +kernel
theorem d_P_sum_21 : decode b_P_sum 21 = .ok (.if_icmp .ge 23, 3) := by decide +kernel
theorem d_P_sum_24 : decode b_P_sum 24 = .ok (.iload 4, 2) := by decide +kernel
theorem d_P_sum_26 : decode b_P_sum 26 = .ok (.aload_n 0, 1) := by decide +kernel
theorem d_P_sum_27 : decode b_P_sum 27 = .ok (.iload_n 2, 1) := by decide +kernel
theorem d_P_sum_28 : decode b_P_sum 28 = .ok (.iload 6, 2) := by decide +kernel
theorem d_P_sum_30 : decode b_P_sum 30 = .ok (.invokevirtual 39, 3) := by decide +kernel
theorem d_P_sum_33 : decode b_P_sum 33 = .ok (.invokestatic 51, 3) := by decide +kernel
theorem d_P_sum_36 : decode b_P_sum 36 = .ok (.istore 4, 2) := by decide +kernel
theorem d_P_sum_38 : decode b_P_sum 38 = .ok (.iinc 6 1, 3) := by decide +kernel
theorem d_P_sum_41 : decode b_P_sum 41 = .ok (.goto (-24), 3) := by decide +kernel
theorem d_P_sum_44 : decode b_P_sum 44 = .ok (.iload 4, 2) := by decide +kernel
theorem d_P_sum_46 : decode b_P_sum 46 = .ok (.ireturn, 1) := by decide +kernel
set_option maxRecDepth 20000 in
set_option maxHeartbeats 4000000 in
theorem c_P_sum {D : va_G} {cI cZ cJ : ClassId} {ws : va_W} {q0 q1 q2 a ai az NI ns : Nat} {P : pc_C} {A : pc_A} (hW : pc_at cI ws q0 q1 q2 a ai az NI ns P) (hR : pc_R NI ns P A) {s0 : Int32} {j len : Nat} (hj : j ≤ A.1) (hlen : len ≤ A.2.1 j) : bC D bcl (tys3 cI cZ cJ) y_P_sum (rmL 2 45) ws [.ref a, .int (s0), .int (nI (j)), .int (nI (len))] (bI (fun x ws9 => x = sumS (A.2.2 j) s0 len ∧ ws9 = ws) bno) := by
  obtain ⟨h0, h1, h2, n01, n02, n12⟩ := hW
  obtain ⟨f, st, sz, ct⟩ := P
  obtain ⟨c, pl, pa⟩ := A
  have hR0 := hR
  obtain ⟨e1, r2, r3, r4, r5, r6, r7, r8, r9⟩ := hR
  dsimp only at *
  subst e1
  have hs5 : pcS pl (ct + 1) = pcS pl ct + pl ct := rfl
  refine bC.of (by decide) m_P_sum.1 (Nat.le_of_ble_eq_true rfl) ?_
  intro Γ G E0
  show bV D bcl Γ 7 ws 0 0 0 [(0, .ref a), (1, .int (s0)), (2, .int (nI (j))), (3, .int (nI (len)))] []
  have hs6 : pcS pl (j + 1) = pcS pl j + pl j := rfl
  have hs7 : pcS pl (j + 1) ≤ pcS pl (ct + 1) := pcS_mono (by omega)
  have loop : ∀ (d : Nat) (i : Nat), d + i = len → bV D bcl Γ 7 ws 0 0 17 [(0, .ref a), (1, .int (s0)), (2, .int (nI (j))), (3, .int (nI (len))), (4, .int (sumS (pa j) s0 i)), (5, .int (nI (len))), (6, .int (nI (i)))] [] := by
    intro d
    induction d with
    | zero =>
      intro i hd
      refine bV.iload G d_P_sum_17 rfl ?_
      refine bV.iload G d_P_sum_19 rfl ?_
      refine bV.icmp_geN (tgt := 44) G d_P_sum_21 (by decide) (by omega) (by omega) (fun c21 => ?_) (fun c21 => ?_)
      · refine bV.iload G d_P_sum_44 rfl ?_
        exact bV.iretI G E0 rfl rfl (by decide) (by decide) d_P_sum_46 ⟨by rw [show i = len by omega], rfl⟩
      · exfalso; omega
    | succ d ih =>
      intro i hd
      refine bV.iload G d_P_sum_17 rfl ?_
      refine bV.iload G d_P_sum_19 rfl ?_
      refine bV.icmp_geN (tgt := 44) G d_P_sum_21 (by decide) (by omega) (by omega) (fun c21 => ?_) (fun c21 => ?_)
      · exfalso; omega
      · refine bV.iload G d_P_sum_24 rfl ?_
        refine bV.aload_n G d_P_sum_26 rfl ?_
        refine bV.iload_n G d_P_sum_27 rfl ?_
        refine bV.iload G d_P_sum_28 rfl ?_
        refine bV.callVi G m_P_at bw_221 bw_222 bw_220 (c_P_at (ws := ws) (q1 := q1) (q2 := q2) (NI := NI) (ns := ns) (P := (f, st, sz, ct)) (A := (ct, pl, pa)) ⟨h0, h1, h2, n01, n02, n12⟩ hR0 (j := j) (i := i) (by first | omega | exact Nat.le_refl _) (by omega)) q0 h0 rfl rfl rfl rfl ⟨by decide, by decide⟩ ⟨by decide, by decide⟩ (Nat.le_of_ble_eq_true rfl) d_P_sum_30 (fun x9 ws9 h9 => ?_)
        obtain ⟨rfl, h9e⟩ := h9
        rw [h9e]
        dsimp only
        rw [if_pos (by omega)]
        refine bV.callSNi (host := "BoardStore") G m_S_nextSum bw_336 (by decide) (c_S_nextSum (ws := ws) (s := sumS (pa j) s0 i) (b := nI (pa j i))) rfl rfl ⟨by decide, by decide⟩ ⟨by decide, by decide⟩ (Nat.le_of_ble_eq_true rfl) d_P_sum_33 (fun x9 ws9 h9 => ?_)
        obtain ⟨rfl, h9e⟩ := h9
        rw [h9e]
        try dsimp only
        refine bV.istore G (lv' := [(0, .ref a), (1, .int (s0)), (2, .int (nI (j))), (3, .int (nI (len))), (4, .int (nextS (sumS (pa j) s0 i) (nI (pa j i)))), (5, .int (nI (len))), (6, .int (nI (i)))]) d_P_sum_36 (by decide) rfl rfl ?_
        refine bV.iincN G (lv' := [(0, .ref a), (1, .int (s0)), (2, .int (nI (j))), (3, .int (nI (len))), (4, .int (nextS (sumS (pa j) s0 i) (nI (pa j i)))), (5, .int (nI (len))), (6, .int (nI (i + 1)))]) d_P_sum_38 rfl (by decide) rfl rfl ?_
        refine bV.goto (tgt := 17) G d_P_sum_41 (by decide) ?_
        exact ih (i + 1) (by omega)
  refine bV.iload_n G d_P_sum_0 rfl ?_
  refine bV.istore G (lv' := [(0, .ref a), (1, .int (s0)), (2, .int (nI (j))), (3, .int (nI (len))), (4, .int (s0))]) d_P_sum_1 (by decide) rfl rfl ?_
  refine bV.iload_n G d_P_sum_3 rfl ?_
  refine bV.aload_n G d_P_sum_4 rfl ?_
  refine bV.iload_n G d_P_sum_5 rfl ?_
  refine bV.callVi G m_P_length bw_189 bw_190 bw_188 (c_P_length (ws := ws) (q1 := q1) (q2 := q2) (NI := NI) (ns := ns) (P := (f, st, sz, ct)) (A := (ct, pl, pa)) ⟨h0, h1, h2, n01, n02, n12⟩ hR0 (j := j) (by first | omega | exact Nat.le_refl _)) q0 h0 rfl rfl rfl rfl ⟨by decide, by decide⟩ ⟨by decide, by decide⟩ (Nat.le_of_ble_eq_true rfl) d_P_sum_6 (fun x9 ws9 h9 => ?_)
  obtain ⟨rfl, h9e⟩ := h9
  rw [h9e]
  try dsimp only
  refine bV.mmin G bw_334 bw_70 bw_4 bw_71 (by decide) (by decide) (by decide) (by decide) d_P_sum_9 ?_
  refine bV.topi (y := (nI (len))) (if_neg (nI_nlt hlen (by omega))) ?_
  refine bV.istore G (lv' := [(0, .ref a), (1, .int (s0)), (2, .int (nI (j))), (3, .int (nI (len))), (4, .int (s0)), (5, .int (nI (len)))]) d_P_sum_12 (by decide) rfl rfl ?_
  refine bV.iconst (v := nI 0) G d_P_sum_14 (by decide) ?_
  refine bV.istore G (lv' := [(0, .ref a), (1, .int (s0)), (2, .int (nI (j))), (3, .int (nI (len))), (4, .int (s0)), (5, .int (nI (len))), (6, .int (nI (0)))]) d_P_sum_15 (by decide) rfl rfl ?_
  exact loop len 0 (by omega)
end
section
/-! ===== Marks, Log: contracts ===== -/
def mk_at (cZ : ClassId) (ws : va_W) (q0 q1 a am NM : Nat) (g : Nat → Int32) : Prop := ws[q0]? = some (a, .inr (1, [.ref am])) ∧ ws[q1]? = some (am, .inl (cZ, NM, .inl g)) ∧ q0 ≠ q1
def mk_put (cZ : ClassId) (ws : va_W) (q1 am NM : Nat) (g : Nat → Int32) : va_W := ws.set q1 (am, .inl (cZ, NM, .inl g))
def mk_R (NM : Nat) (g : Nat → Int32) (m : Nat → Bool) : Prop := NM < 2 ^ 31 ∧ ∀ j, j < NM → g j = bB (m j)
def mk_up (m : Nat → Bool) (k : Nat) (b : Bool) : Nat → Bool := fun j => if j = k then b else m j
theorem mk_R_up {NM : Nat} {g : Nat → Int32} {m : Nat → Bool} {k : Nat} {b : Bool} (h : mk_R NM g m) : mk_R NM (upd g k (bB b)) (mk_up m k b) := by
  refine ⟨h.1, fun j hj => ?_⟩
  unfold mk_up
  by_cases hk : j = k
  · subst hk; rw [pk_us, if_pos rfl]
  · rw [pk_un hk, if_neg hk]; exact h.2 j hj
def lg_at (cI : ClassId) (ws : va_W) (q0 q1 a al : Nat) (f : Nat → Int32) (n : Nat) : Prop := ws[q0]? = some (a, .inr (0, [.ref al, .int (nI n)])) ∧ ws[q1]? = some (al, .inl (cI, 400, .inl f)) ∧ q0 ≠ q1
def lg_put (cI : ClassId) (ws : va_W) (q0 q1 a al : Nat) (f : Nat → Int32) (n : Nat) : va_W := (ws.set q1 (al, .inl (cI, 400, .inl f))).set q0 (a, .inr (0, [.ref al, .int (nI n)]))
def lg_R (f : Nat → Int32) (n : Nat) (lg : Nat → Nat) : Prop := n ≤ 400 ∧ (∀ j, j < n → f j = nI (lg j)) ∧ (∀ j, j < n → lg j < 256)
/-- how long the record that begins there is; 0: none begins there -/
def recLen (lg : Nat → Nat) (n i : Nat) : Nat := if i < n then (if lg i = 1 then 2 + (if i + 1 < n then lg (i + 1) else 0) else if lg i = 2 ∨ lg i = 4 then 2 else if lg i = 3 ∨ lg i = 5 then 1 else 0) else 0
theorem lmax {a : Nat} (h : a < 2 ^ 31) : (if nI 0 < nI a then nI a else nI 0) = nI a := by
  by_cases h0 : a = 0
  · subst h0; simp
  · rw [if_pos (nI_lt (by omega) h)]
theorem lmax2 {lg : Nat → Nat} {n i : Nat} (r3 : ∀ j, j < n → lg j < 256) : (if nI 0 < (if i < n then nI (lg i) else -1) then (if i < n then nI (lg i) else -1) else nI 0) = nI (if i < n then lg i else 0) := by
  by_cases hz : i < n
  · rw [if_pos hz, if_pos hz]
    exact lmax (by have := r3 _ hz; omega)
  · rw [if_neg hz, if_neg hz]
    decide
theorem d_K_isOn_0 : decode b_K_isOn 0 = .ok (.iload_n 1, 1) := by decide +kernel
theorem d_K_isOn_1 : decode b_K_isOn 1 = .ok (.ifCond .lt 25, 3) := by decide +kernel
theorem d_K_isOn_4 : decode b_K_isOn 4 = .ok (.iload_n 1, 1) := by decide +kernel
theorem d_K_isOn_5 : decode b_K_isOn 5 = .ok (.aload_n 0, 1) := by decide +kernel
theorem d_K_isOn_6 : decode b_K_isOn 6 = .ok (.getfield 13, 3) := by decide +kernel
theorem d_K_isOn_9 : decode b_K_isOn 9 = .ok (.arraylength, 1) := by decide +kernel
theorem d_K_isOn_10 : decode b_K_isOn 10 = .ok (.if_icmp .ge 16, 3) := by decide +kernel
theorem d_K_isOn_13 : decode b_K_isOn 13 = .ok (.aload_n 0, 1) := by decide +kernel
theorem d_K_isOn_14 : decode b_K_isOn 14 = .ok (.getfield 13, 3) := by decide +kernel
theorem d_K_isOn_17 : decode b_K_isOn 17 = .ok (.iload_n 1, 1) := by decide +kernel
theorem d_K_isOn_18 : decode b_K_isOn 18 = .ok (.baload, 1) := by decide +kernel
theorem d_K_isOn_19 : decode b_K_isOn 19 = .ok (.ifCond .eq 7, 3) := by decide +kernel
theorem d_K_isOn_22 : decode b_K_isOn 22 = .ok (.iconst 1, 1) := by decide +kernel
theorem d_K_isOn_23 : decode b_K_isOn 23 = .ok (.goto 4, 3) := by decide +kernel
theorem d_K_isOn_26 : decode b_K_isOn 26 = .ok (.iconst 0, 1) := by decide +kernel
theorem d_K_isOn_27 : decode b_K_isOn 27 = .ok (.ireturn, 1) := by decide +kernel
set_option maxRecDepth 20000 in
set_option maxHeartbeats 4000000 in
theorem c_K_isOn {D : va_G} {cI cZ cJ : ClassId} {ws : va_W} {q0 q1 a am NM : Nat} {g : Nat → Int32} {m : Nat → Bool} (hW : mk_at cZ ws q0 q1 a am NM g) (hR : mk_R NM g m) {j : Nat} (hj : j < 2 ^ 31) : bC D bcl (tys3 cI cZ cJ) y_K_isOn (rmL 0 0) ws [.ref a, .int (nI (j))] (bI (fun x ws9 => x = bB (decide (j < NM) && m j) ∧ ws9 = ws) bno) := by
  obtain ⟨h0, h1, n01⟩ := hW
  obtain ⟨r1, r2⟩ := hR
  refine bC.of (by decide) m_K_isOn.1 (Nat.le_of_ble_eq_true rfl) ?_
  intro Γ G E0
  show bV D bcl Γ 2 ws 0 0 0 [(0, .ref a), (1, .int (nI (j)))] []
  refine bV.iload_n G d_K_isOn_0 rfl ?_
  refine bV.if_ltN (tgt := 26) G d_K_isOn_1 (by decide) (by omega) ?_
  refine bV.iload_n G d_K_isOn_4 rfl ?_
  refine bV.aload_n G d_K_isOn_5 rfl ?_
  refine bV.getf G cl_K q0 0 h0 (by decide) bw_64 rfl d_K_isOn_6 ?_
  refine bV.alenN G q1 1 h1 rfl d_K_isOn_9 ?_
  refine bV.icmp_geN (tgt := 26) G d_K_isOn_10 (by decide) (by omega) (by omega) (fun c10 => ?_) (fun c10 => ?_)
  · refine bV.iconst (v := nI 0) G d_K_isOn_26 (by decide) ?_
    refine bV.topi (x := nI 0) (y := bB false) (by decide) ?_
    exact bV.iretI G E0 rfl (bB_n _) (by decide) (by decide) d_K_isOn_27 ⟨by first | rw [c19, Bool.and_false] | rw [decide_eq_false (by omega), Bool.false_and], rfl⟩
  · refine bV.aload_n G d_K_isOn_13 rfl ?_
    refine bV.getf G cl_K q0 0 h0 (by decide) bw_64 rfl d_K_isOn_14 ?_
    refine bV.iload_n G d_K_isOn_17 rfl ?_
    refine bV.zaloadN G q1 1 h1 rfl (by omega) (by omega) d_K_isOn_18 ?_
    refine bV.topi (y := (bB (m j))) (r2 _ (by omega)) ?_
    refine bV.if_eqB (tgt := 26) G d_K_isOn_19 (by decide) (fun c19 => ?_) (fun c19 => ?_)
    · refine bV.iconst (v := nI 0) G d_K_isOn_26 (by decide) ?_
      refine bV.topi (x := nI 0) (y := bB false) (by decide) ?_
      exact bV.iretI G E0 rfl (bB_n _) (by decide) (by decide) d_K_isOn_27 ⟨by first | rw [c19, Bool.and_false] | rw [decide_eq_false (by omega), Bool.false_and], rfl⟩
    · refine bV.iconst (v := nI 1) G d_K_isOn_22 (by decide) ?_
      refine bV.goto (tgt := 27) G d_K_isOn_23 (by decide) ?_
      refine bV.topi (x := nI 1) (y := bB true) (by decide) ?_
      exact bV.iretI G E0 rfl (bB_n _) (by decide) (by decide) d_K_isOn_27 ⟨by rw [decide_eq_true (by omega), c19]; rfl, rfl⟩
theorem d_K_turnOn_0 : decode b_K_turnOn 0 = .ok (.iload_n 1, 1) := by decide +kernel
theorem d_K_turnOn_1 : decode b_K_turnOn 1 = .ok (.ifCond .lt 19, 3) := by decide +kernel
theorem d_K_turnOn_4 : decode b_K_turnOn 4 = .ok (.iload_n 1, 1) := by decide +kernel
theorem d_K_turnOn_5 : decode b_K_turnOn 5 = .ok (.aload_n 0, 1) := by decide +kernel
theorem d_K_turnOn_6 : decode b_K_turnOn 6 = .ok (.getfield 13, 3) := by decide +kernel
theorem d_K_turnOn_9 : decode b_K_turnOn 9 = .ok (.arraylength, 1) := by decide +kernel
theorem d_K_turnOn_10 : decode b_K_turnOn 10 = .ok (.if_icmp .ge 10, 3) := by decide +kernel
theorem d_K_turnOn_13 : decode b_K_turnOn 13 = .ok (.aload_n 0, 1) := by decide +kernel
theorem d_K_turnOn_14 : decode b_K_turnOn 14 = .ok (.getfield 13, 3) := by decide +kernel
theorem d_K_turnOn_17 : decode b_K_turnOn 17 = .ok (.iload_n 1, 1) := by decide +kernel
theorem d_K_turnOn_18 : decode b_K_turnOn 18 = .ok (.iconst 1, 1) := by decide +kernel
theorem d_K_turnOn_19 : decode b_K_turnOn 19 = .ok (.bastore, 1) := by decide +kernel
theorem d_K_turnOn_20 : decode b_K_turnOn 20 = .ok (.return_, 1) := by decide +kernel
set_option maxRecDepth 20000 in
set_option maxHeartbeats 4000000 in
theorem c_K_turnOn {D : va_G} {cI cZ cJ : ClassId} {ws : va_W} {q0 q1 a am NM : Nat} {g : Nat → Int32} {m : Nat → Bool} (hW : mk_at cZ ws q0 q1 a am NM g) (hR : mk_R NM g m) {j : Nat} (hj : j < NM) : bC D bcl (tys3 cI cZ cJ) y_K_turnOn (rmL 0 0) ws [.ref a, .int (nI (j))] (bO (fun ws9 => ws9 = mk_put cZ ws q1 am NM (upd g j (bB true))) bno) := by
  obtain ⟨h0, h1, n01⟩ := hW
  obtain ⟨r1, r2⟩ := hR
  refine bC.of (by decide) m_K_turnOn.1 (Nat.le_of_ble_eq_true rfl) ?_
  intro Γ G E0
  show bV D bcl Γ 2 ws 0 0 0 [(0, .ref a), (1, .int (nI (j)))] []
  refine bV.iload_n G d_K_turnOn_0 rfl ?_
  refine bV.if_ltN (tgt := 20) G d_K_turnOn_1 (by decide) (by omega) ?_
  refine bV.iload_n G d_K_turnOn_4 rfl ?_
  refine bV.aload_n G d_K_turnOn_5 rfl ?_
  refine bV.getf G cl_K q0 0 h0 (by decide) bw_64 rfl d_K_turnOn_6 ?_
  refine bV.alenN G q1 1 h1 rfl d_K_turnOn_9 ?_
  refine bV.icmp_geN (tgt := 20) G d_K_turnOn_10 (by decide) (by omega) (by omega) (fun c10 => ?_) (fun c10 => ?_)
  · exfalso; omega
  · refine bV.aload_n G d_K_turnOn_13 rfl ?_
    refine bV.getf G cl_K q0 0 h0 (by decide) bw_64 rfl d_K_turnOn_14 ?_
    refine bV.iload_n G d_K_turnOn_17 rfl ?_
    refine bV.iconst (v := nI 1) G d_K_turnOn_18 (by decide) ?_
    refine bV.topi (x := nI 1) (y := bB true) (by decide) ?_
    refine bV.zastoreN G (ws' := (ws.set q1 (am, .inl (cZ, NM, .inl (upd g j ((bB (true)))))))) q1 1 h1 rfl (by omega) (by omega) d_K_turnOn_19 rfl ?_
    have g1_q0 := bs_ne (x := (am, .inl (cZ, NM, .inl (upd g j ((bB (true))))))) (show q1 ≠ q0 from by omega) h0
    have g1_q1 := bs_eq (x := (am, .inl (cZ, NM, .inl (upd g j ((bB (true))))))) h1
    exact bV.vretO G E0 rfl (by decide) (by decide) d_K_turnOn_20 rfl
theorem d_K_turnOff_0 : decode b_K_turnOff 0 = .ok (.iload_n 1, 1) := by decide +kernel
theorem d_K_turnOff_1 : decode b_K_turnOff 1 = .ok (.ifCond .lt 19, 3) := by decide +kernel
theorem d_K_turnOff_4 : decode b_K_turnOff 4 = .ok (.iload_n 1, 1) := by decide +kernel
theorem d_K_turnOff_5 : decode b_K_turnOff 5 = .ok (.aload_n 0, 1) := by decide +kernel
theorem d_K_turnOff_6 : decode b_K_turnOff 6 = .ok (.getfield 13, 3) := by decide +kernel
theorem d_K_turnOff_9 : decode b_K_turnOff 9 = .ok (.arraylength, 1) := by decide +kernel
theorem d_K_turnOff_10 : decode b_K_turnOff 10 = .ok (.if_icmp .ge 10, 3) := by decide +kernel
theorem d_K_turnOff_13 : decode b_K_turnOff 13 = .ok (.aload_n 0, 1) := by decide +kernel
theorem d_K_turnOff_14 : decode b_K_turnOff 14 = .ok (.getfield 13, 3) := by decide +kernel
theorem d_K_turnOff_17 : decode b_K_turnOff 17 = .ok (.iload_n 1, 1) := by decide +kernel
theorem d_K_turnOff_18 : decode b_K_turnOff 18 = .ok (.iconst 0, 1) := by decide +kernel
theorem d_K_turnOff_19 : decode b_K_turnOff 19 = .ok (.bastore, 1) := by decide +kernel
theorem d_K_turnOff_20 : decode b_K_turnOff 20 = .ok (.return_, 1) := by decide +kernel
set_option maxRecDepth 20000 in
set_option maxHeartbeats 4000000 in
theorem c_K_turnOff {D : va_G} {cI cZ cJ : ClassId} {ws : va_W} {q0 q1 a am NM : Nat} {g : Nat → Int32} {m : Nat → Bool} (hW : mk_at cZ ws q0 q1 a am NM g) (hR : mk_R NM g m) {j : Nat} (hj : j < NM) : bC D bcl (tys3 cI cZ cJ) y_K_turnOff (rmL 0 0) ws [.ref a, .int (nI (j))] (bO (fun ws9 => ws9 = mk_put cZ ws q1 am NM (upd g j (bB false))) bno) := by
  obtain ⟨h0, h1, n01⟩ := hW
  obtain ⟨r1, r2⟩ := hR
  refine bC.of (by decide) m_K_turnOff.1 (Nat.le_of_ble_eq_true rfl) ?_
  intro Γ G E0
  show bV D bcl Γ 2 ws 0 0 0 [(0, .ref a), (1, .int (nI (j)))] []
  refine bV.iload_n G d_K_turnOff_0 rfl ?_
  refine bV.if_ltN (tgt := 20) G d_K_turnOff_1 (by decide) (by omega) ?_
  refine bV.iload_n G d_K_turnOff_4 rfl ?_
  refine bV.aload_n G d_K_turnOff_5 rfl ?_
  refine bV.getf G cl_K q0 0 h0 (by decide) bw_64 rfl d_K_turnOff_6 ?_
  refine bV.alenN G q1 1 h1 rfl d_K_turnOff_9 ?_
  refine bV.icmp_geN (tgt := 20) G d_K_turnOff_10 (by decide) (by omega) (by omega) (fun c10 => ?_) (fun c10 => ?_)
  · exfalso; omega
  · refine bV.aload_n G d_K_turnOff_13 rfl ?_
    refine bV.getf G cl_K q0 0 h0 (by decide) bw_64 rfl d_K_turnOff_14 ?_
    refine bV.iload_n G d_K_turnOff_17 rfl ?_
    refine bV.iconst (v := nI 0) G d_K_turnOff_18 (by decide) ?_
    refine bV.topi (x := nI 0) (y := bB false) (by decide) ?_
    refine bV.zastoreN G (ws' := (ws.set q1 (am, .inl (cZ, NM, .inl (upd g j ((bB (false)))))))) q1 1 h1 rfl (by omega) (by omega) d_K_turnOff_19 rfl ?_
    have g1_q0 := bs_ne (x := (am, .inl (cZ, NM, .inl (upd g j ((bB (false))))))) (show q1 ≠ q0 from by omega) h0
    have g1_q1 := bs_eq (x := (am, .inl (cZ, NM, .inl (upd g j ((bB (false))))))) h1
    exact bV.vretO G E0 rfl (by decide) (by decide) d_K_turnOff_20 rfl
theorem d_K_clear_0 : decode b_K_clear 0 = .ok (.iconst 0, 1) := by decide +kernel
theorem d_K_clear_1 : decode b_K_clear 1 = .ok (.istore_n 1, 1) := by decide +kernel
theorem d_K_clear_2 : decode b_K_clear 2 = .ok (.iload_n 1, 1) := by decide +kernel
theorem d_K_clear_3 : decode b_K_clear 3 = .ok (.aload_n 0, 1) := by decide +kernel
theorem d_K_clear_4 : decode b_K_clear 4 = .ok (.getfield 13, 3) := by decide +kernel
theorem d_K_clear_7 : decode b_K_clear 7 = .ok (.arraylength, 1) := by decide +kernel
theorem d_K_clear_8 : decode b_K_clear 8 = .ok (.if_icmp .ge 16, 3) := by decide +kernel
theorem d_K_clear_11 : decode b_K_clear 11 = .ok (.aload_n 0, 1) := by decide +kernel
theorem d_K_clear_12 : decode b_K_clear 12 = .ok (.getfield 13, 3) := by decide +kernel
theorem d_K_clear_15 : decode b_K_clear 15 = .ok (.iload_n 1, 1) := by decide +kernel
theorem d_K_clear_16 : decode b_K_clear 16 = .ok (.iconst 0, 1) := by decide +kernel
theorem d_K_clear_17 : decode b_K_clear 17 = .ok (.bastore, 1) := by decide +kernel
theorem d_K_clear_18 : decode b_K_clear 18 = .ok (.iinc 1 1, 3) := by decide +kernel
theorem d_K_clear_21 : decode b_K_clear 21 = .ok (.goto (-19), 3) := by decide +kernel
theorem d_K_clear_24 : decode b_K_clear 24 = .ok (.return_, 1) := by decide +kernel
set_option maxRecDepth 20000 in
set_option maxHeartbeats 4000000 in
theorem c_K_clear {D : va_G} {cI cZ cJ : ClassId} {ws : va_W} {q0 q1 a am NM : Nat} {g : Nat → Int32} {m : Nat → Bool} (hW : mk_at cZ ws q0 q1 a am NM g) (hR : mk_R NM g m) : bC D bcl (tys3 cI cZ cJ) y_K_clear (rmL 0 0) ws [.ref a] (bO (fun ws9 => ∃ g0 : Nat → Int32, (∀ j, j < NM → g0 j = bB false) ∧ ws9 = mk_put cZ ws q1 am NM g0) bno) := by
  obtain ⟨h0, h1, n01⟩ := hW
  obtain ⟨r1, r2⟩ := hR
  refine bC.of (by decide) m_K_clear.1 (Nat.le_of_ble_eq_true rfl) ?_
  intro Γ G E0
  show bV D bcl Γ 2 ws 0 0 0 [(0, .ref a)] []
  have loop : ∀ (d i : Nat) (g0 : Nat → Int32), d + i = NM → (∀ j, j < i → g0 j = bB false) → bV D bcl Γ 2 (ws.set q1 (am, .inl (cZ, NM, .inl g0))) 0 0 2 [(0, .ref a), (1, .int (nI (i)))] [] := by
    intro d
    induction d with
    | zero =>
      intro i g0 hd hg
      have k0 := bs_ne (x := (am, .inl (cZ, NM, .inl g0))) (show q1 ≠ q0 from by omega) h0
      have k1 := bs_eq (x := (am, .inl (cZ, NM, .inl g0))) h1
      refine bV.iload_n G d_K_clear_2 rfl ?_
      refine bV.aload_n G d_K_clear_3 rfl ?_
      refine bV.getf G cl_K q0 0 k0 (by decide) bw_64 rfl d_K_clear_4 ?_
      refine bV.alenN G q1 1 k1 rfl d_K_clear_7 ?_
      refine bV.icmp_geN (tgt := 24) G d_K_clear_8 (by decide) (by omega) (by omega) (fun c8 => ?_) (fun c8 => ?_)
      · exact bV.vretO G E0 rfl (by decide) (by decide) d_K_clear_24 ⟨g0, fun j hj => hg j (by omega), rfl⟩
      · exfalso; omega
    | succ d ih =>
      intro i g0 hd hg
      have k0 := bs_ne (x := (am, .inl (cZ, NM, .inl g0))) (show q1 ≠ q0 from by omega) h0
      have k1 := bs_eq (x := (am, .inl (cZ, NM, .inl g0))) h1
      refine bV.iload_n G d_K_clear_2 rfl ?_
      refine bV.aload_n G d_K_clear_3 rfl ?_
      refine bV.getf G cl_K q0 0 k0 (by decide) bw_64 rfl d_K_clear_4 ?_
      refine bV.alenN G q1 1 k1 rfl d_K_clear_7 ?_
      refine bV.icmp_geN (tgt := 24) G d_K_clear_8 (by decide) (by omega) (by omega) (fun c8 => ?_) (fun c8 => ?_)
      · exfalso; omega
      · refine bV.aload_n G d_K_clear_11 rfl ?_
        refine bV.getf G cl_K q0 0 k0 (by decide) bw_64 rfl d_K_clear_12 ?_
        refine bV.iload_n G d_K_clear_15 rfl ?_
        refine bV.iconst (v := nI 0) G d_K_clear_16 (by decide) ?_
        refine bV.topi (x := nI 0) (y := bB false) (by decide) ?_
        refine bV.zastoreN G (ws' := ((ws.set q1 (am, .inl (cZ, NM, .inl g0))).set q1 (am, .inl (cZ, NM, .inl (upd g0 i ((bB (false)))))))) q1 1 k1 rfl (by omega) (by omega) d_K_clear_17 rfl ?_
        have g1_q0 := bs_ne (x := (am, .inl (cZ, NM, .inl (upd g0 i ((bB (false))))))) (show q1 ≠ q0 from by omega) k0
        have g1_q1 := bs_eq (x := (am, .inl (cZ, NM, .inl (upd g0 i ((bB (false))))))) k1
        refine bV.iincN G (lv' := [(0, .ref a), (1, .int (nI (i + 1)))]) d_K_clear_18 rfl (by decide) rfl rfl ?_
        refine bV.goto (tgt := 2) G d_K_clear_21 (by decide) ?_
        rw [List.set_set]
        exact ih (i + 1) (upd g0 i (bB false)) (by omega) (fun j hj => by rcases Nat.lt_or_ge j i with z | z; rw [pk_un (by omega)]; exact hg j z; rw [show j = i by omega, pk_us])
  refine bV.iconst (v := nI 0) G d_K_clear_0 (by decide) ?_
  refine bV.istore_n G (lv' := [(0, .ref a), (1, .int (nI (0)))]) d_K_clear_1 (by decide) rfl rfl ?_
  have e := loop NM 0 g (by omega) (fun j hj => absurd hj (Nat.not_lt_zero _))
  rw [bs_same h1] at e
  exact e
theorem d_L_length_0 : decode b_L_length 0 = .ok (.aload_n 0, 1) := by decide +kernel
theorem d_L_length_1 : decode b_L_length 1 = .ok (.getfield 15, 3) := by decide +kernel
theorem d_L_length_4 : decode b_L_length 4 = .ok (.ireturn, 1) := by decide +kernel
set_option maxRecDepth 20000 in
set_option maxHeartbeats 4000000 in
theorem c_L_length {D : va_G} {cI cZ cJ : ClassId} {ws : va_W} {q0 q1 a al : Nat} {f : Nat → Int32} {n : Nat} {lg : Nat → Nat} (hW : lg_at cI ws q0 q1 a al f n) (hR : lg_R f n lg) : bC D bcl (tys3 cI cZ cJ) y_L_length (rmL 0 0) ws [.ref a] (bI (fun x ws9 => x = nI n ∧ ws9 = ws) bno) := by
  have hW0 := hW
  have hR0 := hR
  obtain ⟨h0, h1, n01⟩ := hW
  obtain ⟨r1, r2, r3⟩ := hR
  refine bC.of (by decide) m_L_length.1 (Nat.le_of_ble_eq_true rfl) ?_
  intro Γ G E0
  show bV D bcl Γ 1 ws 0 0 0 [(0, .ref a)] []
  refine bV.aload_n G d_L_length_0 rfl ?_
  refine bV.getf G cl_L q0 1 h0 (by decide) bw_28 rfl d_L_length_1 ?_
  exact bV.iretI G E0 rfl rfl (by decide) (by decide) d_L_length_4 ⟨rfl, rfl⟩
theorem d_L_hasRoom_0 : decode b_L_hasRoom 0 = .ok (.iload_n 1, 1) := by decide +kernel
theorem d_L_hasRoom_1 : decode b_L_hasRoom 1 = .ok (.aload_n 0, 1) := by decide +kernel
theorem d_L_hasRoom_2 : decode b_L_hasRoom 2 = .ok (.getfield 9, 3) := by decide +kernel
theorem d_L_hasRoom_5 : decode b_L_hasRoom 5 = .ok (.arraylength, 1) := by decide +kernel
theorem d_L_hasRoom_6 : decode b_L_hasRoom 6 = .ok (.aload_n 0, 1) := by decide +kernel
theorem d_L_hasRoom_7 : decode b_L_hasRoom 7 = .ok (.getfield 15, 3) := by decide +kernel
theorem d_L_hasRoom_10 : decode b_L_hasRoom 10 = .ok (.isub, 1) := by decide +kernel
theorem d_L_hasRoom_11 : decode b_L_hasRoom 11 = .ok (.if_icmp .gt 7, 3) := by decide +kernel
theorem d_L_hasRoom_14 : decode b_L_hasRoom 14 = .ok (.iconst 1, 1) := by decide +kernel
theorem d_L_hasRoom_15 : decode b_L_hasRoom 15 = .ok (.goto 4, 3) := by decide +kernel
theorem d_L_hasRoom_18 : decode b_L_hasRoom 18 = .ok (.iconst 0, 1) := by decide +kernel
theorem d_L_hasRoom_19 : decode b_L_hasRoom 19 = .ok (.ireturn, 1) := by decide +kernel
set_option maxRecDepth 20000 in
set_option maxHeartbeats 4000000 in
theorem c_L_hasRoom {D : va_G} {cI cZ cJ : ClassId} {ws : va_W} {q0 q1 a al : Nat} {f : Nat → Int32} {n : Nat} {lg : Nat → Nat} (hW : lg_at cI ws q0 q1 a al f n) (hR : lg_R f n lg) {y : Nat} (hx : y < 2 ^ 31) : bC D bcl (tys3 cI cZ cJ) y_L_hasRoom (rmL 0 0) ws [.ref a, .int (nI (y))] (bI (fun x ws9 => x = bB (decide (y + n ≤ 400)) ∧ ws9 = ws) bno) := by
  have hW0 := hW
  have hR0 := hR
  obtain ⟨h0, h1, n01⟩ := hW
  obtain ⟨r1, r2, r3⟩ := hR
  refine bC.of (by decide) m_L_hasRoom.1 (Nat.le_of_ble_eq_true rfl) ?_
  intro Γ G E0
  show bV D bcl Γ 2 ws 0 0 0 [(0, .ref a), (1, .int (nI (y)))] []
  refine bV.iload_n G d_L_hasRoom_0 rfl ?_
  refine bV.aload_n G d_L_hasRoom_1 rfl ?_
  refine bV.getf G cl_L q0 0 h0 (by decide) bw_27 rfl d_L_hasRoom_2 ?_
  refine bV.alenN G q1 0 h1 rfl d_L_hasRoom_5 ?_
  refine bV.aload_n G d_L_hasRoom_6 rfl ?_
  refine bV.getf G cl_L q0 1 h0 (by decide) bw_28 rfl d_L_hasRoom_7 ?_
  refine bV.isubN G d_L_hasRoom_10 (by omega) ?_
  refine bV.icmp_gtN (tgt := 18) G d_L_hasRoom_11 (by decide) (by omega) (by omega) (fun c11 => ?_) (fun c11 => ?_)
  · refine bV.iconst (v := nI 0) G d_L_hasRoom_18 (by decide) ?_
    refine bV.topi (x := nI 0) (y := bB false) (by decide) ?_
    exact bV.iretI G E0 rfl (bB_n _) (by decide) (by decide) d_L_hasRoom_19 ⟨by rw [decide_eq_false (by omega)], rfl⟩
  · refine bV.iconst (v := nI 1) G d_L_hasRoom_14 (by decide) ?_
    refine bV.goto (tgt := 19) G d_L_hasRoom_15 (by decide) ?_
    refine bV.topi (x := nI 1) (y := bB true) (by decide) ?_
    exact bV.iretI G E0 rfl (bB_n _) (by decide) (by decide) d_L_hasRoom_19 ⟨by rw [decide_eq_true (by omega)], rfl⟩
theorem d_L_add_0 : decode b_L_add 0 = .ok (.aload_n 0, 1) := by decide +kernel
theorem d_L_add_1 : decode b_L_add 1 = .ok (.getfield 15, 3) := by decide +kernel
theorem d_L_add_4 : decode b_L_add 4 = .ok (.ifCond .lt 35, 3) := by decide +kernel
theorem d_L_add_7 : decode b_L_add 7 = .ok (.aload_n 0, 1) := by decide +kernel
theorem d_L_add_8 : decode b_L_add 8 = .ok (.getfield 15, 3) := by decide +kernel
theorem d_L_add_11 : decode b_L_add 11 = .ok (.aload_n 0, 1) := by decide +kernel
theorem d_L_add_12 : decode b_L_add 12 = .ok (.getfield 9, 3) := by decide +kernel
theorem d_L_add_15 : decode b_L_add 15 = .ok (.arraylength, 1) := by decide +kernel
theorem d_L_add_16 : decode b_L_add 16 = .ok (.if_icmp .ge 23, 3) := by decide +kernel
theorem d_L_add_19 : decode b_L_add 19 = .ok (.aload_n 0, 1) := by decide +kernel
theorem d_L_add_20 : decode b_L_add 20 = .ok (.getfield 9, 3) := by decide +kernel
theorem d_L_add_23 : decode b_L_add 23 = .ok (.aload_n 0, 1) := by decide +kernel
theorem d_L_add_24 : decode b_L_add 24 = .ok (.getfield 15, 3) := by decide +kernel
theorem d_L_add_27 : decode b_L_add 27 = .ok (.iload_n 1, 1) := by decide +kernel
theorem d_L_add_28 : decode b_L_add 28 = .ok (.iastore, 1) := by decide +kernel
theorem d_L_add_29 : decode b_L_add 29 = .ok (.aload_n 0, 1) := by decide +kernel
theorem d_L_add_30 : decode b_L_add 30 = .ok (.dup, 1) := by decide +kernel
theorem d_L_add_31 : decode b_L_add 31 = .ok (.getfield 15, 3) := by decide +kernel
theorem d_L_add_34 : decode b_L_add 34 = .ok (.iconst 1, 1) := by decide +kernel
theorem d_L_add_35 : decode b_L_add 35 = .ok (.iadd, 1) := by decide +kernel
theorem d_L_add_36 : decode b_L_add 36 = .ok (.putfield 15, 3) := by decide +kernel
theorem d_L_add_39 : decode b_L_add 39 = .ok (.return_, 1) := by decide +kernel
set_option maxRecDepth 20000 in
set_option maxHeartbeats 4000000 in
theorem c_L_add {D : va_G} {cI cZ cJ : ClassId} {ws : va_W} {q0 q1 a al : Nat} {f : Nat → Int32} {n : Nat} {lg : Nat → Nat} (hW : lg_at cI ws q0 q1 a al f n) (hR : lg_R f n lg) {x : Nat} (hx : n < 400) : bC D bcl (tys3 cI cZ cJ) y_L_add (rmL 0 0) ws [.ref a, .int (nI (x))] (bO (fun ws9 => ws9 = lg_put cI ws q0 q1 a al (upd f n (nI x)) (n + 1)) bno) := by
  have hW0 := hW
  have hR0 := hR
  obtain ⟨h0, h1, n01⟩ := hW
  obtain ⟨r1, r2, r3⟩ := hR
  refine bC.of (by decide) m_L_add.1 (Nat.le_of_ble_eq_true rfl) ?_
  intro Γ G E0
  show bV D bcl Γ 2 ws 0 0 0 [(0, .ref a), (1, .int (nI (x)))] []
  refine bV.aload_n G d_L_add_0 rfl ?_
  refine bV.getf G cl_L q0 1 h0 (by decide) bw_28 rfl d_L_add_1 ?_
  refine bV.if_ltN (tgt := 39) G d_L_add_4 (by decide) (by omega) ?_
  refine bV.aload_n G d_L_add_7 rfl ?_
  refine bV.getf G cl_L q0 1 h0 (by decide) bw_28 rfl d_L_add_8 ?_
  refine bV.aload_n G d_L_add_11 rfl ?_
  refine bV.getf G cl_L q0 0 h0 (by decide) bw_27 rfl d_L_add_12 ?_
  refine bV.alenN G q1 0 h1 rfl d_L_add_15 ?_
  refine bV.icmp_geN (tgt := 39) G d_L_add_16 (by decide) (by omega) (by omega) (fun c16 => ?_) (fun c16 => ?_)
  · exfalso; omega
  · refine bV.aload_n G d_L_add_19 rfl ?_
    refine bV.getf G cl_L q0 0 h0 (by decide) bw_27 rfl d_L_add_20 ?_
    refine bV.aload_n G d_L_add_23 rfl ?_
    refine bV.getf G cl_L q0 1 h0 (by decide) bw_28 rfl d_L_add_24 ?_
    refine bV.iload_n G d_L_add_27 rfl ?_
    refine bV.iastoreN G (ws' := (ws.set q1 (al, .inl (cI, 400, .inl (upd f n ((nI (x)))))))) q1 0 h1 rfl (by omega) (by omega) d_L_add_28 rfl ?_
    have g1_q0 := bs_ne (x := (al, .inl (cI, 400, .inl (upd f n ((nI (x))))))) (show q1 ≠ q0 from by omega) h0
    have g1_q1 := bs_eq (x := (al, .inl (cI, 400, .inl (upd f n ((nI (x))))))) h1
    refine bV.aload_n G d_L_add_29 rfl ?_
    refine bV.dup G d_L_add_30 rfl ?_
    refine bV.getf G cl_L q0 1 g1_q0 (by decide) bw_28 rfl d_L_add_31 ?_
    refine bV.iconst (v := nI 1) G d_L_add_34 (by decide) ?_
    refine bV.iaddN G d_L_add_35 ?_
    refine bV.putf G (ws' := ((ws.set q1 (al, .inl (cI, 400, .inl (upd f n ((nI (x))))))).set q0 (a, .inr (0, [.ref al, .int (nI (n + 1))])))) cl_L q0 1 g1_q0 (by decide) bw_28 rfl rfl rfl (Nat.le_of_ble_eq_true rfl) d_L_add_36 rfl ?_
    have g2_q0 := bs_eq (x := (a, .inr (0, [.ref al, .int (nI (n + 1))]))) g1_q0
    have g2_q1 := bs_ne (x := (a, .inr (0, [.ref al, .int (nI (n + 1))]))) (show q0 ≠ q1 from by omega) g1_q1
    exact bV.vretO G E0 rfl (by decide) (by decide) d_L_add_39 rfl
theorem d_L_at_0 : decode b_L_at 0 = .ok (.iload_n 1, 1) := by decide +kernel
theorem d_L_at_1 : decode b_L_at 1 = .ok (.ifCond .lt 29, 3) := by decide +kernel
theorem d_L_at_4 : decode b_L_at 4 = .ok (.iload_n 1, 1) := by decide +kernel
theorem d_L_at_5 : decode b_L_at 5 = .ok (.aload_n 0, 1) := by decide +kernel
theorem d_L_at_6 : decode b_L_at 6 = .ok (.getfield 15, 3) := by decide +kernel
theorem d_L_at_9 : decode b_L_at 9 = .ok (.if_icmp .ge 21, 3) := by decide +kernel
theorem d_L_at_12 : decode b_L_at 12 = .ok (.iload_n 1, 1) := by decide +kernel
theorem d_L_at_13 : decode b_L_at 13 = .ok (.aload_n 0, 1) := by decide +kernel
theorem d_L_at_14 : decode b_L_at 14 = .ok (.getfield 9, 3) := by decide +kernel
theorem d_L_at_17 : decode b_L_at 17 = .ok (.arraylength, 1) := by decide +kernel
theorem d_L_at_18 : decode b_L_at 18 = .ok (.if_icmp .ge 12, 3) := by decide +kernel
theorem d_L_at_21 : decode b_L_at 21 = .ok (.aload_n 0, 1) := by decide +kernel
theorem d_L_at_22 : decode b_L_at 22 = .ok (.getfield 9, 3) := by decide +kernel
theorem d_L_at_25 : decode b_L_at 25 = .ok (.iload_n 1, 1) := by decide +kernel
theorem d_L_at_26 : decode b_L_at 26 = .ok (.iaload, 1) := by decide +kernel
theorem d_L_at_27 : decode b_L_at 27 = .ok (.goto 4, 3) := by decide +kernel
theorem d_L_at_30 : decode b_L_at 30 = .ok (.iconst (-1), 1) := by decide +kernel
theorem d_L_at_31 : decode b_L_at 31 = .ok (.ireturn, 1) := by decide +kernel
set_option maxRecDepth 20000 in
set_option maxHeartbeats 4000000 in
theorem c_L_at {D : va_G} {cI cZ cJ : ClassId} {ws : va_W} {q0 q1 a al : Nat} {f : Nat → Int32} {n : Nat} {lg : Nat → Nat} (hW : lg_at cI ws q0 q1 a al f n) (hR : lg_R f n lg) {i : Nat} (hi : i < 2 ^ 31) : bC D bcl (tys3 cI cZ cJ) y_L_at (rmL 0 0) ws [.ref a, .int (nI (i))] (bI (fun x ws9 => x = (if i < n then nI (lg i) else (-1)) ∧ ws9 = ws) bno) := by
  have hW0 := hW
  have hR0 := hR
  obtain ⟨h0, h1, n01⟩ := hW
  obtain ⟨r1, r2, r3⟩ := hR
  refine bC.of (by decide) m_L_at.1 (Nat.le_of_ble_eq_true rfl) ?_
  intro Γ G E0
  show bV D bcl Γ 2 ws 0 0 0 [(0, .ref a), (1, .int (nI (i)))] []
  refine bV.iload_n G d_L_at_0 rfl ?_
  refine bV.if_ltN (tgt := 30) G d_L_at_1 (by decide) (by omega) ?_
  refine bV.iload_n G d_L_at_4 rfl ?_
  refine bV.aload_n G d_L_at_5 rfl ?_
  refine bV.getf G cl_L q0 1 h0 (by decide) bw_28 rfl d_L_at_6 ?_
  refine bV.icmp_geN (tgt := 30) G d_L_at_9 (by decide) (by omega) (by omega) (fun c9 => ?_) (fun c9 => ?_)
  · refine bV.iconst (v := (-1)) G d_L_at_30 (by decide) ?_
    exact bV.iretI G E0 rfl rfl (by decide) (by decide) d_L_at_31 ⟨(if_neg (by omega)).symm, rfl⟩
  · refine bV.iload_n G d_L_at_12 rfl ?_
    refine bV.aload_n G d_L_at_13 rfl ?_
    refine bV.getf G cl_L q0 0 h0 (by decide) bw_27 rfl d_L_at_14 ?_
    refine bV.alenN G q1 0 h1 rfl d_L_at_17 ?_
    refine bV.icmp_geN (tgt := 30) G d_L_at_18 (by decide) (by omega) (by omega) (fun c18 => ?_) (fun c18 => ?_)
    · exfalso; omega
    · refine bV.aload_n G d_L_at_21 rfl ?_
      refine bV.getf G cl_L q0 0 h0 (by decide) bw_27 rfl d_L_at_22 ?_
      refine bV.iload_n G d_L_at_25 rfl ?_
      refine bV.ialoadN G q1 0 h1 rfl (by omega) (by omega) d_L_at_26 ?_
      refine bV.topi (y := (nI (lg i))) (r2 _ (by omega)) ?_
      refine bV.goto (tgt := 31) G d_L_at_27 (by decide) ?_
      exact bV.iretI G E0 rfl rfl (by decide) (by decide) d_L_at_31 ⟨(if_pos (by omega)).symm, rfl⟩
theorem d_L_cutTo_0 : decode b_L_cutTo 0 = .ok (.iload_n 1, 1) := by decide +kernel
theorem d_L_cutTo_1 : decode b_L_cutTo 1 = .ok (.ifCond .lt 16, 3) := by decide +kernel
theorem d_L_cutTo_4 : decode b_L_cutTo 4 = .ok (.iload_n 1, 1) := by decide +kernel
theorem d_L_cutTo_5 : decode b_L_cutTo 5 = .ok (.aload_n 0, 1) := by decide +kernel
theorem d_L_cutTo_6 : decode b_L_cutTo 6 = .ok (.getfield 15, 3) := by decide +kernel
theorem d_L_cutTo_9 : decode b_L_cutTo 9 = .ok (.if_icmp .ge 8, 3) := by decide +kernel
theorem d_L_cutTo_12 : decode b_L_cutTo 12 = .ok (.aload_n 0, 1) := by decide +kernel
theorem d_L_cutTo_13 : decode b_L_cutTo 13 = .ok (.iload_n 1, 1) := by decide +kernel
theorem d_L_cutTo_14 : decode b_L_cutTo 14 = .ok (.putfield 15, 3) := by decide +kernel
theorem d_L_cutTo_17 : decode b_L_cutTo 17 = .ok (.return_, 1) := by decide +kernel
set_option maxRecDepth 20000 in
set_option maxHeartbeats 4000000 in
theorem c_L_cutTo {D : va_G} {cI cZ cJ : ClassId} {ws : va_W} {q0 q1 a al : Nat} {f : Nat → Int32} {n : Nat} {lg : Nat → Nat} (hW : lg_at cI ws q0 q1 a al f n) (hR : lg_R f n lg) {i : Nat} (hi : i ≤ n) : bC D bcl (tys3 cI cZ cJ) y_L_cutTo (rmL 0 0) ws [.ref a, .int (nI (i))] (bO (fun ws9 => ws9 = lg_put cI ws q0 q1 a al f i) bno) := by
  have hW0 := hW
  have hR0 := hR
  obtain ⟨h0, h1, n01⟩ := hW
  obtain ⟨r1, r2, r3⟩ := hR
  refine bC.of (by decide) m_L_cutTo.1 (Nat.le_of_ble_eq_true rfl) ?_
  intro Γ G E0
  show bV D bcl Γ 2 ws 0 0 0 [(0, .ref a), (1, .int (nI (i)))] []
  refine bV.iload_n G d_L_cutTo_0 rfl ?_
  refine bV.if_ltN (tgt := 17) G d_L_cutTo_1 (by decide) (by omega) ?_
  refine bV.iload_n G d_L_cutTo_4 rfl ?_
  refine bV.aload_n G d_L_cutTo_5 rfl ?_
  refine bV.getf G cl_L q0 1 h0 (by decide) bw_28 rfl d_L_cutTo_6 ?_
  refine bV.icmp_geN (tgt := 17) G d_L_cutTo_9 (by decide) (by omega) (by omega) (fun c9 => ?_) (fun c9 => ?_)
  · exact bV.vretO G E0 rfl (by decide) (by decide) d_L_cutTo_17 (by unfold lg_put; rw [bs_same h1, show i = n by omega, bs_same h0])
  · refine bV.aload_n G d_L_cutTo_12 rfl ?_
    refine bV.iload_n G d_L_cutTo_13 rfl ?_
    refine bV.putf G (ws' := (ws.set q0 (a, .inr (0, [.ref al, .int (nI (i))])))) cl_L q0 1 h0 (by decide) bw_28 rfl rfl rfl (Nat.le_of_ble_eq_true rfl) d_L_cutTo_14 rfl ?_
    have g1_q0 := bs_eq (x := (a, .inr (0, [.ref al, .int (nI (i))]))) h0
    have g1_q1 := bs_ne (x := (a, .inr (0, [.ref al, .int (nI (i))]))) (show q0 ≠ q1 from by omega) h1
    exact bV.vretO G E0 rfl (by decide) (by decide) d_L_cutTo_17 (by unfold lg_put; rw [bs_same h1])
theorem d_L_lengthByKind_0 : decode b_L_lengthByKind 0 = .ok (.aload_n 0, 1) := by decide +kernel
theorem d_L_lengthByKind_1 : decode b_L_lengthByKind 1 = .ok (.iload_n 1, 1) := by decide +kernel
theorem d_L_lengthByKind_2 : decode b_L_lengthByKind 2 = .ok (.invokevirtual 23, 3) := by decide +kernel
theorem d_L_lengthByKind_5 : decode b_L_lengthByKind 5 = .ok (.tableswitch 53 1 5 #[35, 49, 51, 49, 51], 35) := by decide +kernel
theorem d_L_lengthByKind_40 : decode b_L_lengthByKind 40 = .ok (.iconst 2, 1) := by decide +kernel
theorem d_L_lengthByKind_41 : decode b_L_lengthByKind 41 = .ok (.iconst 0, 1) := by decide +kernel
theorem d_L_lengthByKind_42 : decode b_L_lengthByKind 42 = .ok (.aload_n 0, 1) := by decide +kernel
theorem d_L_lengthByKind_43 : decode b_L_lengthByKind 43 = .ok (.iload_n 1, 1) := by decide +kernel
theorem d_L_lengthByKind_44 : decode b_L_lengthByKind 44 = .ok (.iconst 1, 1) := by decide +kernel
theorem d_L_lengthByKind_45 : decode b_L_lengthByKind 45 = .ok (.iadd, 1) := by decide +kernel
theorem d_L_lengthByKind_46 : decode b_L_lengthByKind 46 = .ok (.invokevirtual 23, 3) := by decide +kernel
theorem d_L_lengthByKind_49 : decode b_L_lengthByKind 49 = .ok (.invokestatic 26, 3) := by decide +kernel
theorem d_L_lengthByKind_52 : decode b_L_lengthByKind 52 = .ok (.iadd, 1) := by decide +kernel
theorem d_L_lengthByKind_53 : decode b_L_lengthByKind 53 = .ok (.ireturn, 1) := by decide +kernel
theorem d_L_lengthByKind_54 : decode b_L_lengthByKind 54 = .ok (.iconst 2, 1) := by decide +kernel
theorem d_L_lengthByKind_55 : decode b_L_lengthByKind 55 = .ok (.ireturn, 1) := by decide +kernel
theorem d_L_lengthByKind_56 : decode b_L_lengthByKind 56 = .ok (.iconst 1, 1) := by decide +kernel
theorem d_L_lengthByKind_57 : decode b_L_lengthByKind 57 = .ok (.ireturn, 1) := by decide +kernel
theorem d_L_lengthByKind_58 : decode b_L_lengthByKind 58 = .ok (.iconst 0, 1) := by decide +kernel
theorem d_L_lengthByKind_59 : decode b_L_lengthByKind 59 = .ok (.ireturn, 1) := by decide +kernel
set_option maxRecDepth 20000 in
set_option maxHeartbeats 4000000 in
theorem c_L_lengthByKind {D : va_G} {cI cZ cJ : ClassId} {ws : va_W} {q0 q1 a al : Nat} {f : Nat → Int32} {n : Nat} {lg : Nat → Nat} (hW : lg_at cI ws q0 q1 a al f n) (hR : lg_R f n lg) {p : Nat} (hp : p ≤ n) : bC D bcl (tys3 cI cZ cJ) y_L_lengthByKind (rmL 1 21) ws [.ref a, .int (nI p)] (bI (fun x ws9 => x = nI (recLen lg n p) ∧ ws9 = ws) bno) := by
  have hW0 := hW
  have hR0 := hR
  obtain ⟨h0, h1, n01⟩ := hW
  obtain ⟨r1, r2, r3⟩ := hR
  refine bC.of (by decide) m_L_lengthByKind.1 (Nat.le_of_ble_eq_true rfl) ?_
  intro Γ G E0
  show bV D bcl Γ 2 ws 0 0 0 [(0, .ref a), (1, .int (nI (p)))] []
  refine bV.aload_n G d_L_lengthByKind_0 rfl ?_
  refine bV.iload_n G d_L_lengthByKind_1 rfl ?_
  refine bV.callVi G m_L_at bw_466 bw_467 bw_465 (c_L_at hW0 hR0 (i := p) (by omega)) q0 h0 rfl rfl rfl rfl ⟨by decide, by decide⟩ ⟨by decide, by decide⟩ (Nat.le_of_ble_eq_true rfl) d_L_lengthByKind_2 (fun x9 ws9 h9 => ?_)
  obtain ⟨rfl, h9e⟩ := h9
  rw [h9e]
  by_cases hpn : p < n
  · rw [if_pos hpn]
    have hv := r3 p hpn
    rcases (show lg p = 1 ∨ lg p = 2 ∨ lg p = 3 ∨ lg p = 4 ∨ lg p = 5 ∨ (lg p < 1 ∨ 5 < lg p) by omega) with hk | hk | hk | hk | hk | hk
    · refine bV.tableIn (tgt := 40) (off := 35) G d_L_lengthByKind_5 (by rw [hk]; decide) (by rw [hk]; decide) (by rw [hk]; rfl) (by decide) ?_
      refine bV.iconst (v := nI 2) G d_L_lengthByKind_40 (by decide) ?_
      refine bV.iconst (v := nI 0) G d_L_lengthByKind_41 (by decide) ?_
      refine bV.aload_n G d_L_lengthByKind_42 rfl ?_
      refine bV.iload_n G d_L_lengthByKind_43 rfl ?_
      refine bV.iconst (v := nI 1) G d_L_lengthByKind_44 (by decide) ?_
      refine bV.iaddN G d_L_lengthByKind_45 ?_
      refine bV.callVi G m_L_at bw_466 bw_467 bw_465 (c_L_at hW0 hR0 (i := p + 1) (by omega)) q0 h0 rfl rfl rfl rfl ⟨by decide, by decide⟩ ⟨by decide, by decide⟩ (Nat.le_of_ble_eq_true rfl) d_L_lengthByKind_46 (fun x9 ws9 h9 => ?_)
      obtain ⟨rfl, h9e⟩ := h9
      rw [h9e]
      refine bV.mmax G bw_469 bw_42 bw_4 bw_43 (by decide) (by decide) (by decide) (by decide) d_L_lengthByKind_49 ?_
      refine bV.topi (y := (nI (if p + 1 < n then lg (p + 1) else 0))) (lmax2 r3) ?_
      refine bV.iaddN G d_L_lengthByKind_52 ?_
      exact bV.iretI G E0 rfl rfl (by decide) (by decide) d_L_lengthByKind_53 ⟨by unfold recLen; rw [if_pos hpn]; simp [hk], rfl⟩
    · refine bV.tableIn (tgt := 54) (off := 49) G d_L_lengthByKind_5 (by rw [hk]; decide) (by rw [hk]; decide) (by rw [hk]; rfl) (by decide) ?_
      refine bV.iconst (v := nI 2) G d_L_lengthByKind_54 (by decide) ?_
      exact bV.iretI G E0 rfl rfl (by decide) (by decide) d_L_lengthByKind_55 ⟨by unfold recLen; rw [if_pos hpn]; simp [hk], rfl⟩
    · refine bV.tableIn (tgt := 56) (off := 51) G d_L_lengthByKind_5 (by rw [hk]; decide) (by rw [hk]; decide) (by rw [hk]; rfl) (by decide) ?_
      refine bV.iconst (v := nI 1) G d_L_lengthByKind_56 (by decide) ?_
      exact bV.iretI G E0 rfl rfl (by decide) (by decide) d_L_lengthByKind_57 ⟨by unfold recLen; rw [if_pos hpn]; simp [hk], rfl⟩
    · refine bV.tableIn (tgt := 54) (off := 49) G d_L_lengthByKind_5 (by rw [hk]; decide) (by rw [hk]; decide) (by rw [hk]; rfl) (by decide) ?_
      refine bV.iconst (v := nI 2) G d_L_lengthByKind_54 (by decide) ?_
      exact bV.iretI G E0 rfl rfl (by decide) (by decide) d_L_lengthByKind_55 ⟨by unfold recLen; rw [if_pos hpn]; simp [hk], rfl⟩
    · refine bV.tableIn (tgt := 56) (off := 51) G d_L_lengthByKind_5 (by rw [hk]; decide) (by rw [hk]; decide) (by rw [hk]; rfl) (by decide) ?_
      refine bV.iconst (v := nI 1) G d_L_lengthByKind_56 (by decide) ?_
      exact bV.iretI G E0 rfl rfl (by decide) (by decide) d_L_lengthByKind_57 ⟨by unfold recLen; rw [if_pos hpn]; simp [hk], rfl⟩
    · refine bV.tableOut (tgt := 58) G d_L_lengthByKind_5 (by rw [nI_toInt (by omega)]; omega) (by decide) ?_
      refine bV.iconst (v := nI 0) G d_L_lengthByKind_58 (by decide) ?_
      exact bV.iretI G E0 rfl rfl (by decide) (by decide) d_L_lengthByKind_59 ⟨by unfold recLen; rw [if_pos hpn, if_neg (by omega), if_neg (by omega), if_neg (by omega)], rfl⟩
  · rw [if_neg hpn]
    refine bV.tableOut (tgt := 58) G d_L_lengthByKind_5 (Or.inl (by decide)) (by decide) ?_
    refine bV.iconst (v := nI 0) G d_L_lengthByKind_58 (by decide) ?_
    exact bV.iretI G E0 rfl rfl (by decide) (by decide) d_L_lengthByKind_59 ⟨by unfold recLen; rw [if_neg hpn], rfl⟩
theorem d_L_lengthOfRecord_0 : decode b_L_lengthOfRecord 0 = .ok (.aload_n 0, 1) := by decide +kernel
theorem d_L_lengthOfRecord_1 : decode b_L_lengthOfRecord 1 = .ok (.iload_n 1, 1) := by decide +kernel
theorem d_L_lengthOfRecord_2 : decode b_L_lengthOfRecord 2 = .ok (.invokevirtual 19, 3) := by decide +kernel
theorem d_L_lengthOfRecord_5 : decode b_L_lengthOfRecord 5 = .ok (.istore_n 2, 1) := by decide +kernel
theorem d_L_lengthOfRecord_6 : decode b_L_lengthOfRecord 6 = .ok (.iload_n 2, 1) := by decide +kernel
theorem d_L_lengthOfRecord_7 : decode b_L_lengthOfRecord 7 = .ok (.aload_n 0, 1) := by decide +kernel
theorem d_L_lengthOfRecord_8 : decode b_L_lengthOfRecord 8 = .ok (.getfield 15, 3) := by decide +kernel
theorem d_L_lengthOfRecord_11 : decode b_L_lengthOfRecord 11 = .ok (.iload_n 1, 1) := by decide +kernel
theorem d_L_lengthOfRecord_12 : decode b_L_lengthOfRecord 12 = .ok (.isub, 1) := by decide +kernel
theorem d_L_lengthOfRecord_13 : decode b_L_lengthOfRecord 13 = .ok (.if_icmp .gt 7, 3) := by decide +kernel
theorem d_L_lengthOfRecord_16 : decode b_L_lengthOfRecord 16 = .ok (.iload_n 2, 1) := by decide +kernel
theorem d_L_lengthOfRecord_17 : decode b_L_lengthOfRecord 17 = .ok (.goto 4, 3) := by decide +kernel
theorem d_L_lengthOfRecord_20 : decode b_L_lengthOfRecord 20 = .ok (.iconst 0, 1) := by decide +kernel
theorem d_L_lengthOfRecord_21 : decode b_L_lengthOfRecord 21 = .ok (.ireturn, 1) := by decide +kernel
set_option maxRecDepth 20000 in
set_option maxHeartbeats 4000000 in
theorem c_L_lengthOfRecord {D : va_G} {cI cZ cJ : ClassId} {ws : va_W} {q0 q1 a al : Nat} {f : Nat → Int32} {n : Nat} {lg : Nat → Nat} (hW : lg_at cI ws q0 q1 a al f n) (hR : lg_R f n lg) {p : Nat} (hp : p ≤ n) : bC D bcl (tys3 cI cZ cJ) y_L_lengthOfRecord (rmL 2 43) ws [.ref a, .int (nI (p))] (bI (fun x ws9 => x = nI (if recLen lg n p ≤ n - p then recLen lg n p else 0) ∧ ws9 = ws) bno) := by
  have hW0 := hW
  have hR0 := hR
  obtain ⟨h0, h1, n01⟩ := hW
  obtain ⟨r1, r2, r3⟩ := hR
  refine bC.of (by decide) m_L_lengthOfRecord.1 (Nat.le_of_ble_eq_true rfl) ?_
  intro Γ G E0
  show bV D bcl Γ 3 ws 0 0 0 [(0, .ref a), (1, .int (nI (p)))] []
  refine bV.aload_n G d_L_lengthOfRecord_0 rfl ?_
  refine bV.iload_n G d_L_lengthOfRecord_1 rfl ?_
  refine bV.callVi G m_L_lengthByKind bw_463 bw_s20 bw_461 (c_L_lengthByKind hW0 hR0 (p := p) hp) q0 h0 rfl rfl rfl rfl ⟨by decide, by decide⟩ ⟨by decide, by decide⟩ (Nat.le_of_ble_eq_true rfl) d_L_lengthOfRecord_2 (fun x9 ws9 h9 => ?_)
  obtain ⟨rfl, h9e⟩ := h9
  rw [h9e]
  have hv : recLen lg n p < 1000 := by
    unfold recLen
    have a1 := r3 (p + 1)
    repeat' split
    all_goals omega
  refine bV.istore_n G (lv' := [(0, .ref a), (1, .int (nI (p))), (2, .int (nI (recLen lg n p)))]) d_L_lengthOfRecord_5 (by decide) rfl rfl ?_
  refine bV.iload_n G d_L_lengthOfRecord_6 rfl ?_
  refine bV.aload_n G d_L_lengthOfRecord_7 rfl ?_
  refine bV.getf G cl_L q0 1 h0 (by decide) bw_28 rfl d_L_lengthOfRecord_8 ?_
  refine bV.iload_n G d_L_lengthOfRecord_11 rfl ?_
  refine bV.isubN G d_L_lengthOfRecord_12 (by omega) ?_
  refine bV.icmp_gtN (tgt := 20) G d_L_lengthOfRecord_13 (by decide) (by omega) (by omega) (fun c13 => ?_) (fun c13 => ?_)
  · refine bV.iconst (v := nI 0) G d_L_lengthOfRecord_20 (by decide) ?_
    exact bV.iretI G E0 rfl rfl (by decide) (by decide) d_L_lengthOfRecord_21 ⟨by rw [if_neg (by omega)], rfl⟩
  · refine bV.iload_n G d_L_lengthOfRecord_16 rfl ?_
    refine bV.goto (tgt := 21) G d_L_lengthOfRecord_17 (by decide) ?_
    exact bV.iretI G E0 rfl rfl (by decide) (by decide) d_L_lengthOfRecord_21 ⟨by rw [if_pos (by omega)], rfl⟩
end
section
/-! ===== the store: its world, and its parts' contracts over it ===== -/
theorem bC.mono {D : va_G} {cl : List vw_C} {tys : List (ClassId × FieldType)} {y : MethodName} {rm : Room} {ws : va_W} {av : List Value} {post post' : bo → va_W → Prop} (h : bC D cl tys y rm ws av post) (hp : ∀ r ws', post r ws' → post' r ws') : bC D cl tys y rm ws av post' := by
  intro l hl sz p e ha hc hk s m args below hf happ hP hK
  obtain ⟨n, o, h1, h2, h3, ⟨r, ws1, q1, q2, q3⟩, h4⟩ := h l hl sz p e ha hc hk s m args below hf happ hP hK
  exact ⟨n, o, h1, h2, h3, ⟨r, ws1, q1, hp r ws1 q2, q3⟩, h4⟩
theorem bO_mono {Ψ Ψ' : va_W → Prop} {Θ : String → va_W → Prop} (h : ∀ ws', Ψ ws' → Ψ' ws') : ∀ r ws', bO Ψ Θ r ws' → bO Ψ' Θ r ws' := fun r ws' hp => hp.elim (fun z => Or.inl ⟨z.1, h _ z.2⟩) Or.inr
theorem bI_mono {Ψ Ψ' : Int32 → va_W → Prop} {Θ : String → va_W → Prop} (h : ∀ x ws', Ψ x ws' → Ψ' x ws') : ∀ r ws', bI Ψ Θ r ws' → bI Ψ' Θ r ws' := fun r ws' hp => hp.elim (fun ⟨x, z1, z2⟩ => Or.inl ⟨x, z1, h _ _ z2⟩) Or.inr
def wS (ad : Nat → Nat) (cI cZ : ClassId) (mp : Nat) (lf : Nat → Int32) (n : Nat) (Pb : pc_C) (gt gp gh : Nat → Int32) (Pv : pc_C) (gd : Nat → Int32) (Pq : pc_C) (cr : Bool) (rest : va_W) : va_W :=
  (ad 0, .inr (3, [.ref (ad 1), .ref (ad 3), .ref (ad 6), .ref (ad 8), .ref (ad 10), .ref (ad 12), .ref (ad 15), .ref (ad 17), .int (bB cr)])) ::
  (ad 1, .inr (0, [.ref (ad 2), .int (nI n)])) :: (ad 2, .inl (cI, 400, .inl lf)) ::
  (ad 3, .inr (2, [.ref (ad 4), .ref (ad 5), .int (nI Pb.2.2.1), .int (nI Pb.2.2.2)])) :: (ad 4, .inl (cI, 600, .inl Pb.1)) :: (ad 5, .inl (cI, 25, .inl Pb.2.1)) ::
  (ad 6, .inr (1, [.ref (ad 7)])) :: (ad 7, .inl (cZ, 24, .inl gt)) ::
  (ad 8, .inr (1, [.ref (ad 9)])) :: (ad 9, .inl (cZ, 24, .inl gp)) ::
  (ad 10, .inr (1, [.ref (ad 11)])) :: (ad 11, .inl (cZ, 24, .inl gh)) ::
  (ad 12, .inr (2, [.ref (ad 13), .ref (ad 14), .int (nI Pv.2.2.1), .int (nI Pv.2.2.2)])) :: (ad 13, .inl (cI, 104, .inl Pv.1)) :: (ad 14, .inl (cI, 13, .inl Pv.2.1)) ::
  (ad 15, .inr (1, [.ref (ad 16)])) :: (ad 16, .inl (cZ, 12, .inl gd)) ::
  (ad 17, .inr (2, [.ref (ad 18), .ref (ad 19), .int (nI Pq.2.2.1), .int (nI Pq.2.2.2)])) :: (ad 18, .inl (cI, 664, .inl Pq.1)) :: (ad 19, .inl (cI, mp + 1, .inl Pq.2.1)) :: rest
section WSF
variable {D : va_G} {cI cZ cJ : ClassId} {ad : Nat → Nat} {mp : Nat} {lf : Nat → Int32} {n : Nat} {Pb : pc_C} {gt gp gh : Nat → Int32} {Pv : pc_C} {gd : Nat → Int32} {Pq : pc_C} {cr : Bool} {rest : va_W} {A : pc_A} {m : Nat → Bool} {lg : Nat → Nat}
theorem wS_l : lg_at cI (wS ad cI cZ mp lf n Pb gt gp gh Pv gd Pq cr rest) 1 2 (ad 1) (ad 2) lf n := ⟨rfl, rfl, by decide⟩
theorem wS_b : pc_at cI (wS ad cI cZ mp lf n Pb gt gp gh Pv gd Pq cr rest) 3 4 5 (ad 3) (ad 4) (ad 5) 600 25 Pb := ⟨rfl, rfl, rfl, by decide, by decide, by decide⟩
theorem wS_v : pc_at cI (wS ad cI cZ mp lf n Pb gt gp gh Pv gd Pq cr rest) 12 13 14 (ad 12) (ad 13) (ad 14) 104 13 Pv := ⟨rfl, rfl, rfl, by decide, by decide, by decide⟩
theorem wS_q : pc_at cI (wS ad cI cZ mp lf n Pb gt gp gh Pv gd Pq cr rest) 17 18 19 (ad 17) (ad 18) (ad 19) 664 (mp + 1) Pq := ⟨rfl, rfl, rfl, by decide, by decide, by decide⟩
theorem wS_t : mk_at cZ (wS ad cI cZ mp lf n Pb gt gp gh Pv gd Pq cr rest) 6 7 (ad 6) (ad 7) 24 gt := ⟨rfl, rfl, by decide⟩
theorem wS_p : mk_at cZ (wS ad cI cZ mp lf n Pb gt gp gh Pv gd Pq cr rest) 8 9 (ad 8) (ad 9) 24 gp := ⟨rfl, rfl, by decide⟩
theorem wS_h : mk_at cZ (wS ad cI cZ mp lf n Pb gt gp gh Pv gd Pq cr rest) 10 11 (ad 10) (ad 11) 24 gh := ⟨rfl, rfl, by decide⟩
theorem wS_d : mk_at cZ (wS ad cI cZ mp lf n Pb gt gp gh Pv gd Pq cr rest) 15 16 (ad 15) (ad 16) 12 gd := ⟨rfl, rfl, by decide⟩
theorem cS_b_add {x : Nat} (hR : pc_R 600 25 Pb A) (hx : x < 2 ^ 31) (hr : pcS A.2.1 (A.1 + 1) < 600) : bC D bcl (tys3 cI cZ cJ) y_P_add (rmL 0 0) (wS ad cI cZ mp lf n Pb gt gp gh Pv gd Pq cr rest) [.ref (ad 3), .int (nI x)] (bO (fun ws9 => ∃ z : pc_C, pc_R 600 25 z (A.1, fup A.2.1 A.1 (A.2.1 A.1 + 1), fup2 A.2.2 A.1 (A.2.1 A.1) x) ∧ ws9 = wS ad cI cZ mp lf n z gt gp gh Pv gd Pq cr rest) bno) :=
  (c_P_add wS_b hR (by rw [hR.2.2.2.2.1]; exact hr)).mono (bO_mono fun ws' h => ⟨_, pc_R_add hR hx (by rw [hR.2.2.2.2.1]; exact hr), h⟩)
theorem cS_b_close (hR : pc_R 600 25 Pb A) (hr : A.1 + 1 < 25) : bC D bcl (tys3 cI cZ cJ) y_P_close (rmL 0 0) (wS ad cI cZ mp lf n Pb gt gp gh Pv gd Pq cr rest) [.ref (ad 3)] (bI (fun x ws9 => x = nI A.1 ∧ ∃ z : pc_C, pc_R 600 25 z (A.1 + 1, fup A.2.1 (A.1 + 1) 0, A.2.2) ∧ ws9 = wS ad cI cZ mp lf n z gt gp gh Pv gd Pq cr rest) bno) :=
  (c_P_close wS_b hR hr).mono (bI_mono fun x ws' h => ⟨h.1, _, pc_R_close hR hr, h.2⟩)
theorem cS_b_clearOpen (hR : pc_R 600 25 Pb A) : bC D bcl (tys3 cI cZ cJ) y_P_clearOpen (rmL 2 42) (wS ad cI cZ mp lf n Pb gt gp gh Pv gd Pq cr rest) [.ref (ad 3)] (bO (fun ws9 => ∃ z : pc_C, pc_R 600 25 z (A.1, fup A.2.1 A.1 0, A.2.2) ∧ ws9 = wS ad cI cZ mp lf n z gt gp gh Pv gd Pq cr rest) bno) :=
  (c_P_clearOpen wS_b hR).mono (bO_mono fun ws' h => ⟨_, pc_R_clearOpen hR, h⟩)
theorem cS_b_clear (hR : pc_R 600 25 Pb A) : bC D bcl (tys3 cI cZ cJ) y_P_clear (rmL 0 0) (wS ad cI cZ mp lf n Pb gt gp gh Pv gd Pq cr rest) [.ref (ad 3)] (bO (fun ws9 => ∃ z : pc_C, pc_R 600 25 z (0, fun _ => 0, A.2.2) ∧ ws9 = wS ad cI cZ mp lf n z gt gp gh Pv gd Pq cr rest) bno) :=
  (c_P_clear wS_b hR).mono (bO_mono fun ws' h => ⟨_, pc_R_clear hR, h⟩)
theorem cS_b_put {j i x : Nat} (hR : pc_R 600 25 Pb A) (hj : j ≤ A.1) (hi : i < A.2.1 j) (hx : x < 2 ^ 31) : bC D bcl (tys3 cI cZ cJ) y_P_put (rmL 1 22) (wS ad cI cZ mp lf n Pb gt gp gh Pv gd Pq cr rest) [.ref (ad 3), .int (nI j), .int (nI i), .int (nI x)] (bO (fun ws9 => ∃ z : pc_C, pc_R 600 25 z (A.1, A.2.1, fup2 A.2.2 j i x) ∧ ws9 = wS ad cI cZ mp lf n z gt gp gh Pv gd Pq cr rest) bno) :=
  (c_P_put wS_b hR hj hi).mono (bO_mono fun ws' h => ⟨_, pc_R_put hR hj hi hx, h⟩)
theorem cS_v_add {x : Nat} (hR : pc_R 104 13 Pv A) (hx : x < 2 ^ 31) (hr : pcS A.2.1 (A.1 + 1) < 104) : bC D bcl (tys3 cI cZ cJ) y_P_add (rmL 0 0) (wS ad cI cZ mp lf n Pb gt gp gh Pv gd Pq cr rest) [.ref (ad 12), .int (nI x)] (bO (fun ws9 => ∃ z : pc_C, pc_R 104 13 z (A.1, fup A.2.1 A.1 (A.2.1 A.1 + 1), fup2 A.2.2 A.1 (A.2.1 A.1) x) ∧ ws9 = wS ad cI cZ mp lf n Pb gt gp gh z gd Pq cr rest) bno) :=
  (c_P_add wS_v hR (by rw [hR.2.2.2.2.1]; exact hr)).mono (bO_mono fun ws' h => ⟨_, pc_R_add hR hx (by rw [hR.2.2.2.2.1]; exact hr), h⟩)
theorem cS_v_close (hR : pc_R 104 13 Pv A) (hr : A.1 + 1 < 13) : bC D bcl (tys3 cI cZ cJ) y_P_close (rmL 0 0) (wS ad cI cZ mp lf n Pb gt gp gh Pv gd Pq cr rest) [.ref (ad 12)] (bI (fun x ws9 => x = nI A.1 ∧ ∃ z : pc_C, pc_R 104 13 z (A.1 + 1, fup A.2.1 (A.1 + 1) 0, A.2.2) ∧ ws9 = wS ad cI cZ mp lf n Pb gt gp gh z gd Pq cr rest) bno) :=
  (c_P_close wS_v hR hr).mono (bI_mono fun x ws' h => ⟨h.1, _, pc_R_close hR hr, h.2⟩)
theorem cS_v_clearOpen (hR : pc_R 104 13 Pv A) : bC D bcl (tys3 cI cZ cJ) y_P_clearOpen (rmL 2 42) (wS ad cI cZ mp lf n Pb gt gp gh Pv gd Pq cr rest) [.ref (ad 12)] (bO (fun ws9 => ∃ z : pc_C, pc_R 104 13 z (A.1, fup A.2.1 A.1 0, A.2.2) ∧ ws9 = wS ad cI cZ mp lf n Pb gt gp gh z gd Pq cr rest) bno) :=
  (c_P_clearOpen wS_v hR).mono (bO_mono fun ws' h => ⟨_, pc_R_clearOpen hR, h⟩)
theorem cS_v_clear (hR : pc_R 104 13 Pv A) : bC D bcl (tys3 cI cZ cJ) y_P_clear (rmL 0 0) (wS ad cI cZ mp lf n Pb gt gp gh Pv gd Pq cr rest) [.ref (ad 12)] (bO (fun ws9 => ∃ z : pc_C, pc_R 104 13 z (0, fun _ => 0, A.2.2) ∧ ws9 = wS ad cI cZ mp lf n Pb gt gp gh z gd Pq cr rest) bno) :=
  (c_P_clear wS_v hR).mono (bO_mono fun ws' h => ⟨_, pc_R_clear hR, h⟩)
theorem cS_v_put {j i x : Nat} (hR : pc_R 104 13 Pv A) (hj : j ≤ A.1) (hi : i < A.2.1 j) (hx : x < 2 ^ 31) : bC D bcl (tys3 cI cZ cJ) y_P_put (rmL 1 22) (wS ad cI cZ mp lf n Pb gt gp gh Pv gd Pq cr rest) [.ref (ad 12), .int (nI j), .int (nI i), .int (nI x)] (bO (fun ws9 => ∃ z : pc_C, pc_R 104 13 z (A.1, A.2.1, fup2 A.2.2 j i x) ∧ ws9 = wS ad cI cZ mp lf n Pb gt gp gh z gd Pq cr rest) bno) :=
  (c_P_put wS_v hR hj hi).mono (bO_mono fun ws' h => ⟨_, pc_R_put hR hj hi hx, h⟩)
theorem cS_q_add {x : Nat} (hR : pc_R 664 (mp + 1) Pq A) (hx : x < 2 ^ 31) (hr : pcS A.2.1 (A.1 + 1) < 664) : bC D bcl (tys3 cI cZ cJ) y_P_add (rmL 0 0) (wS ad cI cZ mp lf n Pb gt gp gh Pv gd Pq cr rest) [.ref (ad 17), .int (nI x)] (bO (fun ws9 => ∃ z : pc_C, pc_R 664 (mp + 1) z (A.1, fup A.2.1 A.1 (A.2.1 A.1 + 1), fup2 A.2.2 A.1 (A.2.1 A.1) x) ∧ ws9 = wS ad cI cZ mp lf n Pb gt gp gh Pv gd z cr rest) bno) :=
  (c_P_add wS_q hR (by rw [hR.2.2.2.2.1]; exact hr)).mono (bO_mono fun ws' h => ⟨_, pc_R_add hR hx (by rw [hR.2.2.2.2.1]; exact hr), h⟩)
theorem cS_q_close (hR : pc_R 664 (mp + 1) Pq A) (hr : A.1 + 1 < (mp + 1)) : bC D bcl (tys3 cI cZ cJ) y_P_close (rmL 0 0) (wS ad cI cZ mp lf n Pb gt gp gh Pv gd Pq cr rest) [.ref (ad 17)] (bI (fun x ws9 => x = nI A.1 ∧ ∃ z : pc_C, pc_R 664 (mp + 1) z (A.1 + 1, fup A.2.1 (A.1 + 1) 0, A.2.2) ∧ ws9 = wS ad cI cZ mp lf n Pb gt gp gh Pv gd z cr rest) bno) :=
  (c_P_close wS_q hR hr).mono (bI_mono fun x ws' h => ⟨h.1, _, pc_R_close hR hr, h.2⟩)
theorem cS_q_clearOpen (hR : pc_R 664 (mp + 1) Pq A) : bC D bcl (tys3 cI cZ cJ) y_P_clearOpen (rmL 2 42) (wS ad cI cZ mp lf n Pb gt gp gh Pv gd Pq cr rest) [.ref (ad 17)] (bO (fun ws9 => ∃ z : pc_C, pc_R 664 (mp + 1) z (A.1, fup A.2.1 A.1 0, A.2.2) ∧ ws9 = wS ad cI cZ mp lf n Pb gt gp gh Pv gd z cr rest) bno) :=
  (c_P_clearOpen wS_q hR).mono (bO_mono fun ws' h => ⟨_, pc_R_clearOpen hR, h⟩)
theorem cS_q_clear (hR : pc_R 664 (mp + 1) Pq A) : bC D bcl (tys3 cI cZ cJ) y_P_clear (rmL 0 0) (wS ad cI cZ mp lf n Pb gt gp gh Pv gd Pq cr rest) [.ref (ad 17)] (bO (fun ws9 => ∃ z : pc_C, pc_R 664 (mp + 1) z (0, fun _ => 0, A.2.2) ∧ ws9 = wS ad cI cZ mp lf n Pb gt gp gh Pv gd z cr rest) bno) :=
  (c_P_clear wS_q hR).mono (bO_mono fun ws' h => ⟨_, pc_R_clear hR, h⟩)
theorem cS_q_put {j i x : Nat} (hR : pc_R 664 (mp + 1) Pq A) (hj : j ≤ A.1) (hi : i < A.2.1 j) (hx : x < 2 ^ 31) : bC D bcl (tys3 cI cZ cJ) y_P_put (rmL 1 22) (wS ad cI cZ mp lf n Pb gt gp gh Pv gd Pq cr rest) [.ref (ad 17), .int (nI j), .int (nI i), .int (nI x)] (bO (fun ws9 => ∃ z : pc_C, pc_R 664 (mp + 1) z (A.1, A.2.1, fup2 A.2.2 j i x) ∧ ws9 = wS ad cI cZ mp lf n Pb gt gp gh Pv gd z cr rest) bno) :=
  (c_P_put wS_q hR hj hi).mono (bO_mono fun ws' h => ⟨_, pc_R_put hR hj hi hx, h⟩)
theorem cS_t_turnOn {j : Nat} (hR : mk_R 24 gt m) (hj : j < 24) : bC D bcl (tys3 cI cZ cJ) y_K_turnOn (rmL 0 0) (wS ad cI cZ mp lf n Pb gt gp gh Pv gd Pq cr rest) [.ref (ad 6), .int (nI j)] (bO (fun ws9 => ∃ z : Nat → Int32, mk_R 24 z (mk_up m j true) ∧ ws9 = wS ad cI cZ mp lf n Pb z gp gh Pv gd Pq cr rest) bno) :=
  (c_K_turnOn wS_t hR hj).mono (bO_mono fun ws' h => ⟨_, mk_R_up hR, h⟩)
theorem cS_t_turnOff {j : Nat} (hR : mk_R 24 gt m) (hj : j < 24) : bC D bcl (tys3 cI cZ cJ) y_K_turnOff (rmL 0 0) (wS ad cI cZ mp lf n Pb gt gp gh Pv gd Pq cr rest) [.ref (ad 6), .int (nI j)] (bO (fun ws9 => ∃ z : Nat → Int32, mk_R 24 z (mk_up m j false) ∧ ws9 = wS ad cI cZ mp lf n Pb z gp gh Pv gd Pq cr rest) bno) :=
  (c_K_turnOff wS_t hR hj).mono (bO_mono fun ws' h => ⟨_, mk_R_up hR, h⟩)
theorem cS_t_clear (hR : mk_R 24 gt m) : bC D bcl (tys3 cI cZ cJ) y_K_clear (rmL 0 0) (wS ad cI cZ mp lf n Pb gt gp gh Pv gd Pq cr rest) [.ref (ad 6)] (bO (fun ws9 => ∃ z : Nat → Int32, mk_R 24 z (fun _ => false) ∧ ws9 = wS ad cI cZ mp lf n Pb z gp gh Pv gd Pq cr rest) bno) :=
  (c_K_clear wS_t hR).mono (bO_mono fun ws' h => by obtain ⟨g0, h1, h2⟩ := h; exact ⟨g0, ⟨hR.1, h1⟩, h2⟩)
theorem cS_p_turnOn {j : Nat} (hR : mk_R 24 gp m) (hj : j < 24) : bC D bcl (tys3 cI cZ cJ) y_K_turnOn (rmL 0 0) (wS ad cI cZ mp lf n Pb gt gp gh Pv gd Pq cr rest) [.ref (ad 8), .int (nI j)] (bO (fun ws9 => ∃ z : Nat → Int32, mk_R 24 z (mk_up m j true) ∧ ws9 = wS ad cI cZ mp lf n Pb gt z gh Pv gd Pq cr rest) bno) :=
  (c_K_turnOn wS_p hR hj).mono (bO_mono fun ws' h => ⟨_, mk_R_up hR, h⟩)
theorem cS_p_turnOff {j : Nat} (hR : mk_R 24 gp m) (hj : j < 24) : bC D bcl (tys3 cI cZ cJ) y_K_turnOff (rmL 0 0) (wS ad cI cZ mp lf n Pb gt gp gh Pv gd Pq cr rest) [.ref (ad 8), .int (nI j)] (bO (fun ws9 => ∃ z : Nat → Int32, mk_R 24 z (mk_up m j false) ∧ ws9 = wS ad cI cZ mp lf n Pb gt z gh Pv gd Pq cr rest) bno) :=
  (c_K_turnOff wS_p hR hj).mono (bO_mono fun ws' h => ⟨_, mk_R_up hR, h⟩)
theorem cS_p_clear (hR : mk_R 24 gp m) : bC D bcl (tys3 cI cZ cJ) y_K_clear (rmL 0 0) (wS ad cI cZ mp lf n Pb gt gp gh Pv gd Pq cr rest) [.ref (ad 8)] (bO (fun ws9 => ∃ z : Nat → Int32, mk_R 24 z (fun _ => false) ∧ ws9 = wS ad cI cZ mp lf n Pb gt z gh Pv gd Pq cr rest) bno) :=
  (c_K_clear wS_p hR).mono (bO_mono fun ws' h => by obtain ⟨g0, h1, h2⟩ := h; exact ⟨g0, ⟨hR.1, h1⟩, h2⟩)
theorem cS_h_turnOn {j : Nat} (hR : mk_R 24 gh m) (hj : j < 24) : bC D bcl (tys3 cI cZ cJ) y_K_turnOn (rmL 0 0) (wS ad cI cZ mp lf n Pb gt gp gh Pv gd Pq cr rest) [.ref (ad 10), .int (nI j)] (bO (fun ws9 => ∃ z : Nat → Int32, mk_R 24 z (mk_up m j true) ∧ ws9 = wS ad cI cZ mp lf n Pb gt gp z Pv gd Pq cr rest) bno) :=
  (c_K_turnOn wS_h hR hj).mono (bO_mono fun ws' h => ⟨_, mk_R_up hR, h⟩)
theorem cS_h_turnOff {j : Nat} (hR : mk_R 24 gh m) (hj : j < 24) : bC D bcl (tys3 cI cZ cJ) y_K_turnOff (rmL 0 0) (wS ad cI cZ mp lf n Pb gt gp gh Pv gd Pq cr rest) [.ref (ad 10), .int (nI j)] (bO (fun ws9 => ∃ z : Nat → Int32, mk_R 24 z (mk_up m j false) ∧ ws9 = wS ad cI cZ mp lf n Pb gt gp z Pv gd Pq cr rest) bno) :=
  (c_K_turnOff wS_h hR hj).mono (bO_mono fun ws' h => ⟨_, mk_R_up hR, h⟩)
theorem cS_h_clear (hR : mk_R 24 gh m) : bC D bcl (tys3 cI cZ cJ) y_K_clear (rmL 0 0) (wS ad cI cZ mp lf n Pb gt gp gh Pv gd Pq cr rest) [.ref (ad 10)] (bO (fun ws9 => ∃ z : Nat → Int32, mk_R 24 z (fun _ => false) ∧ ws9 = wS ad cI cZ mp lf n Pb gt gp z Pv gd Pq cr rest) bno) :=
  (c_K_clear wS_h hR).mono (bO_mono fun ws' h => by obtain ⟨g0, h1, h2⟩ := h; exact ⟨g0, ⟨hR.1, h1⟩, h2⟩)
theorem cS_d_turnOn {j : Nat} (hR : mk_R 12 gd m) (hj : j < 12) : bC D bcl (tys3 cI cZ cJ) y_K_turnOn (rmL 0 0) (wS ad cI cZ mp lf n Pb gt gp gh Pv gd Pq cr rest) [.ref (ad 15), .int (nI j)] (bO (fun ws9 => ∃ z : Nat → Int32, mk_R 12 z (mk_up m j true) ∧ ws9 = wS ad cI cZ mp lf n Pb gt gp gh Pv z Pq cr rest) bno) :=
  (c_K_turnOn wS_d hR hj).mono (bO_mono fun ws' h => ⟨_, mk_R_up hR, h⟩)
theorem cS_d_turnOff {j : Nat} (hR : mk_R 12 gd m) (hj : j < 12) : bC D bcl (tys3 cI cZ cJ) y_K_turnOff (rmL 0 0) (wS ad cI cZ mp lf n Pb gt gp gh Pv gd Pq cr rest) [.ref (ad 15), .int (nI j)] (bO (fun ws9 => ∃ z : Nat → Int32, mk_R 12 z (mk_up m j false) ∧ ws9 = wS ad cI cZ mp lf n Pb gt gp gh Pv z Pq cr rest) bno) :=
  (c_K_turnOff wS_d hR hj).mono (bO_mono fun ws' h => ⟨_, mk_R_up hR, h⟩)
theorem cS_d_clear (hR : mk_R 12 gd m) : bC D bcl (tys3 cI cZ cJ) y_K_clear (rmL 0 0) (wS ad cI cZ mp lf n Pb gt gp gh Pv gd Pq cr rest) [.ref (ad 15)] (bO (fun ws9 => ∃ z : Nat → Int32, mk_R 12 z (fun _ => false) ∧ ws9 = wS ad cI cZ mp lf n Pb gt gp gh Pv z Pq cr rest) bno) :=
  (c_K_clear wS_d hR).mono (bO_mono fun ws' h => by obtain ⟨g0, h1, h2⟩ := h; exact ⟨g0, ⟨hR.1, h1⟩, h2⟩)
theorem lg_R_add {f : Nat → Int32} {n x : Nat} {lg : Nat → Nat} (h : lg_R f n lg) (hn : n < 400) (hx : x < 256) : lg_R (upd f n (nI x)) (n + 1) (fup lg n x) := by
  obtain ⟨h1, h2, h3⟩ := h
  refine ⟨by omega, fun j hj => ?_, fun j hj => ?_⟩
  · by_cases hk : j = n
    · subst hk; rw [pk_us, fup_s]
    · rw [pk_un hk, fup_n hk]; exact h2 j (by omega)
  · by_cases hk : j = n
    · subst hk; rw [fup_s]; exact hx
    · rw [fup_n hk]; exact h3 j (by omega)
theorem lg_R_cut {f : Nat → Int32} {n k : Nat} {lg : Nat → Nat} (h : lg_R f n lg) (hk : k ≤ n) : lg_R f k lg := ⟨by have := h.1; omega, fun j hj => h.2.1 j (by omega), fun j hj => h.2.2 j (by omega)⟩
theorem cS_l_add {x : Nat} (hR : lg_R lf n lg) (hn : n < 400) (hx : x < 256) : bC D bcl (tys3 cI cZ cJ) y_L_add (rmL 0 0) (wS ad cI cZ mp lf n Pb gt gp gh Pv gd Pq cr rest) [.ref (ad 1), .int (nI x)] (bO (fun ws9 => ∃ z : Nat → Int32, lg_R z (n + 1) (fup lg n x) ∧ ws9 = wS ad cI cZ mp z (n + 1) Pb gt gp gh Pv gd Pq cr rest) bno) :=
  (c_L_add wS_l hR hn).mono (bO_mono fun ws' h => ⟨_, lg_R_add hR hn hx, h⟩)
theorem cS_l_cutTo {i : Nat} (hR : lg_R lf n lg) (hi : i ≤ n) : bC D bcl (tys3 cI cZ cJ) y_L_cutTo (rmL 0 0) (wS ad cI cZ mp lf n Pb gt gp gh Pv gd Pq cr rest) [.ref (ad 1), .int (nI i)] (bO (fun ws9 => ws9 = wS ad cI cZ mp lf i Pb gt gp gh Pv gd Pq cr rest) bno) :=
  (c_L_cutTo wS_l hR hi).mono (bO_mono fun ws' h => h)
end WSF
theorem oa_187 : ∀ w ∈ Bundle.ownAtoms "BoardStore" 187 "java/lang/IllegalStateException" ["java/lang/RuntimeException", "java/lang/Exception"], w ∈ bw ∨ w = .laysStatic Bundle.tN "UNASSIGNED_STACK" Bundle.steD ∨ w = .laysStatic Bundle.tN "SUPPRESSED_SENTINEL" Bundle.listD ∨ w = .isRef (.static Bundle.tN "UNASSIGNED_STACK" Bundle.steD) ∨ w = .isRef (.static Bundle.tN "SUPPRESSED_SENTINEL" Bundle.listD) := by decide +kernel
theorem oa_199 : ∀ w ∈ Bundle.ownAtoms "BoardStore" 199 "java/lang/IndexOutOfBoundsException" ["java/lang/RuntimeException", "java/lang/Exception"], w ∈ bw ∨ w = .laysStatic Bundle.tN "UNASSIGNED_STACK" Bundle.steD ∨ w = .laysStatic Bundle.tN "SUPPRESSED_SENTINEL" Bundle.listD ∨ w = .isRef (.static Bundle.tN "UNASSIGNED_STACK" Bundle.steD) ∨ w = .isRef (.static Bundle.tN "SUPPRESSED_SENTINEL" Bundle.listD) := by decide +kernel
theorem oa_212 : ∀ w ∈ Bundle.ownAtoms "BoardStore" 212 "java/lang/IllegalArgumentException" ["java/lang/RuntimeException", "java/lang/Exception"], w ∈ bw ∨ w = .laysStatic Bundle.tN "UNASSIGNED_STACK" Bundle.steD ∨ w = .laysStatic Bundle.tN "SUPPRESSED_SENTINEL" Bundle.listD ∨ w = .isRef (.static Bundle.tN "UNASSIGNED_STACK" Bundle.steD) ∨ w = .isRef (.static Bundle.tN "SUPPRESSED_SENTINEL" Bundle.listD) := by decide +kernel
end
section
/-! ===== the store: guards, reads ===== -/
theorem pc_R_len {NI ns : Nat} {P : pc_C} {A : pc_A} {j : Nat} (h : pc_R NI ns P A) (hj : j ≤ A.1) : A.2.1 j ≤ NI := by
  have h1 : pcS A.2.1 (j + 1) = pcS A.2.1 j + A.2.1 j := rfl
  have h2 : pcS A.2.1 (j + 1) ≤ pcS A.2.1 (A.1 + 1) := pcS_mono (by omega)
  have h3 := h.2.2.2.2.1
  have h4 := h.2.2.2.2.2.1
  omega
theorem pc_R_val {NI ns : Nat} {P : pc_C} {A : pc_A} {j i : Nat} (h : pc_R NI ns P A) (hj : j ≤ A.1) (hi : i < A.2.1 j) : A.2.2 j i < 2 ^ 31 := h.2.2.2.2.2.2.2.2 j i hj hi
theorem d_S_requireRunning_0 : decode b_S_requireRunning 0 = .ok (.aload_n 0, 1) := by decide +kernel
theorem d_S_requireRunning_1 : decode b_S_requireRunning 1 = .ok (.getfield 58, 3) := by decide +kernel
theorem d_S_requireRunning_4 : decode b_S_requireRunning 4 = .ok (.ifCond .eq 13, 3) := by decide +kernel
theorem d_S_requireRunning_7 : decode b_S_requireRunning 7 = .ok (.new 183, 3) := by decide +kernel
theorem d_S_requireRunning_10 : decode b_S_requireRunning 10 = .ok (.dup, 1) := by decide +kernel
theorem d_S_requireRunning_11 : decode b_S_requireRunning 11 = .ok (.ldc 185, 2) := by decide +kernel
theorem d_S_requireRunning_13 : decode b_S_requireRunning 13 = .ok (.invokespecial 187, 3) := by decide +kernel
theorem d_S_requireRunning_16 : decode b_S_requireRunning 16 = .ok (.athrow, 1) := by decide +kernel
theorem d_S_requireRunning_17 : decode b_S_requireRunning 17 = .ok (.return_, 1) := by decide +kernel
set_option maxRecDepth 20000 in
set_option maxHeartbeats 4000000 in
theorem c_S_requireRunning {D : va_G} {cI cZ cJ : ClassId} {ad : Nat → Nat} {mp : Nat} {lf : Nat → Int32} {n : Nat} {Pb : pc_C} {gt gp gh : Nat → Int32} {Pv : pc_C} {gd : Nat → Int32} {Pq : pc_C} {cr : Bool} {rest : va_W}    : bC D bcl (tys3 cI cZ cJ) y_S_requireRunning ({ frames := 6, cells := 1, slots := 6, locals := 84 }) (wS ad cI cZ mp lf n Pb gt gp gh Pv gd Pq cr rest) [.ref (ad 0)] (bO (fun ws9 => cr = false ∧ ws9 = wS ad cI cZ mp lf n Pb gt gp gh Pv gd Pq cr rest) (fun E ws9 => cr = true ∧ E = "java/lang/IllegalStateException" ∧ ws9 = wS ad cI cZ mp lf n Pb gt gp gh Pv gd Pq cr rest)) := by
  refine bC.of (by decide) m_S_requireRunning.1 (Nat.le_of_ble_eq_true rfl) ?_
  intro Γ G E0
  show bV D bcl Γ 1 (wS ad cI cZ mp lf n Pb gt gp gh Pv gd Pq cr rest) 0 0 0 [(0, .ref (ad 0))] []
  refine bV.aload_n G d_S_requireRunning_0 rfl ?_
  refine bV.getf G cl_S 0 8 rfl (by decide) bw_81 rfl d_S_requireRunning_1 ?_
  refine bV.if_eqB (tgt := 17) G d_S_requireRunning_4 (by decide) (fun c4 => ?_) (fun c4 => ?_)
  · exact bV.vretO G E0 rfl (by decide) (by decide) d_S_requireRunning_17 ⟨c4, rfl⟩
  · exact bV.throwNew G E0 (E := "java/lang/IllegalStateException") (tx := "it crashed") (names := ["java/lang/RuntimeException", "java/lang/Exception"]) (by decide +kernel) (by decide +kernel) oa_187 bw_116 bw_117 bw_10 (by decide) (by decide) (by decide) (by decide) (Nat.le_of_ble_eq_true rfl) rfl d_S_requireRunning_7 d_S_requireRunning_10 d_S_requireRunning_11 d_S_requireRunning_13 d_S_requireRunning_16 (Or.inr ⟨_, rfl, ⟨c4, rfl, rfl⟩⟩)
theorem d_S_requireCrashed_0 : decode b_S_requireCrashed 0 = .ok (.aload_n 0, 1) := by decide +kernel
theorem d_S_requireCrashed_1 : decode b_S_requireCrashed 1 = .ok (.getfield 58, 3) := by decide +kernel
theorem d_S_requireCrashed_4 : decode b_S_requireCrashed 4 = .ok (.ifCond .ne 13, 3) := by decide +kernel
theorem d_S_requireCrashed_7 : decode b_S_requireCrashed 7 = .ok (.new 183, 3) := by decide +kernel
theorem d_S_requireCrashed_10 : decode b_S_requireCrashed 10 = .ok (.dup, 1) := by decide +kernel
theorem d_S_requireCrashed_11 : decode b_S_requireCrashed 11 = .ok (.ldc 190, 2) := by decide +kernel
theorem d_S_requireCrashed_13 : decode b_S_requireCrashed 13 = .ok (.invokespecial 187, 3) := by decide +kernel
theorem d_S_requireCrashed_16 : decode b_S_requireCrashed 16 = .ok (.athrow, 1) := by decide +kernel
theorem d_S_requireCrashed_17 : decode b_S_requireCrashed 17 = .ok (.return_, 1) := by decide +kernel
set_option maxRecDepth 20000 in
set_option maxHeartbeats 4000000 in
theorem c_S_requireCrashed {D : va_G} {cI cZ cJ : ClassId} {ad : Nat → Nat} {mp : Nat} {lf : Nat → Int32} {n : Nat} {Pb : pc_C} {gt gp gh : Nat → Int32} {Pv : pc_C} {gd : Nat → Int32} {Pq : pc_C} {cr : Bool} {rest : va_W}    : bC D bcl (tys3 cI cZ cJ) y_S_requireCrashed ({ frames := 6, cells := 1, slots := 6, locals := 84 }) (wS ad cI cZ mp lf n Pb gt gp gh Pv gd Pq cr rest) [.ref (ad 0)] (bO (fun ws9 => cr = true ∧ ws9 = wS ad cI cZ mp lf n Pb gt gp gh Pv gd Pq cr rest) (fun E ws9 => cr = false ∧ E = "java/lang/IllegalStateException" ∧ ws9 = wS ad cI cZ mp lf n Pb gt gp gh Pv gd Pq cr rest)) := by
  refine bC.of (by decide) m_S_requireCrashed.1 (Nat.le_of_ble_eq_true rfl) ?_
  intro Γ G E0
  show bV D bcl Γ 1 (wS ad cI cZ mp lf n Pb gt gp gh Pv gd Pq cr rest) 0 0 0 [(0, .ref (ad 0))] []
  refine bV.aload_n G d_S_requireCrashed_0 rfl ?_
  refine bV.getf G cl_S 0 8 rfl (by decide) bw_81 rfl d_S_requireCrashed_1 ?_
  refine bV.if_neB (tgt := 17) G d_S_requireCrashed_4 (by decide) (fun c4 => ?_) (fun c4 => ?_)
  · exact bV.vretO G E0 rfl (by decide) (by decide) d_S_requireCrashed_17 ⟨c4, rfl⟩
  · exact bV.throwNew G E0 (E := "java/lang/IllegalStateException") (tx := "it did not crash") (names := ["java/lang/RuntimeException", "java/lang/Exception"]) (by decide +kernel) (by decide +kernel) oa_187 bw_116 bw_117 bw_10 (by decide) (by decide) (by decide) (by decide) (Nat.le_of_ble_eq_true rfl) rfl d_S_requireCrashed_7 d_S_requireCrashed_10 d_S_requireCrashed_11 d_S_requireCrashed_13 d_S_requireCrashed_16 (Or.inr ⟨_, rfl, ⟨c4, rfl, rfl⟩⟩)
theorem d_S_requireVersion_0 : decode b_S_requireVersion 0 = .ok (.aload_n 0, 1) := by decide +kernel
theorem d_S_requireVersion_1 : decode b_S_requireVersion 1 = .ok (.getfield 40, 3) := by decide +kernel
theorem d_S_requireVersion_4 : decode b_S_requireVersion 4 = .ok (.iload_n 1, 1) := by decide +kernel
theorem d_S_requireVersion_5 : decode b_S_requireVersion 5 = .ok (.invokevirtual 192, 3) := by decide +kernel
theorem d_S_requireVersion_8 : decode b_S_requireVersion 8 = .ok (.ifCond .ne 13, 3) := by decide +kernel
theorem d_S_requireVersion_11 : decode b_S_requireVersion 11 = .ok (.new 195, 3) := by decide +kernel
theorem d_S_requireVersion_14 : decode b_S_requireVersion 14 = .ok (.dup, 1) := by decide +kernel
theorem d_S_requireVersion_15 : decode b_S_requireVersion 15 = .ok (.ldc 197, 2) := by decide +kernel
theorem d_S_requireVersion_17 : decode b_S_requireVersion 17 = .ok (.invokespecial 199, 3) := by decide +kernel
theorem d_S_requireVersion_20 : decode b_S_requireVersion 20 = .ok (.athrow, 1) := by decide +kernel
theorem d_S_requireVersion_21 : decode b_S_requireVersion 21 = .ok (.return_, 1) := by decide +kernel
set_option maxRecDepth 20000 in
set_option maxHeartbeats 4000000 in
theorem c_S_requireVersion {D : va_G} {cI cZ cJ : ClassId} {ad : Nat → Nat} {mp : Nat} {lf : Nat → Int32} {n : Nat} {Pb : pc_C} {gt gp gh : Nat → Int32} {Pv : pc_C} {gd : Nat → Int32} {Pq : pc_C} {cr : Bool} {rest : va_W} {nv : Nat} {vl : Nat → Nat} {va : Nat → Nat → Nat} (hRv : pc_R 104 13 Pv (nv, vl, va)) {v : Int32} : bC D bcl (tys3 cI cZ cJ) y_S_requireVersion ({ frames := 6, cells := 1, slots := 6, locals := 84 }) (wS ad cI cZ mp lf n Pb gt gp gh Pv gd Pq cr rest) [.ref (ad 0), .int (v)] (bO (fun ws9 => (0 ≤ v ∧ v < nI nv) ∧ ws9 = wS ad cI cZ mp lf n Pb gt gp gh Pv gd Pq cr rest) (fun E ws9 => (¬ (0 ≤ v ∧ v < nI nv)) ∧ E = "java/lang/IndexOutOfBoundsException" ∧ ws9 = wS ad cI cZ mp lf n Pb gt gp gh Pv gd Pq cr rest)) := by
  have fv : nv < 13 := hRv.2.1
  refine bC.of (by decide) m_S_requireVersion.1 (Nat.le_of_ble_eq_true rfl) ?_
  intro Γ G E0
  show bV D bcl Γ 2 (wS ad cI cZ mp lf n Pb gt gp gh Pv gd Pq cr rest) 0 0 0 [(0, .ref (ad 0)), (1, .int (v))] []
  refine bV.aload_n G d_S_requireVersion_0 rfl ?_
  refine bV.getf G cl_S 0 5 rfl (by decide) bw_78 rfl d_S_requireVersion_1 ?_
  refine bV.iload_n G d_S_requireVersion_4 rfl ?_
  refine bV.callVi G m_P_has bw_289 bw_290 bw_288 (c_P_has wS_v hRv) 12 rfl rfl rfl rfl rfl ⟨by decide, by decide⟩ ⟨by decide, by decide⟩ (Nat.le_of_ble_eq_true rfl) d_S_requireVersion_5 (fun x9 ws9 h9 => ?_)
  obtain ⟨rfl, h9e⟩ := h9
  rw [h9e]
  try dsimp only
  refine bV.if_neB (tgt := 21) G d_S_requireVersion_8 (by decide) (fun c8 => ?_) (fun c8 => ?_)
  · exact bV.vretO G E0 rfl (by decide) (by decide) d_S_requireVersion_21 ⟨of_decide_eq_true c8, rfl⟩
  · exact bV.throwNew G E0 (E := "java/lang/IndexOutOfBoundsException") (tx := "no such version") (names := ["java/lang/RuntimeException", "java/lang/Exception"]) (by decide +kernel) (by decide +kernel) oa_199 bw_292 bw_293 bw_11 (by decide) (by decide) (by decide) (by decide) (Nat.le_of_ble_eq_true rfl) rfl d_S_requireVersion_11 d_S_requireVersion_14 d_S_requireVersion_15 d_S_requireVersion_17 d_S_requireVersion_20 (Or.inr ⟨_, rfl, ⟨of_decide_eq_false c8, rfl, rfl⟩⟩)
theorem d_S_requireBlock_0 : decode b_S_requireBlock 0 = .ok (.aload_n 0, 1) := by decide +kernel
theorem d_S_requireBlock_1 : decode b_S_requireBlock 1 = .ok (.getfield 21, 3) := by decide +kernel
theorem d_S_requireBlock_4 : decode b_S_requireBlock 4 = .ok (.iload_n 1, 1) := by decide +kernel
theorem d_S_requireBlock_5 : decode b_S_requireBlock 5 = .ok (.invokevirtual 192, 3) := by decide +kernel
theorem d_S_requireBlock_8 : decode b_S_requireBlock 8 = .ok (.ifCond .ne 13, 3) := by decide +kernel
theorem d_S_requireBlock_11 : decode b_S_requireBlock 11 = .ok (.new 195, 3) := by decide +kernel
theorem d_S_requireBlock_14 : decode b_S_requireBlock 14 = .ok (.dup, 1) := by decide +kernel
theorem d_S_requireBlock_15 : decode b_S_requireBlock 15 = .ok (.ldc 200, 2) := by decide +kernel
theorem d_S_requireBlock_17 : decode b_S_requireBlock 17 = .ok (.invokespecial 199, 3) := by decide +kernel
theorem d_S_requireBlock_20 : decode b_S_requireBlock 20 = .ok (.athrow, 1) := by decide +kernel
theorem d_S_requireBlock_21 : decode b_S_requireBlock 21 = .ok (.return_, 1) := by decide +kernel
set_option maxRecDepth 20000 in
set_option maxHeartbeats 4000000 in
theorem c_S_requireBlock {D : va_G} {cI cZ cJ : ClassId} {ad : Nat → Nat} {mp : Nat} {lf : Nat → Int32} {n : Nat} {Pb : pc_C} {gt gp gh : Nat → Int32} {Pv : pc_C} {gd : Nat → Int32} {Pq : pc_C} {cr : Bool} {rest : va_W} {nb : Nat} {bl : Nat → Nat} {ba : Nat → Nat → Nat} (hRb : pc_R 600 25 Pb (nb, bl, ba)) {v : Int32} : bC D bcl (tys3 cI cZ cJ) y_S_requireBlock ({ frames := 6, cells := 1, slots := 6, locals := 84 }) (wS ad cI cZ mp lf n Pb gt gp gh Pv gd Pq cr rest) [.ref (ad 0), .int (v)] (bO (fun ws9 => (0 ≤ v ∧ v < nI nb) ∧ ws9 = wS ad cI cZ mp lf n Pb gt gp gh Pv gd Pq cr rest) (fun E ws9 => (¬ (0 ≤ v ∧ v < nI nb)) ∧ E = "java/lang/IndexOutOfBoundsException" ∧ ws9 = wS ad cI cZ mp lf n Pb gt gp gh Pv gd Pq cr rest)) := by
  have fb : nb < 25 := hRb.2.1
  refine bC.of (by decide) m_S_requireBlock.1 (Nat.le_of_ble_eq_true rfl) ?_
  intro Γ G E0
  show bV D bcl Γ 2 (wS ad cI cZ mp lf n Pb gt gp gh Pv gd Pq cr rest) 0 0 0 [(0, .ref (ad 0)), (1, .int (v))] []
  refine bV.aload_n G d_S_requireBlock_0 rfl ?_
  refine bV.getf G cl_S 0 1 rfl (by decide) bw_74 rfl d_S_requireBlock_1 ?_
  refine bV.iload_n G d_S_requireBlock_4 rfl ?_
  refine bV.callVi G m_P_has bw_289 bw_290 bw_288 (c_P_has wS_b hRb) 3 rfl rfl rfl rfl rfl ⟨by decide, by decide⟩ ⟨by decide, by decide⟩ (Nat.le_of_ble_eq_true rfl) d_S_requireBlock_5 (fun x9 ws9 h9 => ?_)
  obtain ⟨rfl, h9e⟩ := h9
  rw [h9e]
  try dsimp only
  refine bV.if_neB (tgt := 21) G d_S_requireBlock_8 (by decide) (fun c8 => ?_) (fun c8 => ?_)
  · exact bV.vretO G E0 rfl (by decide) (by decide) d_S_requireBlock_21 ⟨of_decide_eq_true c8, rfl⟩
  · exact bV.throwNew G E0 (E := "java/lang/IndexOutOfBoundsException") (tx := "no block had that number") (names := ["java/lang/RuntimeException", "java/lang/Exception"]) (by decide +kernel) (by decide +kernel) oa_199 bw_292 bw_293 bw_11 (by decide) (by decide) (by decide) (by decide) (Nat.le_of_ble_eq_true rfl) rfl d_S_requireBlock_11 d_S_requireBlock_14 d_S_requireBlock_15 d_S_requireBlock_17 d_S_requireBlock_20 (Or.inr ⟨_, rfl, ⟨of_decide_eq_false c8, rfl, rfl⟩⟩)
theorem d_S_requireByteOfSum_0 : decode b_S_requireByteOfSum 0 = .ok (.iload_n 1, 1) := by decide +kernel
theorem d_S_requireByteOfSum_1 : decode b_S_requireByteOfSum 1 = .ok (.ifCond .lt 8, 3) := by decide +kernel
theorem d_S_requireByteOfSum_4 : decode b_S_requireByteOfSum 4 = .ok (.iload_n 1, 1) := by decide +kernel
theorem d_S_requireByteOfSum_5 : decode b_S_requireByteOfSum 5 = .ok (.iconst 4, 1) := by decide +kernel
theorem d_S_requireByteOfSum_6 : decode b_S_requireByteOfSum 6 = .ok (.if_icmp .lt 13, 3) := by decide +kernel
theorem d_S_requireByteOfSum_9 : decode b_S_requireByteOfSum 9 = .ok (.new 195, 3) := by decide +kernel
theorem d_S_requireByteOfSum_12 : decode b_S_requireByteOfSum 12 = .ok (.dup, 1) := by decide +kernel
theorem d_S_requireByteOfSum_13 : decode b_S_requireByteOfSum 13 = .ok (.ldc 204, 2) := by decide +kernel
theorem d_S_requireByteOfSum_15 : decode b_S_requireByteOfSum 15 = .ok (.invokespecial 199, 3) := by decide +kernel
theorem d_S_requireByteOfSum_18 : decode b_S_requireByteOfSum 18 = .ok (.athrow, 1) := by decide +kernel
theorem d_S_requireByteOfSum_19 : decode b_S_requireByteOfSum 19 = .ok (.return_, 1) := by decide +kernel
set_option maxRecDepth 20000 in
set_option maxHeartbeats 4000000 in
theorem c_S_requireByteOfSum {D : va_G} {cI cZ cJ : ClassId} {ad : Nat → Nat} {mp : Nat} {lf : Nat → Int32} {n : Nat} {Pb : pc_C} {gt gp gh : Nat → Int32} {Pv : pc_C} {gd : Nat → Int32} {Pq : pc_C} {cr : Bool} {rest : va_W}   {v : Int32} : bC D bcl (tys3 cI cZ cJ) y_S_requireByteOfSum ({ frames := 6, cells := 1, slots := 6, locals := 84 }) (wS ad cI cZ mp lf n Pb gt gp gh Pv gd Pq cr rest) [.ref (ad 0), .int (v)] (bO (fun ws9 => (0 ≤ v ∧ v < 4) ∧ ws9 = wS ad cI cZ mp lf n Pb gt gp gh Pv gd Pq cr rest) (fun E ws9 => (¬ (0 ≤ v ∧ v < 4)) ∧ E = "java/lang/IndexOutOfBoundsException" ∧ ws9 = wS ad cI cZ mp lf n Pb gt gp gh Pv gd Pq cr rest)) := by
  refine bC.of (by decide) m_S_requireByteOfSum.1 (Nat.le_of_ble_eq_true rfl) ?_
  intro Γ G E0
  show bV D bcl Γ 2 (wS ad cI cZ mp lf n Pb gt gp gh Pv gd Pq cr rest) 0 0 0 [(0, .ref (ad 0)), (1, .int (v))] []
  refine bV.iload_n G d_S_requireByteOfSum_0 rfl ?_
  refine bV.if_lt (tgt := 9) G d_S_requireByteOfSum_1 (by decide) (fun c1 => ?_) (fun c1 => ?_)
  · exact bV.throwNew G E0 (E := "java/lang/IndexOutOfBoundsException") (tx := "no such byte of a sum") (names := ["java/lang/RuntimeException", "java/lang/Exception"]) (by decide +kernel) (by decide +kernel) oa_199 bw_292 bw_293 bw_11 (by decide) (by decide) (by decide) (by decide) (Nat.le_of_ble_eq_true rfl) rfl d_S_requireByteOfSum_9 d_S_requireByteOfSum_12 d_S_requireByteOfSum_13 d_S_requireByteOfSum_15 d_S_requireByteOfSum_18 (Or.inr ⟨_, rfl, ⟨fun z => by first | exact absurd z.1 (Int32.not_le.mpr c1) | exact c6 z.2, rfl, rfl⟩⟩)
  · refine bV.iload_n G d_S_requireByteOfSum_4 rfl ?_
    refine bV.iconst (v := (4)) G d_S_requireByteOfSum_5 (by decide) ?_
    refine bV.icmp_lt (tgt := 19) G d_S_requireByteOfSum_6 (by decide) (fun c6 => ?_) (fun c6 => ?_)
    · exact bV.vretO G E0 rfl (by decide) (by decide) d_S_requireByteOfSum_19 ⟨⟨Int32.not_lt.mp c1, c6⟩, rfl⟩
    · exact bV.throwNew G E0 (E := "java/lang/IndexOutOfBoundsException") (tx := "no such byte of a sum") (names := ["java/lang/RuntimeException", "java/lang/Exception"]) (by decide +kernel) (by decide +kernel) oa_199 bw_292 bw_293 bw_11 (by decide) (by decide) (by decide) (by decide) (Nat.le_of_ble_eq_true rfl) rfl d_S_requireByteOfSum_9 d_S_requireByteOfSum_12 d_S_requireByteOfSum_13 d_S_requireByteOfSum_15 d_S_requireByteOfSum_18 (Or.inr ⟨_, rfl, ⟨fun z => by first | exact absurd z.1 (Int32.not_le.mpr c1) | exact c6 z.2, rfl, rfl⟩⟩)
theorem d_S_requireNotNegative_0 : decode b_S_requireNotNegative 0 = .ok (.iload_n 1, 1) := by decide +kernel
theorem d_S_requireNotNegative_1 : decode b_S_requireNotNegative 1 = .ok (.ifCond .ge 13, 3) := by decide +kernel
theorem d_S_requireNotNegative_4 : decode b_S_requireNotNegative 4 = .ok (.new 195, 3) := by decide +kernel
theorem d_S_requireNotNegative_7 : decode b_S_requireNotNegative 7 = .ok (.dup, 1) := by decide +kernel
theorem d_S_requireNotNegative_8 : decode b_S_requireNotNegative 8 = .ok (.ldc 206, 2) := by decide +kernel
theorem d_S_requireNotNegative_10 : decode b_S_requireNotNegative 10 = .ok (.invokespecial 199, 3) := by decide +kernel
theorem d_S_requireNotNegative_13 : decode b_S_requireNotNegative 13 = .ok (.athrow, 1) := by decide +kernel
theorem d_S_requireNotNegative_14 : decode b_S_requireNotNegative 14 = .ok (.return_, 1) := by decide +kernel
set_option maxRecDepth 20000 in
set_option maxHeartbeats 4000000 in
theorem c_S_requireNotNegative {D : va_G} {cI cZ cJ : ClassId} {ad : Nat → Nat} {mp : Nat} {lf : Nat → Int32} {n : Nat} {Pb : pc_C} {gt gp gh : Nat → Int32} {Pv : pc_C} {gd : Nat → Int32} {Pq : pc_C} {cr : Bool} {rest : va_W}   {v : Int32} : bC D bcl (tys3 cI cZ cJ) y_S_requireNotNegative ({ frames := 6, cells := 1, slots := 6, locals := 84 }) (wS ad cI cZ mp lf n Pb gt gp gh Pv gd Pq cr rest) [.ref (ad 0), .int (v)] (bO (fun ws9 => (0 ≤ v) ∧ ws9 = wS ad cI cZ mp lf n Pb gt gp gh Pv gd Pq cr rest) (fun E ws9 => (¬ (0 ≤ v)) ∧ E = "java/lang/IndexOutOfBoundsException" ∧ ws9 = wS ad cI cZ mp lf n Pb gt gp gh Pv gd Pq cr rest)) := by
  refine bC.of (by decide) m_S_requireNotNegative.1 (Nat.le_of_ble_eq_true rfl) ?_
  intro Γ G E0
  show bV D bcl Γ 2 (wS ad cI cZ mp lf n Pb gt gp gh Pv gd Pq cr rest) 0 0 0 [(0, .ref (ad 0)), (1, .int (v))] []
  refine bV.iload_n G d_S_requireNotNegative_0 rfl ?_
  refine bV.if_ge (tgt := 14) G d_S_requireNotNegative_1 (by decide) (fun c1 => ?_) (fun c1 => ?_)
  · exact bV.vretO G E0 rfl (by decide) (by decide) d_S_requireNotNegative_14 ⟨c1, rfl⟩
  · exact bV.throwNew G E0 (E := "java/lang/IndexOutOfBoundsException") (tx := "a byte's index is below 0") (names := ["java/lang/RuntimeException", "java/lang/Exception"]) (by decide +kernel) (by decide +kernel) oa_199 bw_292 bw_293 bw_11 (by decide) (by decide) (by decide) (by decide) (Nat.le_of_ble_eq_true rfl) rfl d_S_requireNotNegative_4 d_S_requireNotNegative_7 d_S_requireNotNegative_8 d_S_requireNotNegative_10 d_S_requireNotNegative_13 (Or.inr ⟨_, rfl, ⟨c1, rfl, rfl⟩⟩)
theorem d_S_requireKeepable_0 : decode b_S_requireKeepable 0 = .ok (.iload_n 1, 1) := by decide +kernel
theorem d_S_requireKeepable_1 : decode b_S_requireKeepable 1 = .ok (.ifCond .lt 14, 3) := by decide +kernel
theorem d_S_requireKeepable_4 : decode b_S_requireKeepable 4 = .ok (.iload_n 1, 1) := by decide +kernel
theorem d_S_requireKeepable_5 : decode b_S_requireKeepable 5 = .ok (.aload_n 0, 1) := by decide +kernel
theorem d_S_requireKeepable_6 : decode b_S_requireKeepable 6 = .ok (.getfield 12, 3) := by decide +kernel
theorem d_S_requireKeepable_9 : decode b_S_requireKeepable 9 = .ok (.invokevirtual 147, 3) := by decide +kernel
theorem d_S_requireKeepable_12 : decode b_S_requireKeepable 12 = .ok (.if_icmp .le 13, 3) := by decide +kernel
theorem d_S_requireKeepable_15 : decode b_S_requireKeepable 15 = .ok (.new 208, 3) := by decide +kernel
theorem d_S_requireKeepable_18 : decode b_S_requireKeepable 18 = .ok (.dup, 1) := by decide +kernel
theorem d_S_requireKeepable_19 : decode b_S_requireKeepable 19 = .ok (.ldc 210, 2) := by decide +kernel
theorem d_S_requireKeepable_21 : decode b_S_requireKeepable 21 = .ok (.invokespecial 212, 3) := by decide +kernel
theorem d_S_requireKeepable_24 : decode b_S_requireKeepable 24 = .ok (.athrow, 1) := by decide +kernel
theorem d_S_requireKeepable_25 : decode b_S_requireKeepable 25 = .ok (.return_, 1) := by decide +kernel
set_option maxRecDepth 20000 in
set_option maxHeartbeats 4000000 in
theorem c_S_requireKeepable {D : va_G} {cI cZ cJ : ClassId} {ad : Nat → Nat} {mp : Nat} {lf : Nat → Int32} {n : Nat} {Pb : pc_C} {gt gp gh : Nat → Int32} {Pv : pc_C} {gd : Nat → Int32} {Pq : pc_C} {cr : Bool} {rest : va_W} {lg : Nat → Nat} (hRl : lg_R lf n lg) {v : Int32} : bC D bcl (tys3 cI cZ cJ) y_S_requireKeepable ({ frames := 6, cells := 1, slots := 6, locals := 84 }) (wS ad cI cZ mp lf n Pb gt gp gh Pv gd Pq cr rest) [.ref (ad 0), .int (v)] (bO (fun ws9 => (0 ≤ v ∧ v ≤ nI n) ∧ ws9 = wS ad cI cZ mp lf n Pb gt gp gh Pv gd Pq cr rest) (fun E ws9 => (¬ (0 ≤ v ∧ v ≤ nI n)) ∧ E = "java/lang/IllegalArgumentException" ∧ ws9 = wS ad cI cZ mp lf n Pb gt gp gh Pv gd Pq cr rest)) := by
  have fl : n ≤ 400 := hRl.1
  refine bC.of (by decide) m_S_requireKeepable.1 (Nat.le_of_ble_eq_true rfl) ?_
  intro Γ G E0
  show bV D bcl Γ 2 (wS ad cI cZ mp lf n Pb gt gp gh Pv gd Pq cr rest) 0 0 0 [(0, .ref (ad 0)), (1, .int (v))] []
  refine bV.iload_n G d_S_requireKeepable_0 rfl ?_
  refine bV.if_lt (tgt := 15) G d_S_requireKeepable_1 (by decide) (fun c1 => ?_) (fun c1 => ?_)
  · exact bV.throwNew G E0 (E := "java/lang/IllegalArgumentException") (tx := "the log does not have so many bytes") (names := ["java/lang/RuntimeException", "java/lang/Exception"]) (by decide +kernel) (by decide +kernel) oa_212 bw_417 bw_418 bw_12 (by decide) (by decide) (by decide) (by decide) (Nat.le_of_ble_eq_true rfl) rfl d_S_requireKeepable_15 d_S_requireKeepable_18 d_S_requireKeepable_19 d_S_requireKeepable_21 d_S_requireKeepable_24 (Or.inr ⟨_, rfl, ⟨fun z => by first | exact absurd z.1 (Int32.not_le.mpr c1) | exact c12 z.2, rfl, rfl⟩⟩)
  · refine bV.iload_n G d_S_requireKeepable_4 rfl ?_
    refine bV.aload_n G d_S_requireKeepable_5 rfl ?_
    refine bV.getf G cl_S 0 0 rfl (by decide) bw_73 rfl d_S_requireKeepable_6 ?_
    refine bV.callVi G m_L_length bw_414 bw_415 bw_413 (c_L_length wS_l hRl) 1 rfl rfl rfl rfl rfl ⟨by decide, by decide⟩ ⟨by decide, by decide⟩ (Nat.le_of_ble_eq_true rfl) d_S_requireKeepable_9 (fun x9 ws9 h9 => ?_)
    obtain ⟨rfl, h9e⟩ := h9
    rw [h9e]
    try dsimp only
    refine bV.icmp_le (tgt := 25) G d_S_requireKeepable_12 (by decide) (fun c12 => ?_) (fun c12 => ?_)
    · exact bV.vretO G E0 rfl (by decide) (by decide) d_S_requireKeepable_25 ⟨⟨Int32.not_lt.mp c1, c12⟩, rfl⟩
    · exact bV.throwNew G E0 (E := "java/lang/IllegalArgumentException") (tx := "the log does not have so many bytes") (names := ["java/lang/RuntimeException", "java/lang/Exception"]) (by decide +kernel) (by decide +kernel) oa_212 bw_417 bw_418 bw_12 (by decide) (by decide) (by decide) (by decide) (Nat.le_of_ble_eq_true rfl) rfl d_S_requireKeepable_15 d_S_requireKeepable_18 d_S_requireKeepable_19 d_S_requireKeepable_21 d_S_requireKeepable_24 (Or.inr ⟨_, rfl, ⟨fun z => by first | exact absurd z.1 (Int32.not_le.mpr c1) | exact c12 z.2, rfl, rfl⟩⟩)
end
section
/-! ===== the store: reads ===== -/
noncomputable def dcd (P : Prop) : Bool := @decide P (Classical.propDecidable P)
theorem dcd_t {P : Prop} (h : P) : dcd P = true := @decide_eq_true P (Classical.propDecidable P) h
theorem dcd_f {P : Prop} (h : ¬ P) : dcd P = false := @decide_eq_false P (Classical.propDecidable P) h
theorem nI_btw {v : Int32} {n : Nat} (h : 0 ≤ v ∧ v < nI n) (hn : n < 2 ^ 31) : ∃ j : Nat, j < n ∧ v = nI j := by
  obtain ⟨j, hj, rfl⟩ := nI_of (Int32.not_lt.mpr h.1)
  exact ⟨j, (nI_ltI hj hn).mp h.2, rfl⟩
def lenV (md : Nat → Bool) (vl : Nat → Nat) (v : Nat) : Nat := if (decide (v < 12) && md v) = true then 0 else vl v
theorem lenV_le (md : Nat → Bool) (vl : Nat → Nat) (v : Nat) : lenV md vl v ≤ vl v := by
  unfold lenV
  split <;> omega
def eqF (mt : Nat → Bool) (bl : Nat → Nat) (ba : Nat → Nat → Nat) (nb j : Nat) : Prop := mt j = true ∧ bl j = bl nb ∧ ∀ i, i < bl nb → ba j i = ba nb i
def cntU (f : Nat → Bool) : Nat → Nat
  | 0 => 0
  | n + 1 => cntU f n + (if f n = true then 1 else 0)
theorem cntU_t {f : Nat → Bool} {n : Nat} (h : f n = true) : cntU f (n + 1) = cntU f n + 1 := by
  show cntU f n + (if f n = true then 1 else 0) = cntU f n + 1
  rw [if_pos h]
theorem cntU_f {f : Nat → Bool} {n : Nat} (h : f n = false) : cntU f (n + 1) = cntU f n := by
  show cntU f n + (if f n = true then 1 else 0) = cntU f n
  rw [h]; rfl
theorem cntU_le {f : Nat → Bool} : ∀ n, cntU f n ≤ n := by
  intro n
  induction n with
  | zero => exact Nat.le_refl _
  | succ n ih =>
    show cntU f n + (if f n = true then 1 else 0) ≤ n + 1
    split <;> omega
def unp (mt mk : Nat → Bool) : Nat → Bool := fun j => mt j && !mk j
def badP (ql : Nat → Nat) (qa : Nat → Nat → Nat) (p : Nat) : Prop := ∃ i, i < 4 ∧ nI (qa p (ql p - 4 + i)) ≠ byteS (sumS (qa p) (nI 1) (ql p - 4)) i
def rootS (row : Nat → Nat) (bl : Nat → Nat) (ba : Nat → Nat → Nat) : Nat → Int32
  | 0 => nI 1
  | k + 1 => sumS (ba (row k)) (rootS row bl ba k) (bl (row k))
def outS (row : Nat → Nat) (bl : Nat → Nat) (ba : Nat → Nat → Nat) : Nat → Nat → Nat → Int32
  | 0, _, _ => -1
  | r + 1, k, i => if i < bl (row k) then nI (ba (row k) i) else outS row bl ba r (k + 1) (i - bl (row k))
theorem d_S_lengthOfVersion_0 : decode b_S_lengthOfVersion 0 = .ok (.aload_n 0, 1) := by decide +kernel
theorem d_S_lengthOfVersion_1 : decode b_S_lengthOfVersion 1 = .ok (.getfield 43, 3) := by decide +kernel
theorem d_S_lengthOfVersion_4 : decode b_S_lengthOfVersion 4 = .ok (.iload_n 1, 1) := by decide +kernel
theorem d_S_lengthOfVersion_5 : decode b_S_lengthOfVersion 5 = .ok (.invokevirtual 141, 3) := by decide +kernel
theorem d_S_lengthOfVersion_8 : decode b_S_lengthOfVersion 8 = .ok (.ifCond .eq 7, 3) := by decide +kernel
theorem d_S_lengthOfVersion_11 : decode b_S_lengthOfVersion 11 = .ok (.iconst 0, 1) := by decide +kernel
theorem d_S_lengthOfVersion_12 : decode b_S_lengthOfVersion 12 = .ok (.goto 11, 3) := by decide +kernel
theorem d_S_lengthOfVersion_15 : decode b_S_lengthOfVersion 15 = .ok (.aload_n 0, 1) := by decide +kernel
theorem d_S_lengthOfVersion_16 : decode b_S_lengthOfVersion 16 = .ok (.getfield 40, 3) := by decide +kernel
theorem d_S_lengthOfVersion_19 : decode b_S_lengthOfVersion 19 = .ok (.iload_n 1, 1) := by decide +kernel
theorem d_S_lengthOfVersion_20 : decode b_S_lengthOfVersion 20 = .ok (.invokevirtual 110, 3) := by decide +kernel
theorem d_S_lengthOfVersion_23 : decode b_S_lengthOfVersion 23 = .ok (.ireturn, 1) := by decide +kernel
set_option maxRecDepth 20000 in
set_option maxHeartbeats 4000000 in
theorem c_S_lengthOfVersion {D : va_G} {cI cZ cJ : ClassId} {ad : Nat → Nat} {mp : Nat} {lf : Nat → Int32} {n : Nat} {Pb : pc_C} {gt gp gh : Nat → Int32} {Pv : pc_C} {gd : Nat → Int32} {Pq : pc_C} {cr : Bool} {rest : va_W} {nv : Nat} {vl : Nat → Nat} {va : Nat → Nat → Nat} {md : Nat → Bool} (hRv : pc_R 104 13 Pv (nv, vl, va)) (hRd : mk_R 12 gd md) {v : Nat} (hv : v ≤ nv) : bC D bcl (tys3 cI cZ cJ) y_S_lengthOfVersion ({ frames := 1, cells := 0, slots := 0, locals := 23 }) (wS ad cI cZ mp lf n Pb gt gp gh Pv gd Pq cr rest) [.ref (ad 0), .int (nI (v))] (bI (fun x ws9 => x = nI (lenV md vl v) ∧ ws9 = wS ad cI cZ mp lf n Pb gt gp gh Pv gd Pq cr rest) bno) := by
  have fv : nv < 13 := hRv.2.1
  refine bC.of (by decide) m_S_lengthOfVersion.1 (Nat.le_of_ble_eq_true rfl) ?_
  intro Γ G E0
  show bV D bcl Γ 2 (wS ad cI cZ mp lf n Pb gt gp gh Pv gd Pq cr rest) 0 0 0 [(0, .ref (ad 0)), (1, .int (nI (v)))] []
  refine bV.aload_n G d_S_lengthOfVersion_0 rfl ?_
  refine bV.getf G cl_S 0 6 rfl (by decide) bw_79 rfl d_S_lengthOfVersion_1 ?_
  refine bV.iload_n G d_S_lengthOfVersion_4 rfl ?_
  refine bV.callVi G m_K_isOn bw_212 bw_213 bw_211 (c_K_isOn wS_d hRd (j := v) (by omega)) 15 rfl rfl rfl rfl rfl ⟨by decide, by decide⟩ ⟨by decide, by decide⟩ (Nat.le_of_ble_eq_true rfl) d_S_lengthOfVersion_5 (fun x9 ws9 h9 => ?_)
  obtain ⟨rfl, h9e⟩ := h9
  rw [h9e]
  try dsimp only
  refine bV.if_eqB (tgt := 15) G d_S_lengthOfVersion_8 (by decide) (fun c8 => ?_) (fun c8 => ?_)
  · refine bV.aload_n G d_S_lengthOfVersion_15 rfl ?_
    refine bV.getf G cl_S 0 5 rfl (by decide) bw_78 rfl d_S_lengthOfVersion_16 ?_
    refine bV.iload_n G d_S_lengthOfVersion_19 rfl ?_
    refine bV.callVi G m_P_length bw_189 bw_190 bw_321 (c_P_length wS_v hRv (j := v) (by first | omega | exact Nat.le_refl _)) 12 rfl rfl rfl rfl rfl ⟨by decide, by decide⟩ ⟨by decide, by decide⟩ (Nat.le_of_ble_eq_true rfl) d_S_lengthOfVersion_20 (fun x9 ws9 h9 => ?_)
    obtain ⟨rfl, h9e⟩ := h9
    rw [h9e]
    try dsimp only
    exact bV.iretI G E0 rfl rfl (by decide) (by decide) d_S_lengthOfVersion_23 ⟨by unfold lenV; rw [if_neg (by rw [c8]; decide)], rfl⟩
  · refine bV.iconst (v := nI 0) G d_S_lengthOfVersion_11 (by decide) ?_
    refine bV.goto (tgt := 23) G d_S_lengthOfVersion_12 (by decide) ?_
    exact bV.iretI G E0 rfl rfl (by decide) (by decide) d_S_lengthOfVersion_23 ⟨by unfold lenV; rw [if_pos c8], rfl⟩
theorem d_S_hasBlock_0 : decode b_S_hasBlock 0 = .ok (.aload_n 0, 1) := by decide +kernel
theorem d_S_hasBlock_1 : decode b_S_hasBlock 1 = .ok (.iload_n 1, 1) := by decide +kernel
theorem d_S_hasBlock_2 : decode b_S_hasBlock 2 = .ok (.invokevirtual 104, 3) := by decide +kernel
theorem d_S_hasBlock_5 : decode b_S_hasBlock 5 = .ok (.istore_n 3, 1) := by decide +kernel
theorem d_S_hasBlock_6 : decode b_S_hasBlock 6 = .ok (.iconst 0, 1) := by decide +kernel
theorem d_S_hasBlock_7 : decode b_S_hasBlock 7 = .ok (.istore 4, 2) := by decide +kernel
theorem d_S_hasBlock_9 : decode b_S_hasBlock 9 = .ok (.iload 4, 2) := by decide +kernel
theorem d_S_hasBlock_11 : decode b_S_hasBlock 11 = .ok (.iload_n 3, 1) := by decide +kernel
theorem d_S_hasBlock_12 : decode b_S_hasBlock 12 = .ok (.if_icmp .ge 25, 3) := by decide +kernel
theorem d_S_hasBlock_15 : decode b_S_hasBlock 15 = .ok (.aload_n 0, 1) := by decide +kernel
theorem d_S_hasBlock_16 : decode b_S_hasBlock 16 = .ok (.getfield 40, 3) := by decide +kernel
theorem d_S_hasBlock_19 : decode b_S_hasBlock 19 = .ok (.iload_n 1, 1) := by decide +kernel
theorem d_S_hasBlock_20 : decode b_S_hasBlock 20 = .ok (.iload 4, 2) := by decide +kernel
theorem d_S_hasBlock_22 : decode b_S_hasBlock 22 = .ok (.invokevirtual 107, 3) := by decide +kernel
theorem d_S_hasBlock_25 : decode b_S_hasBlock 25 = .ok (.iload_n 2, 1) := by decide +kernel
theorem d_S_hasBlock_26 : decode b_S_hasBlock 26 = .ok (.if_icmp .ne 5, 3) := by decide +kernel
theorem d_S_hasBlock_29 : decode b_S_hasBlock 29 = .ok (.iconst 1, 1) := by decide +kernel
theorem d_S_hasBlock_30 : decode b_S_hasBlock 30 = .ok (.ireturn, 1) := by decide +kernel
theorem d_S_hasBlock_31 : decode b_S_hasBlock 31 = .ok (.iinc 4 1, 3) := by decide +kernel
theorem d_S_hasBlock_34 : decode b_S_hasBlock 34 = .ok (.goto (-25), 3) := by decide +kernel
theorem d_S_hasBlock_37 : decode b_S_hasBlock 37 = .ok (.iconst 0, 1) := by decide +kernel
theorem d_S_hasBlock_38 : decode b_S_hasBlock 38 = .ok (.ireturn, 1) := by decide +kernel
set_option maxRecDepth 20000 in
set_option maxHeartbeats 4000000 in
theorem c_S_hasBlock {D : va_G} {cI cZ cJ : ClassId} {ad : Nat → Nat} {mp : Nat} {lf : Nat → Int32} {n : Nat} {Pb : pc_C} {gt gp gh : Nat → Int32} {Pv : pc_C} {gd : Nat → Int32} {Pq : pc_C} {cr : Bool} {rest : va_W} {nv : Nat} {vl : Nat → Nat} {va : Nat → Nat → Nat} {md : Nat → Bool} (hRv : pc_R 104 13 Pv (nv, vl, va)) (hRd : mk_R 12 gd md) {v b : Nat} (hv : v ≤ nv) (hb : b < 2 ^ 31) : bC D bcl (tys3 cI cZ cJ) y_S_hasBlock ({ frames := 2, cells := 0, slots := 0, locals := 46 }) (wS ad cI cZ mp lf n Pb gt gp gh Pv gd Pq cr rest) [.ref (ad 0), .int (nI (v)), .int (nI (b))] (bI (fun x ws9 => x = bB (dcd (∃ k, k < lenV md vl v ∧ va v k = b)) ∧ ws9 = wS ad cI cZ mp lf n Pb gt gp gh Pv gd Pq cr rest) bno) := by
  have fv : nv < 13 := hRv.2.1
  have hlv := lenV_le md vl v
  have hl9 : vl v ≤ 104 := pc_R_len (A := (nv, vl, va)) hRv hv
  refine bC.of (by decide) m_S_hasBlock.1 (Nat.le_of_ble_eq_true rfl) ?_
  intro Γ G E0
  show bV D bcl Γ 5 (wS ad cI cZ mp lf n Pb gt gp gh Pv gd Pq cr rest) 0 0 0 [(0, .ref (ad 0)), (1, .int (nI (v))), (2, .int (nI (b)))] []
  have loop : ∀ (d : Nat) (k : Nat), d + k = lenV md vl v → (∀ k0, k0 < k → va v k0 ≠ b) → bV D bcl Γ 5 (wS ad cI cZ mp lf n Pb gt gp gh Pv gd Pq cr rest) 0 0 9 [(0, .ref (ad 0)), (1, .int (nI (v))), (2, .int (nI (b))), (3, .int (nI (lenV md vl v))), (4, .int (nI (k)))] [] := by
    intro d
    induction d with
    | zero =>
      intro k hd hk
      refine bV.iload G d_S_hasBlock_9 rfl ?_
      refine bV.iload_n G d_S_hasBlock_11 rfl ?_
      refine bV.icmp_geN (tgt := 37) G d_S_hasBlock_12 (by decide) (by omega) (by omega) (fun c12 => ?_) (fun c12 => ?_)
      · refine bV.iconst (v := nI 0) G d_S_hasBlock_37 (by decide) ?_
        refine bV.topi (x := nI 0) (y := bB false) (by decide) ?_
        exact bV.iretI G E0 rfl (bB_n _) (by decide) (by decide) d_S_hasBlock_38 ⟨by rw [dcd_f (fun ⟨k0, z1, z2⟩ => hk k0 (by omega) z2)], rfl⟩
      · exfalso; omega
    | succ d ih =>
      intro k hd hk
      refine bV.iload G d_S_hasBlock_9 rfl ?_
      refine bV.iload_n G d_S_hasBlock_11 rfl ?_
      refine bV.icmp_geN (tgt := 37) G d_S_hasBlock_12 (by decide) (by omega) (by omega) (fun c12 => ?_) (fun c12 => ?_)
      · exfalso; omega
      · refine bV.aload_n G d_S_hasBlock_15 rfl ?_
        refine bV.getf G cl_S 0 5 rfl (by decide) bw_78 rfl d_S_hasBlock_16 ?_
        refine bV.iload_n G d_S_hasBlock_19 rfl ?_
        refine bV.iload G d_S_hasBlock_20 rfl ?_
        refine bV.callVi G m_P_at bw_221 bw_222 bw_322 (c_P_at wS_v hRv (j := v) (i := k) (by first | omega | exact Nat.le_refl _) (by omega)) 12 rfl rfl rfl rfl rfl ⟨by decide, by decide⟩ ⟨by decide, by decide⟩ (Nat.le_of_ble_eq_true rfl) d_S_hasBlock_22 (fun x9 ws9 h9 => ?_)
        obtain ⟨rfl, h9e⟩ := h9
        rw [h9e]
        try dsimp only
        rw [if_pos (by omega)]
        have hval : va v k < 2 ^ 31 := pc_R_val (A := (nv, vl, va)) hRv (j := v) (i := k) hv (by show k < vl v; omega)
        refine bV.iload_n G d_S_hasBlock_25 rfl ?_
        refine bV.icmp_neN (tgt := 31) G d_S_hasBlock_26 (by decide) (by omega) (by omega) (fun c26 => ?_) (fun c26 => ?_)
        · refine bV.iincN G (lv' := [(0, .ref (ad 0)), (1, .int (nI (v))), (2, .int (nI (b))), (3, .int (nI (lenV md vl v))), (4, .int (nI (k + 1)))]) d_S_hasBlock_31 rfl (by decide) rfl rfl ?_
          refine bV.goto (tgt := 9) G d_S_hasBlock_34 (by decide) ?_
          exact ih (k + 1) (by omega) (fun k0 h => by rcases Nat.lt_or_ge k0 k with z | z; exact hk k0 z; rw [show k0 = k by omega]; exact c26)
        · refine bV.iconst (v := nI 1) G d_S_hasBlock_29 (by decide) ?_
          refine bV.topi (x := nI 1) (y := bB true) (by decide) ?_
          exact bV.iretI G E0 rfl (bB_n _) (by decide) (by decide) d_S_hasBlock_30 ⟨by rw [dcd_t ⟨k, by omega, c26⟩], rfl⟩
  refine bV.aload_n G d_S_hasBlock_0 rfl ?_
  refine bV.iload_n G d_S_hasBlock_1 rfl ?_
  refine bV.callVi G m_S_lengthOfVersion bw_319 bw_s9 bw_317 (c_S_lengthOfVersion hRv hRd (v := v) (by omega)) 0 rfl rfl rfl rfl rfl ⟨by decide, by decide⟩ ⟨by decide, by decide⟩ (Nat.le_of_ble_eq_true rfl) d_S_hasBlock_2 (fun x9 ws9 h9 => ?_)
  obtain ⟨rfl, h9e⟩ := h9
  rw [h9e]
  try dsimp only
  refine bV.istore_n G (lv' := [(0, .ref (ad 0)), (1, .int (nI (v))), (2, .int (nI (b))), (3, .int (nI (lenV md vl v)))]) d_S_hasBlock_5 (by decide) rfl rfl ?_
  refine bV.iconst (v := nI 0) G d_S_hasBlock_6 (by decide) ?_
  refine bV.istore G (lv' := [(0, .ref (ad 0)), (1, .int (nI (v))), (2, .int (nI (b))), (3, .int (nI (lenV md vl v))), (4, .int (nI (0)))]) d_S_hasBlock_7 (by decide) rfl rfl ?_
  exact loop (lenV md vl v) 0 (by omega) (fun k0 h => absurd h (Nat.not_lt_zero _))
theorem d_S_equalOfFed_0 : decode b_S_equalOfFed 0 = .ok (.iconst 0, 1) := by decide +kernel
theorem d_S_equalOfFed_1 : decode b_S_equalOfFed 1 = .ok (.istore_n 1, 1) := by decide +kernel
theorem d_S_equalOfFed_2 : decode b_S_equalOfFed 2 = .ok (.iload_n 1, 1) := by decide +kernel
theorem d_S_equalOfFed_3 : decode b_S_equalOfFed 3 = .ok (.aload_n 0, 1) := by decide +kernel
theorem d_S_equalOfFed_4 : decode b_S_equalOfFed 4 = .ok (.getfield 21, 3) := by decide +kernel
theorem d_S_equalOfFed_7 : decode b_S_equalOfFed 7 = .ok (.invokevirtual 123, 3) := by decide +kernel
theorem d_S_equalOfFed_10 : decode b_S_equalOfFed 10 = .ok (.if_icmp .ge 33, 3) := by decide +kernel
theorem d_S_equalOfFed_13 : decode b_S_equalOfFed 13 = .ok (.aload_n 0, 1) := by decide +kernel
theorem d_S_equalOfFed_14 : decode b_S_equalOfFed 14 = .ok (.getfield 30, 3) := by decide +kernel
theorem d_S_equalOfFed_17 : decode b_S_equalOfFed 17 = .ok (.iload_n 1, 1) := by decide +kernel
theorem d_S_equalOfFed_18 : decode b_S_equalOfFed 18 = .ok (.invokevirtual 141, 3) := by decide +kernel
theorem d_S_equalOfFed_21 : decode b_S_equalOfFed 21 = .ok (.ifCond .eq 16, 3) := by decide +kernel
theorem d_S_equalOfFed_24 : decode b_S_equalOfFed 24 = .ok (.aload_n 0, 1) := by decide +kernel
theorem d_S_equalOfFed_25 : decode b_S_equalOfFed 25 = .ok (.getfield 21, 3) := by decide +kernel
theorem d_S_equalOfFed_28 : decode b_S_equalOfFed 28 = .ok (.iload_n 1, 1) := by decide +kernel
theorem d_S_equalOfFed_29 : decode b_S_equalOfFed 29 = .ok (.invokevirtual 213, 3) := by decide +kernel
theorem d_S_equalOfFed_32 : decode b_S_equalOfFed 32 = .ok (.ifCond .eq 5, 3) := by decide +kernel
theorem d_S_equalOfFed_35 : decode b_S_equalOfFed 35 = .ok (.iload_n 1, 1) := by decide +kernel
theorem d_S_equalOfFed_36 : decode b_S_equalOfFed 36 = .ok (.ireturn, 1) := by decide +kernel
theorem d_S_equalOfFed_37 : decode b_S_equalOfFed 37 = .ok (.iinc 1 1, 3) := by decide +kernel
theorem d_S_equalOfFed_40 : decode b_S_equalOfFed 40 = .ok (.goto (-38), 3) := by decide +kernel
theorem d_S_equalOfFed_43 : decode b_S_equalOfFed 43 = .ok (.iconst (-1), 1) := by decide +kernel
theorem d_S_equalOfFed_44 : decode b_S_equalOfFed 44 = .ok (.ireturn, 1) := by decide +kernel
set_option maxRecDepth 20000 in
set_option maxHeartbeats 4000000 in
theorem c_S_equalOfFed {D : va_G} {cI cZ cJ : ClassId} {ad : Nat → Nat} {mp : Nat} {lf : Nat → Int32} {n : Nat} {Pb : pc_C} {gt gp gh : Nat → Int32} {Pv : pc_C} {gd : Nat → Int32} {Pq : pc_C} {cr : Bool} {rest : va_W} {nb : Nat} {bl : Nat → Nat} {ba : Nat → Nat → Nat} {mt : Nat → Bool} (hRb : pc_R 600 25 Pb (nb, bl, ba)) (hRt : mk_R 24 gt mt)  : bC D bcl (tys3 cI cZ cJ) y_S_equalOfFed ({ frames := 4, cells := 0, slots := 0, locals := 94 }) (wS ad cI cZ mp lf n Pb gt gp gh Pv gd Pq cr rest) [.ref (ad 0)] (bI (fun x ws9 => ((∃ j, j < nb ∧ x = nI j ∧ eqF mt bl ba nb j ∧ ∀ j0, j0 < j → ¬ eqF mt bl ba nb j0) ∨ (x = -1 ∧ ∀ j, j < nb → ¬ eqF mt bl ba nb j)) ∧ ws9 = wS ad cI cZ mp lf n Pb gt gp gh Pv gd Pq cr rest) bno) := by
  have fb : nb < 25 := hRb.2.1
  refine bC.of (by decide) m_S_equalOfFed.1 (Nat.le_of_ble_eq_true rfl) ?_
  intro Γ G E0
  show bV D bcl Γ 2 (wS ad cI cZ mp lf n Pb gt gp gh Pv gd Pq cr rest) 0 0 0 [(0, .ref (ad 0))] []
  have loop : ∀ (d : Nat) (j : Nat), d + j = nb → (∀ j0, j0 < j → ¬ eqF mt bl ba nb j0) → bV D bcl Γ 2 (wS ad cI cZ mp lf n Pb gt gp gh Pv gd Pq cr rest) 0 0 2 [(0, .ref (ad 0)), (1, .int (nI (j)))] [] := by
    intro d
    induction d with
    | zero =>
      intro j hd hn
      refine bV.iload_n G d_S_equalOfFed_2 rfl ?_
      refine bV.aload_n G d_S_equalOfFed_3 rfl ?_
      refine bV.getf G cl_S 0 1 rfl (by decide) bw_74 rfl d_S_equalOfFed_4 ?_
      refine bV.callVi G m_P_count bw_208 bw_209 bw_207 (c_P_count wS_b hRb) 3 rfl rfl rfl rfl rfl ⟨by decide, by decide⟩ ⟨by decide, by decide⟩ (Nat.le_of_ble_eq_true rfl) d_S_equalOfFed_7 (fun x9 ws9 h9 => ?_)
      obtain ⟨rfl, h9e⟩ := h9
      rw [h9e]
      try dsimp only
      refine bV.icmp_geN (tgt := 43) G d_S_equalOfFed_10 (by decide) (by omega) (by omega) (fun c10 => ?_) (fun c10 => ?_)
      · refine bV.iconst (v := (-1)) G d_S_equalOfFed_43 (by decide) ?_
        exact bV.iretI G E0 rfl rfl (by decide) (by decide) d_S_equalOfFed_44 ⟨Or.inr ⟨rfl, fun j1 h => hn j1 (by omega)⟩, rfl⟩
      · exfalso; omega
    | succ d ih =>
      intro j hd hn
      refine bV.iload_n G d_S_equalOfFed_2 rfl ?_
      refine bV.aload_n G d_S_equalOfFed_3 rfl ?_
      refine bV.getf G cl_S 0 1 rfl (by decide) bw_74 rfl d_S_equalOfFed_4 ?_
      refine bV.callVi G m_P_count bw_208 bw_209 bw_207 (c_P_count wS_b hRb) 3 rfl rfl rfl rfl rfl ⟨by decide, by decide⟩ ⟨by decide, by decide⟩ (Nat.le_of_ble_eq_true rfl) d_S_equalOfFed_7 (fun x9 ws9 h9 => ?_)
      obtain ⟨rfl, h9e⟩ := h9
      rw [h9e]
      try dsimp only
      refine bV.icmp_geN (tgt := 43) G d_S_equalOfFed_10 (by decide) (by omega) (by omega) (fun c10 => ?_) (fun c10 => ?_)
      · exfalso; omega
      · refine bV.aload_n G d_S_equalOfFed_13 rfl ?_
        refine bV.getf G cl_S 0 2 rfl (by decide) bw_75 rfl d_S_equalOfFed_14 ?_
        refine bV.iload_n G d_S_equalOfFed_17 rfl ?_
        refine bV.callVi G m_K_isOn bw_212 bw_213 bw_211 (c_K_isOn wS_t hRt (j := j) (by omega)) 6 rfl rfl rfl rfl rfl ⟨by decide, by decide⟩ ⟨by decide, by decide⟩ (Nat.le_of_ble_eq_true rfl) d_S_equalOfFed_18 (fun x9 ws9 h9 => ?_)
        obtain ⟨rfl, h9e⟩ := h9
        rw [h9e]
        try dsimp only
        rw [decide_eq_true (show j < 24 by omega), Bool.true_and]
        refine bV.if_eqB (tgt := 37) G d_S_equalOfFed_21 (by decide) (fun c21 => ?_) (fun c21 => ?_)
        · refine bV.iincN G (lv' := [(0, .ref (ad 0)), (1, .int (nI (j + 1)))]) d_S_equalOfFed_37 rfl (by decide) rfl rfl ?_
          refine bV.goto (tgt := 2) G d_S_equalOfFed_40 (by decide) ?_
          exact ih (j + 1) (by omega) (fun j0 h => by rcases Nat.lt_or_ge j0 j with z | z; exact hn j0 z; rw [show j0 = j by omega]; intro hq; first | exact of_decide_eq_false c32 hq.2 | (have h7 := hq.1; rw [c21] at h7; cases h7))
        · refine bV.aload_n G d_S_equalOfFed_24 rfl ?_
          refine bV.getf G cl_S 0 1 rfl (by decide) bw_74 rfl d_S_equalOfFed_25 ?_
          refine bV.iload_n G d_S_equalOfFed_28 rfl ?_
          refine bV.callVi G m_P_equalsOpen bw_216 bw_217 bw_215 (c_P_equalsOpen wS_b hRb (j := j) (by omega)) 3 rfl rfl rfl rfl rfl ⟨by decide, by decide⟩ ⟨by decide, by decide⟩ (Nat.le_of_ble_eq_true rfl) d_S_equalOfFed_29 (fun x9 ws9 h9 => ?_)
          obtain ⟨rfl, h9e⟩ := h9
          rw [h9e]
          try dsimp only
          refine bV.if_eqB (tgt := 37) G d_S_equalOfFed_32 (by decide) (fun c32 => ?_) (fun c32 => ?_)
          · refine bV.iincN G (lv' := [(0, .ref (ad 0)), (1, .int (nI (j + 1)))]) d_S_equalOfFed_37 rfl (by decide) rfl rfl ?_
            refine bV.goto (tgt := 2) G d_S_equalOfFed_40 (by decide) ?_
            exact ih (j + 1) (by omega) (fun j0 h => by rcases Nat.lt_or_ge j0 j with z | z; exact hn j0 z; rw [show j0 = j by omega]; intro hq; first | exact of_decide_eq_false c32 hq.2 | (have h7 := hq.1; rw [c21] at h7; cases h7))
          · refine bV.iload_n G d_S_equalOfFed_35 rfl ?_
            exact bV.iretI G E0 rfl rfl (by decide) (by decide) d_S_equalOfFed_36 ⟨Or.inl ⟨j, by omega, rfl, ⟨c21, of_decide_eq_true c32⟩, hn⟩, rfl⟩
  refine bV.iconst (v := nI 0) G d_S_equalOfFed_0 (by decide) ?_
  refine bV.istore_n G (lv' := [(0, .ref (ad 0)), (1, .int (nI (0)))]) d_S_equalOfFed_1 (by decide) rfl rfl ?_
  exact loop nb 0 (by omega) (fun k0 h => absurd h (Nat.not_lt_zero _))
theorem d_S_isUnpacked_0 : decode b_S_isUnpacked 0 = .ok (.aload_n 0, 1) := by decide +kernel
theorem d_S_isUnpacked_1 : decode b_S_isUnpacked 1 = .ok (.getfield 30, 3) := by decide +kernel
theorem d_S_isUnpacked_4 : decode b_S_isUnpacked 4 = .ok (.iload_n 1, 1) := by decide +kernel
theorem d_S_isUnpacked_5 : decode b_S_isUnpacked 5 = .ok (.invokevirtual 141, 3) := by decide +kernel
theorem d_S_isUnpacked_8 : decode b_S_isUnpacked 8 = .ok (.ifCond .eq 18, 3) := by decide +kernel
theorem d_S_isUnpacked_11 : decode b_S_isUnpacked 11 = .ok (.aload_n 0, 1) := by decide +kernel
theorem d_S_isUnpacked_12 : decode b_S_isUnpacked 12 = .ok (.getfield 34, 3) := by decide +kernel
theorem d_S_isUnpacked_15 : decode b_S_isUnpacked 15 = .ok (.iload_n 1, 1) := by decide +kernel
theorem d_S_isUnpacked_16 : decode b_S_isUnpacked 16 = .ok (.invokevirtual 141, 3) := by decide +kernel
theorem d_S_isUnpacked_19 : decode b_S_isUnpacked 19 = .ok (.ifCond .ne 7, 3) := by decide +kernel
theorem d_S_isUnpacked_22 : decode b_S_isUnpacked 22 = .ok (.iconst 1, 1) := by decide +kernel
theorem d_S_isUnpacked_23 : decode b_S_isUnpacked 23 = .ok (.goto 4, 3) := by decide +kernel
theorem d_S_isUnpacked_26 : decode b_S_isUnpacked 26 = .ok (.iconst 0, 1) := by decide +kernel
theorem d_S_isUnpacked_27 : decode b_S_isUnpacked 27 = .ok (.ireturn, 1) := by decide +kernel
set_option maxRecDepth 20000 in
set_option maxHeartbeats 4000000 in
theorem c_S_isUnpacked {D : va_G} {cI cZ cJ : ClassId} {ad : Nat → Nat} {mp : Nat} {lf : Nat → Int32} {n : Nat} {Pb : pc_C} {gt gp gh : Nat → Int32} {Pv : pc_C} {gd : Nat → Int32} {Pq : pc_C} {cr : Bool} {rest : va_W} {mt : Nat → Bool} {mk : Nat → Bool} (hRt : mk_R 24 gt mt) (hRp : mk_R 24 gp mk) {j : Nat} (hj : j < 24) : bC D bcl (tys3 cI cZ cJ) y_S_isUnpacked ({ frames := 1, cells := 0, slots := 0, locals := 21 }) (wS ad cI cZ mp lf n Pb gt gp gh Pv gd Pq cr rest) [.ref (ad 0), .int (nI (j))] (bI (fun x ws9 => x = bB (mt j && !mk j) ∧ ws9 = wS ad cI cZ mp lf n Pb gt gp gh Pv gd Pq cr rest) bno) := by
  refine bC.of (by decide) m_S_isUnpacked.1 (Nat.le_of_ble_eq_true rfl) ?_
  intro Γ G E0
  show bV D bcl Γ 2 (wS ad cI cZ mp lf n Pb gt gp gh Pv gd Pq cr rest) 0 0 0 [(0, .ref (ad 0)), (1, .int (nI (j)))] []
  refine bV.aload_n G d_S_isUnpacked_0 rfl ?_
  refine bV.getf G cl_S 0 2 rfl (by decide) bw_75 rfl d_S_isUnpacked_1 ?_
  refine bV.iload_n G d_S_isUnpacked_4 rfl ?_
  refine bV.callVi G m_K_isOn bw_212 bw_213 bw_211 (c_K_isOn wS_t hRt (j := j) (by omega)) 6 rfl rfl rfl rfl rfl ⟨by decide, by decide⟩ ⟨by decide, by decide⟩ (Nat.le_of_ble_eq_true rfl) d_S_isUnpacked_5 (fun x9 ws9 h9 => ?_)
  obtain ⟨rfl, h9e⟩ := h9
  rw [h9e]
  try dsimp only
  rw [decide_eq_true (show j < 24 by omega), Bool.true_and]
  refine bV.if_eqB (tgt := 26) G d_S_isUnpacked_8 (by decide) (fun c8 => ?_) (fun c8 => ?_)
  · refine bV.iconst (v := nI 0) G d_S_isUnpacked_26 (by decide) ?_
    refine bV.topi (x := nI 0) (y := bB false) (by decide) ?_
    exact bV.iretI G E0 rfl (bB_n _) (by decide) (by decide) d_S_isUnpacked_27 ⟨by first | (rw [c19]; cases mt j <;> rfl) | (rw [c8]; rfl), rfl⟩
  · refine bV.aload_n G d_S_isUnpacked_11 rfl ?_
    refine bV.getf G cl_S 0 3 rfl (by decide) bw_76 rfl d_S_isUnpacked_12 ?_
    refine bV.iload_n G d_S_isUnpacked_15 rfl ?_
    refine bV.callVi G m_K_isOn bw_212 bw_213 bw_211 (c_K_isOn wS_p hRp (j := j) (by omega)) 8 rfl rfl rfl rfl rfl ⟨by decide, by decide⟩ ⟨by decide, by decide⟩ (Nat.le_of_ble_eq_true rfl) d_S_isUnpacked_16 (fun x9 ws9 h9 => ?_)
    obtain ⟨rfl, h9e⟩ := h9
    rw [h9e]
    try dsimp only
    rw [decide_eq_true (show j < 24 by omega), Bool.true_and]
    refine bV.if_neB (tgt := 26) G d_S_isUnpacked_19 (by decide) (fun c19 => ?_) (fun c19 => ?_)
    · refine bV.iconst (v := nI 0) G d_S_isUnpacked_26 (by decide) ?_
      refine bV.topi (x := nI 0) (y := bB false) (by decide) ?_
      exact bV.iretI G E0 rfl (bB_n _) (by decide) (by decide) d_S_isUnpacked_27 ⟨by first | (rw [c19]; cases mt j <;> rfl) | (rw [c8]; rfl), rfl⟩
    · refine bV.iconst (v := nI 1) G d_S_isUnpacked_22 (by decide) ?_
      refine bV.goto (tgt := 27) G d_S_isUnpacked_23 (by decide) ?_
      refine bV.topi (x := nI 1) (y := bB true) (by decide) ?_
      exact bV.iretI G E0 rfl (bB_n _) (by decide) (by decide) d_S_isUnpacked_27 ⟨by rw [c8, c19]; rfl, rfl⟩
theorem d_S_countUnpacked_0 : decode b_S_countUnpacked 0 = .ok (.iconst 0, 1) := by decide +kernel
theorem d_S_countUnpacked_1 : decode b_S_countUnpacked 1 = .ok (.istore_n 1, 1) := by decide +kernel
theorem d_S_countUnpacked_2 : decode b_S_countUnpacked 2 = .ok (.iconst 0, 1) := by decide +kernel
theorem d_S_countUnpacked_3 : decode b_S_countUnpacked 3 = .ok (.istore_n 2, 1) := by decide +kernel
theorem d_S_countUnpacked_4 : decode b_S_countUnpacked 4 = .ok (.iload_n 2, 1) := by decide +kernel
theorem d_S_countUnpacked_5 : decode b_S_countUnpacked 5 = .ok (.aload_n 0, 1) := by decide +kernel
theorem d_S_countUnpacked_6 : decode b_S_countUnpacked 6 = .ok (.getfield 21, 3) := by decide +kernel
theorem d_S_countUnpacked_9 : decode b_S_countUnpacked 9 = .ok (.invokevirtual 123, 3) := by decide +kernel
theorem d_S_countUnpacked_12 : decode b_S_countUnpacked 12 = .ok (.if_icmp .ge 20, 3) := by decide +kernel
theorem d_S_countUnpacked_15 : decode b_S_countUnpacked 15 = .ok (.aload_n 0, 1) := by decide +kernel
theorem d_S_countUnpacked_16 : decode b_S_countUnpacked 16 = .ok (.iload_n 2, 1) := by decide +kernel
theorem d_S_countUnpacked_17 : decode b_S_countUnpacked 17 = .ok (.invokevirtual 126, 3) := by decide +kernel
theorem d_S_countUnpacked_20 : decode b_S_countUnpacked 20 = .ok (.ifCond .eq 6, 3) := by decide +kernel
theorem d_S_countUnpacked_23 : decode b_S_countUnpacked 23 = .ok (.iinc 1 1, 3) := by decide +kernel
theorem d_S_countUnpacked_26 : decode b_S_countUnpacked 26 = .ok (.iinc 2 1, 3) := by decide +kernel
theorem d_S_countUnpacked_29 : decode b_S_countUnpacked 29 = .ok (.goto (-25), 3) := by decide +kernel
theorem d_S_countUnpacked_32 : decode b_S_countUnpacked 32 = .ok (.iload_n 1, 1) := by decide +kernel
theorem d_S_countUnpacked_33 : decode b_S_countUnpacked 33 = .ok (.ireturn, 1) := by decide +kernel
set_option maxRecDepth 20000 in
set_option maxHeartbeats 4000000 in
theorem c_S_countUnpacked {D : va_G} {cI cZ cJ : ClassId} {ad : Nat → Nat} {mp : Nat} {lf : Nat → Int32} {n : Nat} {Pb : pc_C} {gt gp gh : Nat → Int32} {Pv : pc_C} {gd : Nat → Int32} {Pq : pc_C} {cr : Bool} {rest : va_W} {nb : Nat} {bl : Nat → Nat} {ba : Nat → Nat → Nat} {mt : Nat → Bool} {mk : Nat → Bool} (hRb : pc_R 600 25 Pb (nb, bl, ba)) (hRt : mk_R 24 gt mt) (hRp : mk_R 24 gp mk)  : bC D bcl (tys3 cI cZ cJ) y_S_countUnpacked ({ frames := 2, cells := 0, slots := 0, locals := 42 }) (wS ad cI cZ mp lf n Pb gt gp gh Pv gd Pq cr rest) [.ref (ad 0)] (bI (fun x ws9 => x = nI (cntU (unp mt mk) nb) ∧ ws9 = wS ad cI cZ mp lf n Pb gt gp gh Pv gd Pq cr rest) bno) := by
  have fb : nb < 25 := hRb.2.1
  refine bC.of (by decide) m_S_countUnpacked.1 (Nat.le_of_ble_eq_true rfl) ?_
  intro Γ G E0
  show bV D bcl Γ 3 (wS ad cI cZ mp lf n Pb gt gp gh Pv gd Pq cr rest) 0 0 0 [(0, .ref (ad 0))] []
  have loop : ∀ (d : Nat) (j : Nat), d + j = nb → bV D bcl Γ 3 (wS ad cI cZ mp lf n Pb gt gp gh Pv gd Pq cr rest) 0 0 4 [(0, .ref (ad 0)), (1, .int (nI (cntU (unp mt mk) j))), (2, .int (nI (j)))] [] := by
    intro d
    induction d with
    | zero =>
      intro j hd
      refine bV.iload_n G d_S_countUnpacked_4 rfl ?_
      refine bV.aload_n G d_S_countUnpacked_5 rfl ?_
      refine bV.getf G cl_S 0 1 rfl (by decide) bw_74 rfl d_S_countUnpacked_6 ?_
      refine bV.callVi G m_P_count bw_208 bw_209 bw_207 (c_P_count wS_b hRb) 3 rfl rfl rfl rfl rfl ⟨by decide, by decide⟩ ⟨by decide, by decide⟩ (Nat.le_of_ble_eq_true rfl) d_S_countUnpacked_9 (fun x9 ws9 h9 => ?_)
      obtain ⟨rfl, h9e⟩ := h9
      rw [h9e]
      try dsimp only
      refine bV.icmp_geN (tgt := 32) G d_S_countUnpacked_12 (by decide) (by omega) (by omega) (fun c12 => ?_) (fun c12 => ?_)
      · refine bV.iload_n G d_S_countUnpacked_32 rfl ?_
        exact bV.iretI G E0 rfl rfl (by decide) (by decide) d_S_countUnpacked_33 ⟨by rw [show j = nb by omega], rfl⟩
      · exfalso; omega
    | succ d ih =>
      intro j hd
      refine bV.iload_n G d_S_countUnpacked_4 rfl ?_
      refine bV.aload_n G d_S_countUnpacked_5 rfl ?_
      refine bV.getf G cl_S 0 1 rfl (by decide) bw_74 rfl d_S_countUnpacked_6 ?_
      refine bV.callVi G m_P_count bw_208 bw_209 bw_207 (c_P_count wS_b hRb) 3 rfl rfl rfl rfl rfl ⟨by decide, by decide⟩ ⟨by decide, by decide⟩ (Nat.le_of_ble_eq_true rfl) d_S_countUnpacked_9 (fun x9 ws9 h9 => ?_)
      obtain ⟨rfl, h9e⟩ := h9
      rw [h9e]
      try dsimp only
      refine bV.icmp_geN (tgt := 32) G d_S_countUnpacked_12 (by decide) (by omega) (by omega) (fun c12 => ?_) (fun c12 => ?_)
      · exfalso; omega
      · refine bV.aload_n G d_S_countUnpacked_15 rfl ?_
        refine bV.iload_n G d_S_countUnpacked_16 rfl ?_
        refine bV.callVi G m_S_isUnpacked bw_375 bw_s13 bw_373 (c_S_isUnpacked hRt hRp (j := j) (by omega)) 0 rfl rfl rfl rfl rfl ⟨by decide, by decide⟩ ⟨by decide, by decide⟩ (Nat.le_of_ble_eq_true rfl) d_S_countUnpacked_17 (fun x9 ws9 h9 => ?_)
        obtain ⟨rfl, h9e⟩ := h9
        rw [h9e]
        try dsimp only
        refine bV.if_eqB (tgt := 26) G d_S_countUnpacked_20 (by decide) (fun c20 => ?_) (fun c20 => ?_)
        · refine bV.iincN G (lv' := [(0, .ref (ad 0)), (1, .int (nI (cntU (unp mt mk) j))), (2, .int (nI (j + 1)))]) d_S_countUnpacked_26 rfl (by decide) rfl rfl ?_
          refine bV.goto (tgt := 4) G d_S_countUnpacked_29 (by decide) ?_
          have e := ih (j + 1) (by omega)
          first | rw [cntU_t (f := unp mt mk) c20] at e | rw [cntU_f (f := unp mt mk) c20] at e
          exact e
        · refine bV.iincN G (lv' := [(0, .ref (ad 0)), (1, .int (nI ((cntU (unp mt mk) j) + 1))), (2, .int (nI (j)))]) d_S_countUnpacked_23 rfl (by decide) rfl rfl ?_
          refine bV.iincN G (lv' := [(0, .ref (ad 0)), (1, .int (nI ((cntU (unp mt mk) j) + 1))), (2, .int (nI (j + 1)))]) d_S_countUnpacked_26 rfl (by decide) rfl rfl ?_
          refine bV.goto (tgt := 4) G d_S_countUnpacked_29 (by decide) ?_
          have e := ih (j + 1) (by omega)
          first | rw [cntU_t (f := unp mt mk) c20] at e | rw [cntU_f (f := unp mt mk) c20] at e
          exact e
  refine bV.iconst (v := nI 0) G d_S_countUnpacked_0 (by decide) ?_
  refine bV.istore_n G (lv' := [(0, .ref (ad 0)), (1, .int (nI (0)))]) d_S_countUnpacked_1 (by decide) rfl rfl ?_
  refine bV.iconst (v := nI 0) G d_S_countUnpacked_2 (by decide) ?_
  refine bV.istore_n G (lv' := [(0, .ref (ad 0)), (1, .int (nI (0))), (2, .int (nI (0)))]) d_S_countUnpacked_3 (by decide) rfl rfl ?_
  exact loop nb 0 (by omega)
theorem d_S_isBad_0 : decode b_S_isBad 0 = .ok (.aload_n 0, 1) := by decide +kernel
theorem d_S_isBad_1 : decode b_S_isBad 1 = .ok (.getfield 55, 3) := by decide +kernel
theorem d_S_isBad_4 : decode b_S_isBad 4 = .ok (.iload_n 1, 1) := by decide +kernel
theorem d_S_isBad_5 : decode b_S_isBad 5 = .ok (.invokevirtual 110, 3) := by decide +kernel
theorem d_S_isBad_8 : decode b_S_isBad 8 = .ok (.iconst 4, 1) := by decide +kernel
theorem d_S_isBad_9 : decode b_S_isBad 9 = .ok (.isub, 1) := by decide +kernel
theorem d_S_isBad_10 : decode b_S_isBad 10 = .ok (.istore_n 2, 1) := by decide +kernel
theorem d_S_isBad_11 : decode b_S_isBad 11 = .ok (.aload_n 0, 1) := by decide +kernel
theorem d_S_isBad_12 : decode b_S_isBad 12 = .ok (.getfield 55, 3) := by decide +kernel
theorem d_S_isBad_15 : decode b_S_isBad 15 = .ok (.iconst 1, 1) := by decide +kernel
theorem d_S_isBad_16 : decode b_S_isBad 16 = .ok (.iload_n 1, 1) := by decide +kernel
theorem d_S_isBad_17 : decode b_S_isBad 17 = .ok (.iload_n 2, 1) := by decide +kernel
theorem d_S_isBad_18 : decode b_S_isBad 18 = .ok (.invokevirtual 113, 3) := by decide +kernel
theorem d_S_isBad_21 : decode b_S_isBad 21 = .ok (.istore_n 3, 1) := by decide +kernel
theorem d_S_isBad_22 : decode b_S_isBad 22 = .ok (.iconst 0, 1) := by decide +kernel
theorem d_S_isBad_23 : decode b_S_isBad 23 = .ok (.istore 4, 2) := by decide +kernel
theorem d_S_isBad_25 : decode b_S_isBad 25 = .ok (.iload 4, 2) := by decide +kernel
theorem d_S_isBad_27 : decode b_S_isBad 27 = .ok (.iconst 4, 1) := by decide +kernel
theorem d_S_isBad_28 : decode b_S_isBad 28 = .ok (.if_icmp .ge 32, 3) := by decide +kernel
theorem d_S_isBad_31 : decode b_S_isBad 31 = .ok (.aload_n 0, 1) := by decide +kernel
theorem d_S_isBad_32 : decode b_S_isBad 32 = .ok (.getfield 55, 3) := by decide +kernel
theorem d_S_isBad_35 : decode b_S_isBad 35 = .ok (.iload_n 1, 1) := by decide +kernel
theorem d_S_isBad_36 : decode b_S_isBad 36 = .ok (.iload_n 2, 1) := by decide +kernel
theorem d_S_isBad_37 : decode b_S_isBad 37 = .ok (.iload 4, 2) := by decide +kernel
theorem d_S_isBad_39 : decode b_S_isBad 39 = .ok (.iadd, 1) := by decide +kernel
theorem d_S_isBad_40 : decode b_S_isBad 40 = .ok (.invokevirtual 107, 3) := by decide +kernel
theorem d_S_isBad_43 : decode b_S_isBad 43 = .ok (.iload_n 3, 1) := by decide +kernel
theorem d_S_isBad_44 : decode b_S_isBad 44 = .ok (.iload 4, 2) := by decide +kernel
theorem d_S_isBad_46 : decode b_S_isBad 46 = .ok (.invokestatic 177, 3) := by decide +kernel
theorem d_S_isBad_49 : decode b_S_isBad 49 = .ok (.if_icmp .eq 5, 3) := by decide +kernel
theorem d_S_isBad_52 : decode b_S_isBad 52 = .ok (.iconst 1, 1) := by decide +kernel
theorem d_S_isBad_53 : decode b_S_isBad 53 = .ok (.ireturn, 1) := by decide +kernel
theorem d_S_isBad_54 : decode b_S_isBad 54 = .ok (.iinc 4 1, 3) := by decide +kernel
theorem d_S_isBad_57 : decode b_S_isBad 57 = .ok (.goto (-32), 3) := by decide +kernel
theorem d_S_isBad_60 : decode b_S_isBad 60 = .ok (.iconst 0, 1) := by decide +kernel
theorem d_S_isBad_61 : decode b_S_isBad 61 = .ok (.ireturn, 1) := by decide +kernel
set_option maxRecDepth 20000 in
set_option maxHeartbeats 4000000 in
theorem c_S_isBad {D : va_G} {cI cZ cJ : ClassId} {ad : Nat → Nat} {mp : Nat} {lf : Nat → Int32} {n : Nat} {Pb : pc_C} {gt gp gh : Nat → Int32} {Pv : pc_C} {gd : Nat → Int32} {Pq : pc_C} {cr : Bool} {rest : va_W} {np : Nat} {ql : Nat → Nat} {qa : Nat → Nat → Nat} (hRq : pc_R 664 (mp + 1) Pq (np, ql, qa)) {p : Nat} (hp : p < np) (h4 : 4 ≤ ql p) (hm : mp ≤ 8) : bC D bcl (tys3 cI cZ cJ) y_S_isBad ({ frames := 3, cells := 0, slots := 0, locals := 72 }) (wS ad cI cZ mp lf n Pb gt gp gh Pv gd Pq cr rest) [.ref (ad 0), .int (nI (p))] (bI (fun x ws9 => x = bB (dcd (badP ql qa p)) ∧ ws9 = wS ad cI cZ mp lf n Pb gt gp gh Pv gd Pq cr rest) bno) := by
  have fq : np < mp + 1 := hRq.2.1
  have hl9 : ql p ≤ 664 := pc_R_len (A := (np, ql, qa)) hRq (Nat.le_of_lt hp)
  refine bC.of (by decide) m_S_isBad.1 (Nat.le_of_ble_eq_true rfl) ?_
  intro Γ G E0
  show bV D bcl Γ 5 (wS ad cI cZ mp lf n Pb gt gp gh Pv gd Pq cr rest) 0 0 0 [(0, .ref (ad 0)), (1, .int (nI (p)))] []
  have loop : ∀ (d : Nat) (i : Nat), d + i = 4 → (∀ i0, i0 < i → nI (qa p (ql p - 4 + i0)) = byteS (sumS (qa p) (nI 1) (ql p - 4)) i0) → bV D bcl Γ 5 (wS ad cI cZ mp lf n Pb gt gp gh Pv gd Pq cr rest) 0 0 25 [(0, .ref (ad 0)), (1, .int (nI (p))), (2, .int (nI (ql p - 4))), (3, .int (sumS (qa p) (nI 1) (ql p - 4))), (4, .int (nI (i)))] [] := by
    intro d
    induction d with
    | zero =>
      intro i hd hi
      refine bV.iload G d_S_isBad_25 rfl ?_
      refine bV.iconst (v := nI 4) G d_S_isBad_27 (by decide) ?_
      refine bV.icmp_geN (tgt := 60) G d_S_isBad_28 (by decide) (by omega) (by omega) (fun c28 => ?_) (fun c28 => ?_)
      · refine bV.iconst (v := nI 0) G d_S_isBad_60 (by decide) ?_
        refine bV.topi (x := nI 0) (y := bB false) (by decide) ?_
        exact bV.iretI G E0 rfl (bB_n _) (by decide) (by decide) d_S_isBad_61 ⟨by rw [dcd_f (fun ⟨i0, z1, z2⟩ => z2 (hi i0 (by omega)))], rfl⟩
      · exfalso; omega
    | succ d ih =>
      intro i hd hi
      refine bV.iload G d_S_isBad_25 rfl ?_
      refine bV.iconst (v := nI 4) G d_S_isBad_27 (by decide) ?_
      refine bV.icmp_geN (tgt := 60) G d_S_isBad_28 (by decide) (by omega) (by omega) (fun c28 => ?_) (fun c28 => ?_)
      · exfalso; omega
      · refine bV.aload_n G d_S_isBad_31 rfl ?_
        refine bV.getf G cl_S 0 7 rfl (by decide) bw_80 rfl d_S_isBad_32 ?_
        refine bV.iload_n G d_S_isBad_35 rfl ?_
        refine bV.iload_n G d_S_isBad_36 rfl ?_
        refine bV.iload G d_S_isBad_37 rfl ?_
        refine bV.iaddN G d_S_isBad_39 ?_
        refine bV.callVi G m_P_at bw_221 bw_222 bw_322 (c_P_at wS_q hRq (j := p) (i := (ql p - 4) + i) (by first | omega | exact Nat.le_refl _) (by omega)) 17 rfl rfl rfl rfl rfl ⟨by decide, by decide⟩ ⟨by decide, by decide⟩ (Nat.le_of_ble_eq_true rfl) d_S_isBad_40 (fun x9 ws9 h9 => ?_)
        obtain ⟨rfl, h9e⟩ := h9
        rw [h9e]
        try dsimp only
        rw [if_pos (by show ql p - 4 + i < ql p; omega)]
        refine bV.iload_n G d_S_isBad_43 rfl ?_
        refine bV.iload G d_S_isBad_44 rfl ?_
        refine bV.callSi G m_S_byteOfSum bw_386 bw_385 (c_S_byteOfSum (s := sumS (qa p) (nI 1) (ql p - 4)) (i := i) (by omega)) rfl rfl ⟨by decide, by decide⟩ ⟨by decide, by decide⟩ (Nat.le_of_ble_eq_true rfl) d_S_isBad_46 (fun x9 ws9 h9 => ?_)
        obtain ⟨rfl, h9e⟩ := h9
        rw [h9e]
        try dsimp only
        refine bV.icmp_eq (tgt := 54) G d_S_isBad_49 (by decide) (fun c49 => ?_) (fun c49 => ?_)
        · refine bV.iincN G (lv' := [(0, .ref (ad 0)), (1, .int (nI (p))), (2, .int (nI (ql p - 4))), (3, .int (sumS (qa p) (nI 1) (ql p - 4))), (4, .int (nI (i + 1)))]) d_S_isBad_54 rfl (by decide) rfl rfl ?_
          refine bV.goto (tgt := 25) G d_S_isBad_57 (by decide) ?_
          exact ih (i + 1) (by omega) (fun i0 h => by rcases Nat.lt_or_ge i0 i with z | z; exact hi i0 z; rw [show i0 = i by omega]; exact c49)
        · refine bV.iconst (v := nI 1) G d_S_isBad_52 (by decide) ?_
          refine bV.topi (x := nI 1) (y := bB true) (by decide) ?_
          exact bV.iretI G E0 rfl (bB_n _) (by decide) (by decide) d_S_isBad_53 ⟨by rw [dcd_t ⟨i, by omega, c49⟩], rfl⟩
  refine bV.aload_n G d_S_isBad_0 rfl ?_
  refine bV.getf G cl_S 0 7 rfl (by decide) bw_80 rfl d_S_isBad_1 ?_
  refine bV.iload_n G d_S_isBad_4 rfl ?_
  refine bV.callVi G m_P_length bw_189 bw_190 bw_321 (c_P_length wS_q hRq (j := p) (by first | omega | exact Nat.le_refl _)) 17 rfl rfl rfl rfl rfl ⟨by decide, by decide⟩ ⟨by decide, by decide⟩ (Nat.le_of_ble_eq_true rfl) d_S_isBad_5 (fun x9 ws9 h9 => ?_)
  obtain ⟨rfl, h9e⟩ := h9
  rw [h9e]
  try dsimp only
  refine bV.iconst (v := nI 4) G d_S_isBad_8 (by decide) ?_
  refine bV.isubN G d_S_isBad_9 (by omega) ?_
  refine bV.istore_n G (lv' := [(0, .ref (ad 0)), (1, .int (nI (p))), (2, .int (nI ((ql p) - 4)))]) d_S_isBad_10 (by decide) rfl rfl ?_
  refine bV.aload_n G d_S_isBad_11 rfl ?_
  refine bV.getf G cl_S 0 7 rfl (by decide) bw_80 rfl d_S_isBad_12 ?_
  refine bV.iconst (v := nI 1) G d_S_isBad_15 (by decide) ?_
  refine bV.iload_n G d_S_isBad_16 rfl ?_
  refine bV.iload_n G d_S_isBad_17 rfl ?_
  refine bV.callVi G m_P_sum bw_331 bw_332 bw_330 (c_P_sum wS_q hRq (s0 := nI 1) (j := p) (len := (ql p) - 4) (by first | omega | exact Nat.le_refl _) (by first | omega | exact Nat.le_refl _ | (dsimp only; omega))) 17 rfl rfl rfl rfl rfl ⟨by decide, by decide⟩ ⟨by decide, by decide⟩ (Nat.le_of_ble_eq_true rfl) d_S_isBad_18 (fun x9 ws9 h9 => ?_)
  obtain ⟨rfl, h9e⟩ := h9
  rw [h9e]
  try dsimp only
  refine bV.istore_n G (lv' := [(0, .ref (ad 0)), (1, .int (nI (p))), (2, .int (nI ((ql p) - 4))), (3, .int (sumS (qa p) (nI 1) ((ql p) - 4)))]) d_S_isBad_21 (by decide) rfl rfl ?_
  refine bV.iconst (v := nI 0) G d_S_isBad_22 (by decide) ?_
  refine bV.istore G (lv' := [(0, .ref (ad 0)), (1, .int (nI (p))), (2, .int (nI ((ql p) - 4))), (3, .int (sumS (qa p) (nI 1) ((ql p) - 4))), (4, .int (nI (0)))]) d_S_isBad_23 (by decide) rfl rfl ?_
  exact loop 4 0 (by omega) (fun k0 h => absurd h (Nat.not_lt_zero _))
theorem d_S_requireByteOfPack_0 : decode b_S_requireByteOfPack 0 = .ok (.aload_n 0, 1) := by decide +kernel
theorem d_S_requireByteOfPack_1 : decode b_S_requireByteOfPack 1 = .ok (.getfield 55, 3) := by decide +kernel
theorem d_S_requireByteOfPack_4 : decode b_S_requireByteOfPack 4 = .ok (.iload_n 1, 1) := by decide +kernel
theorem d_S_requireByteOfPack_5 : decode b_S_requireByteOfPack 5 = .ok (.invokevirtual 192, 3) := by decide +kernel
theorem d_S_requireByteOfPack_8 : decode b_S_requireByteOfPack 8 = .ok (.ifCond .eq 19, 3) := by decide +kernel
theorem d_S_requireByteOfPack_11 : decode b_S_requireByteOfPack 11 = .ok (.iload_n 2, 1) := by decide +kernel
theorem d_S_requireByteOfPack_12 : decode b_S_requireByteOfPack 12 = .ok (.ifCond .lt 15, 3) := by decide +kernel
theorem d_S_requireByteOfPack_15 : decode b_S_requireByteOfPack 15 = .ok (.iload_n 2, 1) := by decide +kernel
theorem d_S_requireByteOfPack_16 : decode b_S_requireByteOfPack 16 = .ok (.aload_n 0, 1) := by decide +kernel
theorem d_S_requireByteOfPack_17 : decode b_S_requireByteOfPack 17 = .ok (.getfield 55, 3) := by decide +kernel
theorem d_S_requireByteOfPack_20 : decode b_S_requireByteOfPack 20 = .ok (.iload_n 1, 1) := by decide +kernel
theorem d_S_requireByteOfPack_21 : decode b_S_requireByteOfPack 21 = .ok (.invokevirtual 110, 3) := by decide +kernel
theorem d_S_requireByteOfPack_24 : decode b_S_requireByteOfPack 24 = .ok (.if_icmp .lt 13, 3) := by decide +kernel
theorem d_S_requireByteOfPack_27 : decode b_S_requireByteOfPack 27 = .ok (.new 195, 3) := by decide +kernel
theorem d_S_requireByteOfPack_30 : decode b_S_requireByteOfPack 30 = .ok (.dup, 1) := by decide +kernel
theorem d_S_requireByteOfPack_31 : decode b_S_requireByteOfPack 31 = .ok (.ldc 202, 2) := by decide +kernel
theorem d_S_requireByteOfPack_33 : decode b_S_requireByteOfPack 33 = .ok (.invokespecial 199, 3) := by decide +kernel
theorem d_S_requireByteOfPack_36 : decode b_S_requireByteOfPack 36 = .ok (.athrow, 1) := by decide +kernel
theorem d_S_requireByteOfPack_37 : decode b_S_requireByteOfPack 37 = .ok (.return_, 1) := by decide +kernel
set_option maxRecDepth 20000 in
set_option maxHeartbeats 4000000 in
theorem c_S_requireByteOfPack {D : va_G} {cI cZ cJ : ClassId} {ad : Nat → Nat} {mp : Nat} {lf : Nat → Int32} {n : Nat} {Pb : pc_C} {gt gp gh : Nat → Int32} {Pv : pc_C} {gd : Nat → Int32} {Pq : pc_C} {cr : Bool} {rest : va_W} {np : Nat} {ql : Nat → Nat} {qa : Nat → Nat → Nat} (hRq : pc_R 664 (mp + 1) Pq (np, ql, qa)) {v u : Int32} (hm : mp ≤ 8) : bC D bcl (tys3 cI cZ cJ) y_S_requireByteOfPack ({ frames := 6, cells := 1, slots := 6, locals := 84 }) (wS ad cI cZ mp lf n Pb gt gp gh Pv gd Pq cr rest) [.ref (ad 0), .int (v), .int (u)] (bO (fun ws9 => ((0 ≤ v ∧ v < nI np) ∧ 0 ≤ u ∧ u < nI (ql v.toNatClampNeg)) ∧ ws9 = wS ad cI cZ mp lf n Pb gt gp gh Pv gd Pq cr rest) (fun E ws9 => (¬ ((0 ≤ v ∧ v < nI np) ∧ 0 ≤ u ∧ u < nI (ql v.toNatClampNeg))) ∧ E = "java/lang/IndexOutOfBoundsException" ∧ ws9 = wS ad cI cZ mp lf n Pb gt gp gh Pv gd Pq cr rest)) := by
  have fq : np < mp + 1 := hRq.2.1
  refine bC.of (by decide) m_S_requireByteOfPack.1 (Nat.le_of_ble_eq_true rfl) ?_
  intro Γ G E0
  show bV D bcl Γ 3 (wS ad cI cZ mp lf n Pb gt gp gh Pv gd Pq cr rest) 0 0 0 [(0, .ref (ad 0)), (1, .int (v)), (2, .int (u))] []
  refine bV.aload_n G d_S_requireByteOfPack_0 rfl ?_
  refine bV.getf G cl_S 0 7 rfl (by decide) bw_80 rfl d_S_requireByteOfPack_1 ?_
  refine bV.iload_n G d_S_requireByteOfPack_4 rfl ?_
  refine bV.callVi G m_P_has bw_289 bw_290 bw_288 (c_P_has wS_q hRq) 17 rfl rfl rfl rfl rfl ⟨by decide, by decide⟩ ⟨by decide, by decide⟩ (Nat.le_of_ble_eq_true rfl) d_S_requireByteOfPack_5 (fun x9 ws9 h9 => ?_)
  obtain ⟨rfl, h9e⟩ := h9
  rw [h9e]
  try dsimp only
  refine bV.if_eqB (tgt := 27) G d_S_requireByteOfPack_8 (by decide) (fun c8 => ?_) (fun c8 => ?_)
  · exact bV.throwNew G E0 (E := "java/lang/IndexOutOfBoundsException") (tx := "no such pack or byte") (names := ["java/lang/RuntimeException", "java/lang/Exception"]) (by decide +kernel) (by decide +kernel) oa_199 bw_292 bw_293 bw_11 (by decide) (by decide) (by decide) (by decide) (Nat.le_of_ble_eq_true rfl) rfl d_S_requireByteOfPack_27 d_S_requireByteOfPack_30 d_S_requireByteOfPack_31 d_S_requireByteOfPack_33 d_S_requireByteOfPack_36 (Or.inr ⟨_, rfl, ⟨fun z => by first | exact absurd z.1 (of_decide_eq_false c8) | exact absurd z.2.1 (Int32.not_le.mpr c12) | exact c24 (by have z3 := z.2.2; rw [nI_clamp (by omega)] at z3; exact z3), rfl, rfl⟩⟩)
  · have hg8 := of_decide_eq_true c8
    obtain ⟨j, hj, rfl⟩ := nI_btw hg8 (by omega)
    refine bV.iload_n G d_S_requireByteOfPack_11 rfl ?_
    refine bV.if_lt (tgt := 27) G d_S_requireByteOfPack_12 (by decide) (fun c12 => ?_) (fun c12 => ?_)
    · exact bV.throwNew G E0 (E := "java/lang/IndexOutOfBoundsException") (tx := "no such pack or byte") (names := ["java/lang/RuntimeException", "java/lang/Exception"]) (by decide +kernel) (by decide +kernel) oa_199 bw_292 bw_293 bw_11 (by decide) (by decide) (by decide) (by decide) (Nat.le_of_ble_eq_true rfl) rfl d_S_requireByteOfPack_27 d_S_requireByteOfPack_30 d_S_requireByteOfPack_31 d_S_requireByteOfPack_33 d_S_requireByteOfPack_36 (Or.inr ⟨_, rfl, ⟨fun z => by first | exact absurd z.1 (of_decide_eq_false c8) | exact absurd z.2.1 (Int32.not_le.mpr c12) | exact c24 (by have z3 := z.2.2; rw [nI_clamp (by omega)] at z3; exact z3), rfl, rfl⟩⟩)
    · refine bV.iload_n G d_S_requireByteOfPack_15 rfl ?_
      refine bV.aload_n G d_S_requireByteOfPack_16 rfl ?_
      refine bV.getf G cl_S 0 7 rfl (by decide) bw_80 rfl d_S_requireByteOfPack_17 ?_
      refine bV.iload_n G d_S_requireByteOfPack_20 rfl ?_
      refine bV.callVi G m_P_length bw_189 bw_190 bw_321 (c_P_length wS_q hRq (j := j) (by first | omega | exact Nat.le_refl _)) 17 rfl rfl rfl rfl rfl ⟨by decide, by decide⟩ ⟨by decide, by decide⟩ (Nat.le_of_ble_eq_true rfl) d_S_requireByteOfPack_21 (fun x9 ws9 h9 => ?_)
      obtain ⟨rfl, h9e⟩ := h9
      rw [h9e]
      try dsimp only
      refine bV.icmp_lt (tgt := 37) G d_S_requireByteOfPack_24 (by decide) (fun c24 => ?_) (fun c24 => ?_)
      · exact bV.vretO G E0 rfl (by decide) (by decide) d_S_requireByteOfPack_37 ⟨⟨hg8, Int32.not_lt.mp c12, by rw [nI_clamp (by omega)]; exact c24⟩, rfl⟩
      · exact bV.throwNew G E0 (E := "java/lang/IndexOutOfBoundsException") (tx := "no such pack or byte") (names := ["java/lang/RuntimeException", "java/lang/Exception"]) (by decide +kernel) (by decide +kernel) oa_199 bw_292 bw_293 bw_11 (by decide) (by decide) (by decide) (by decide) (Nat.le_of_ble_eq_true rfl) rfl d_S_requireByteOfPack_27 d_S_requireByteOfPack_30 d_S_requireByteOfPack_31 d_S_requireByteOfPack_33 d_S_requireByteOfPack_36 (Or.inr ⟨_, rfl, ⟨fun z => by first | exact absurd z.1 (of_decide_eq_false c8) | exact absurd z.2.1 (Int32.not_le.mpr c12) | exact c24 (by have z3 := z.2.2; rw [nI_clamp (by omega)] at z3; exact z3), rfl, rfl⟩⟩)
end
section
/-! ===== the store: public reads ===== -/
theorem bV.ltake {D : va_G} {cl : List vw_C} {Γ : bCtx} {nL : Nat} {ws : va_W} {k n pc : Nat} {lv lv' ex : List (Nat × Value)} {st : List Value} (h : lv = lv' ++ ex) (kk : bV D cl Γ nL ws k n pc lv' st) : bV D cl Γ nL ws k n pc lv st := by
  subst h
  exact bV.locals (fun q hq => List.mem_append_left _ hq) kk
theorem d_S_byteAt_0 : decode b_S_byteAt 0 = .ok (.aload_n 0, 1) := by decide +kernel
theorem d_S_byteAt_1 : decode b_S_byteAt 1 = .ok (.invokevirtual 62, 3) := by decide +kernel
theorem d_S_byteAt_4 : decode b_S_byteAt 4 = .ok (.aload_n 0, 1) := by decide +kernel
theorem d_S_byteAt_5 : decode b_S_byteAt 5 = .ok (.iload_n 1, 1) := by decide +kernel
theorem d_S_byteAt_6 : decode b_S_byteAt 6 = .ok (.invokevirtual 97, 3) := by decide +kernel
theorem d_S_byteAt_9 : decode b_S_byteAt 9 = .ok (.aload_n 0, 1) := by decide +kernel
theorem d_S_byteAt_10 : decode b_S_byteAt 10 = .ok (.iload_n 2, 1) := by decide +kernel
theorem d_S_byteAt_11 : decode b_S_byteAt 11 = .ok (.invokevirtual 138, 3) := by decide +kernel
theorem d_S_byteAt_14 : decode b_S_byteAt 14 = .ok (.aload_n 0, 1) := by decide +kernel
theorem d_S_byteAt_15 : decode b_S_byteAt 15 = .ok (.getfield 30, 3) := by decide +kernel
theorem d_S_byteAt_18 : decode b_S_byteAt 18 = .ok (.iload_n 1, 1) := by decide +kernel
theorem d_S_byteAt_19 : decode b_S_byteAt 19 = .ok (.invokevirtual 141, 3) := by decide +kernel
theorem d_S_byteAt_22 : decode b_S_byteAt 22 = .ok (.ifCond .eq 15, 3) := by decide +kernel
theorem d_S_byteAt_25 : decode b_S_byteAt 25 = .ok (.aload_n 0, 1) := by decide +kernel
theorem d_S_byteAt_26 : decode b_S_byteAt 26 = .ok (.getfield 21, 3) := by decide +kernel
theorem d_S_byteAt_29 : decode b_S_byteAt 29 = .ok (.iload_n 1, 1) := by decide +kernel
theorem d_S_byteAt_30 : decode b_S_byteAt 30 = .ok (.iload_n 2, 1) := by decide +kernel
theorem d_S_byteAt_31 : decode b_S_byteAt 31 = .ok (.invokevirtual 107, 3) := by decide +kernel
theorem d_S_byteAt_34 : decode b_S_byteAt 34 = .ok (.goto 4, 3) := by decide +kernel
theorem d_S_byteAt_37 : decode b_S_byteAt 37 = .ok (.iconst (-1), 1) := by decide +kernel
theorem d_S_byteAt_38 : decode b_S_byteAt 38 = .ok (.ireturn, 1) := by decide +kernel
set_option maxRecDepth 20000 in
set_option maxHeartbeats 4000000 in
theorem c_S_byteAt {D : va_G} {cI cZ cJ : ClassId} {ad : Nat → Nat} {mp : Nat} {lf : Nat → Int32} {n : Nat} {Pb : pc_C} {gt gp gh : Nat → Int32} {Pv : pc_C} {gd : Nat → Int32} {Pq : pc_C} {cr : Bool} {rest : va_W} {nb : Nat} {bl : Nat → Nat} {ba : Nat → Nat → Nat} {mt : Nat → Bool} (hRb : pc_R 600 25 Pb (nb, bl, ba)) (hRt : mk_R 24 gt mt) {v u : Int32} : bC D bcl (tys3 cI cZ cJ) y_S_byteAt ({ frames := 7, cells := 3, slots := 18, locals := 106 }) (wS ad cI cZ mp lf n Pb gt gp gh Pv gd Pq cr rest) [.ref (ad 0), .int (v), .int (u)] (bI (fun x ws9 => cr = false ∧ ((0 ≤ v ∧ v < nI nb) ∧ 0 ≤ u) ∧ x = (if mt v.toNatClampNeg = true then (if u.toNatClampNeg < bl v.toNatClampNeg then nI (ba v.toNatClampNeg u.toNatClampNeg) else (-1)) else (-1)) ∧ ws9 = wS ad cI cZ mp lf n Pb gt gp gh Pv gd Pq cr rest) (fun E ws9 => (cr = true ∧ E = "java/lang/IllegalStateException" ∧ ws9 = wS ad cI cZ mp lf n Pb gt gp gh Pv gd Pq cr rest) ∨ (cr = false ∧ ¬ ((0 ≤ v ∧ v < nI nb) ∧ 0 ≤ u) ∧ E = "java/lang/IndexOutOfBoundsException" ∧ ws9 = wS ad cI cZ mp lf n Pb gt gp gh Pv gd Pq cr rest))) := by
  have fb : nb < 25 := hRb.2.1
  refine bC.of (by decide) m_S_byteAt.1 (Nat.le_of_ble_eq_true rfl) ?_
  intro Γ G E0
  show bV D bcl Γ 3 (wS ad cI cZ mp lf n Pb gt gp gh Pv gd Pq cr rest) 0 0 0 [(0, .ref (ad 0)), (1, .int (v)), (2, .int (u))] []
  refine bV.aload_n G d_S_byteAt_0 rfl ?_
  refine bV.callVot G m_S_requireRunning bw_114 bw_s0 bw_112 (c_S_requireRunning ) 0 rfl rfl rfl rfl rfl ⟨by decide, by decide⟩ ⟨by decide, by decide⟩ (Nat.le_of_ble_eq_true rfl) d_S_byteAt_1 (fun ws9 h9 => ?_) (fun E9 ws9 h9 => ?_)
  · obtain ⟨hg1, h9e⟩ := h9
    rw [h9e]
    refine bV.aload_n G d_S_byteAt_4 rfl ?_
    refine bV.iload_n G d_S_byteAt_5 rfl ?_
    refine bV.callVot G m_S_requireBlock bw_310 bw_s7 bw_308 (c_S_requireBlock hRb (v := v)) 0 rfl rfl rfl rfl rfl ⟨by decide, by decide⟩ ⟨by decide, by decide⟩ (Nat.le_of_ble_eq_true rfl) d_S_byteAt_6 (fun ws9 h9 => ?_) (fun E9 ws9 h9 => ?_)
    · obtain ⟨hg6, h9e⟩ := h9
      rw [h9e]
      obtain ⟨j, hj, rfl⟩ := nI_btw hg6 (by omega)
      refine bV.aload_n G d_S_byteAt_9 rfl ?_
      refine bV.iload_n G d_S_byteAt_10 rfl ?_
      refine bV.callVot G m_S_requireNotNegative bw_398 bw_s16 bw_396 (c_S_requireNotNegative (v := u)) 0 rfl rfl rfl rfl rfl ⟨by decide, by decide⟩ ⟨by decide, by decide⟩ (Nat.le_of_ble_eq_true rfl) d_S_byteAt_11 (fun ws9 h9 => ?_) (fun E9 ws9 h9 => ?_)
      · obtain ⟨hg11, h9e⟩ := h9
        rw [h9e]
        obtain ⟨i, hi, rfl⟩ := nI_of (Int32.not_lt.mpr hg11)
        refine bV.aload_n G d_S_byteAt_14 rfl ?_
        refine bV.getf G cl_S 0 2 rfl (by decide) bw_75 rfl d_S_byteAt_15 ?_
        refine bV.iload_n G d_S_byteAt_18 rfl ?_
        refine bV.callVi G m_K_isOn bw_212 bw_213 bw_211 (c_K_isOn wS_t hRt (j := j) (by omega)) 6 rfl rfl rfl rfl rfl ⟨by decide, by decide⟩ ⟨by decide, by decide⟩ (Nat.le_of_ble_eq_true rfl) d_S_byteAt_19 (fun x9 ws9 h9 => ?_)
        obtain ⟨rfl, h9e⟩ := h9
        rw [h9e]
        try dsimp only
        rw [decide_eq_true (show j < 24 by omega), Bool.true_and]
        refine bV.if_eqB (tgt := 37) G d_S_byteAt_22 (by decide) (fun c22 => ?_) (fun c22 => ?_)
        · refine bV.iconst (v := (-1)) G d_S_byteAt_37 (by decide) ?_
          exact bV.iretI G E0 rfl rfl (by decide) (by decide) d_S_byteAt_38 ⟨hg1, ⟨hg6, hg11⟩, by rw [nI_clamp (by omega), nI_clamp (by omega)]; rw [if_neg (by rw [c22]; decide)], rfl⟩
        · refine bV.aload_n G d_S_byteAt_25 rfl ?_
          refine bV.getf G cl_S 0 1 rfl (by decide) bw_74 rfl d_S_byteAt_26 ?_
          refine bV.iload_n G d_S_byteAt_29 rfl ?_
          refine bV.iload_n G d_S_byteAt_30 rfl ?_
          refine bV.callVi G m_P_at bw_221 bw_222 bw_322 (c_P_at wS_b hRb (j := j) (i := i) (by first | omega | exact Nat.le_refl _) (by omega)) 3 rfl rfl rfl rfl rfl ⟨by decide, by decide⟩ ⟨by decide, by decide⟩ (Nat.le_of_ble_eq_true rfl) d_S_byteAt_31 (fun x9 ws9 h9 => ?_)
          obtain ⟨rfl, h9e⟩ := h9
          rw [h9e]
          try dsimp only
          refine bV.goto (tgt := 38) G d_S_byteAt_34 (by decide) ?_
          exact bV.iretI G E0 rfl rfl (by decide) (by decide) d_S_byteAt_38 ⟨hg1, ⟨hg6, hg11⟩, by rw [nI_clamp (by omega), nI_clamp (by omega)]; rw [if_pos c22], rfl⟩
      · obtain ⟨hz, rfl, h9e⟩ := h9
        rw [h9e]
        exact bT.leaveI G E0 rfl (by decide) (by decide) (Or.inr ⟨hg1, fun z => hz z.2, rfl, rfl⟩)
    · obtain ⟨hz, rfl, h9e⟩ := h9
      rw [h9e]
      exact bT.leaveI G E0 rfl (by decide) (by decide) (Or.inr ⟨hg1, fun z => hz z.1, rfl, rfl⟩)
  · obtain ⟨hz, rfl, h9e⟩ := h9
    rw [h9e]
    exact bT.leaveI G E0 rfl (by decide) (by decide) (Or.inl ⟨hz, rfl, rfl⟩)
theorem d_S_digest_0 : decode b_S_digest 0 = .ok (.aload_n 0, 1) := by decide +kernel
theorem d_S_digest_1 : decode b_S_digest 1 = .ok (.invokevirtual 62, 3) := by decide +kernel
theorem d_S_digest_4 : decode b_S_digest 4 = .ok (.aload_n 0, 1) := by decide +kernel
theorem d_S_digest_5 : decode b_S_digest 5 = .ok (.iload_n 1, 1) := by decide +kernel
theorem d_S_digest_6 : decode b_S_digest 6 = .ok (.invokevirtual 97, 3) := by decide +kernel
theorem d_S_digest_9 : decode b_S_digest 9 = .ok (.aload_n 0, 1) := by decide +kernel
theorem d_S_digest_10 : decode b_S_digest 10 = .ok (.iload_n 2, 1) := by decide +kernel
theorem d_S_digest_11 : decode b_S_digest 11 = .ok (.invokevirtual 174, 3) := by decide +kernel
theorem d_S_digest_14 : decode b_S_digest 14 = .ok (.aload_n 0, 1) := by decide +kernel
theorem d_S_digest_15 : decode b_S_digest 15 = .ok (.getfield 30, 3) := by decide +kernel
theorem d_S_digest_18 : decode b_S_digest 18 = .ok (.iload_n 1, 1) := by decide +kernel
theorem d_S_digest_19 : decode b_S_digest 19 = .ok (.invokevirtual 141, 3) := by decide +kernel
theorem d_S_digest_22 : decode b_S_digest 22 = .ok (.ifCond .ne 5, 3) := by decide +kernel
theorem d_S_digest_25 : decode b_S_digest 25 = .ok (.iconst (-1), 1) := by decide +kernel
theorem d_S_digest_26 : decode b_S_digest 26 = .ok (.ireturn, 1) := by decide +kernel
theorem d_S_digest_27 : decode b_S_digest 27 = .ok (.aload_n 0, 1) := by decide +kernel
theorem d_S_digest_28 : decode b_S_digest 28 = .ok (.getfield 21, 3) := by decide +kernel
theorem d_S_digest_31 : decode b_S_digest 31 = .ok (.iconst 1, 1) := by decide +kernel
theorem d_S_digest_32 : decode b_S_digest 32 = .ok (.iload_n 1, 1) := by decide +kernel
theorem d_S_digest_33 : decode b_S_digest 33 = .ok (.aload_n 0, 1) := by decide +kernel
theorem d_S_digest_34 : decode b_S_digest 34 = .ok (.getfield 21, 3) := by decide +kernel
theorem d_S_digest_37 : decode b_S_digest 37 = .ok (.iload_n 1, 1) := by decide +kernel
theorem d_S_digest_38 : decode b_S_digest 38 = .ok (.invokevirtual 110, 3) := by decide +kernel
theorem d_S_digest_41 : decode b_S_digest 41 = .ok (.invokevirtual 113, 3) := by decide +kernel
theorem d_S_digest_44 : decode b_S_digest 44 = .ok (.iload_n 2, 1) := by decide +kernel
theorem d_S_digest_45 : decode b_S_digest 45 = .ok (.invokestatic 177, 3) := by decide +kernel
theorem d_S_digest_48 : decode b_S_digest 48 = .ok (.ireturn, 1) := by decide +kernel
set_option maxRecDepth 20000 in
set_option maxHeartbeats 4000000 in
theorem c_S_digest {D : va_G} {cI cZ cJ : ClassId} {ad : Nat → Nat} {mp : Nat} {lf : Nat → Int32} {n : Nat} {Pb : pc_C} {gt gp gh : Nat → Int32} {Pv : pc_C} {gd : Nat → Int32} {Pq : pc_C} {cr : Bool} {rest : va_W} {nb : Nat} {bl : Nat → Nat} {ba : Nat → Nat → Nat} {mt : Nat → Bool} (hRb : pc_R 600 25 Pb (nb, bl, ba)) (hRt : mk_R 24 gt mt) {v u : Int32} : bC D bcl (tys3 cI cZ cJ) y_S_digest ({ frames := 7, cells := 3, slots := 18, locals := 106 }) (wS ad cI cZ mp lf n Pb gt gp gh Pv gd Pq cr rest) [.ref (ad 0), .int (v), .int (u)] (bI (fun x ws9 => cr = false ∧ ((0 ≤ v ∧ v < nI nb) ∧ (0 ≤ u ∧ u < 4)) ∧ x = (if mt v.toNatClampNeg = true then byteS (sumS (ba v.toNatClampNeg) (nI 1) (bl v.toNatClampNeg)) u.toNatClampNeg else (-1)) ∧ ws9 = wS ad cI cZ mp lf n Pb gt gp gh Pv gd Pq cr rest) (fun E ws9 => (cr = true ∧ E = "java/lang/IllegalStateException" ∧ ws9 = wS ad cI cZ mp lf n Pb gt gp gh Pv gd Pq cr rest) ∨ (cr = false ∧ ¬ ((0 ≤ v ∧ v < nI nb) ∧ (0 ≤ u ∧ u < 4)) ∧ E = "java/lang/IndexOutOfBoundsException" ∧ ws9 = wS ad cI cZ mp lf n Pb gt gp gh Pv gd Pq cr rest))) := by
  have fb : nb < 25 := hRb.2.1
  refine bC.of (by decide) m_S_digest.1 (Nat.le_of_ble_eq_true rfl) ?_
  intro Γ G E0
  show bV D bcl Γ 3 (wS ad cI cZ mp lf n Pb gt gp gh Pv gd Pq cr rest) 0 0 0 [(0, .ref (ad 0)), (1, .int (v)), (2, .int (u))] []
  refine bV.aload_n G d_S_digest_0 rfl ?_
  refine bV.callVot G m_S_requireRunning bw_114 bw_s0 bw_112 (c_S_requireRunning ) 0 rfl rfl rfl rfl rfl ⟨by decide, by decide⟩ ⟨by decide, by decide⟩ (Nat.le_of_ble_eq_true rfl) d_S_digest_1 (fun ws9 h9 => ?_) (fun E9 ws9 h9 => ?_)
  · obtain ⟨hg1, h9e⟩ := h9
    rw [h9e]
    refine bV.aload_n G d_S_digest_4 rfl ?_
    refine bV.iload_n G d_S_digest_5 rfl ?_
    refine bV.callVot G m_S_requireBlock bw_310 bw_s7 bw_308 (c_S_requireBlock hRb (v := v)) 0 rfl rfl rfl rfl rfl ⟨by decide, by decide⟩ ⟨by decide, by decide⟩ (Nat.le_of_ble_eq_true rfl) d_S_digest_6 (fun ws9 h9 => ?_) (fun E9 ws9 h9 => ?_)
    · obtain ⟨hg6, h9e⟩ := h9
      rw [h9e]
      obtain ⟨j, hj, rfl⟩ := nI_btw hg6 (by omega)
      refine bV.aload_n G d_S_digest_9 rfl ?_
      refine bV.iload_n G d_S_digest_10 rfl ?_
      refine bV.callVot G m_S_requireByteOfSum bw_522 bw_s25 bw_520 (c_S_requireByteOfSum (v := u)) 0 rfl rfl rfl rfl rfl ⟨by decide, by decide⟩ ⟨by decide, by decide⟩ (Nat.le_of_ble_eq_true rfl) d_S_digest_11 (fun ws9 h9 => ?_) (fun E9 ws9 h9 => ?_)
      · obtain ⟨hg11, h9e⟩ := h9
        rw [h9e]
        obtain ⟨i, hi, rfl⟩ := nI_btw (n := 4) hg11 (by decide)
        refine bV.aload_n G d_S_digest_14 rfl ?_
        refine bV.getf G cl_S 0 2 rfl (by decide) bw_75 rfl d_S_digest_15 ?_
        refine bV.iload_n G d_S_digest_18 rfl ?_
        refine bV.callVi G m_K_isOn bw_212 bw_213 bw_211 (c_K_isOn wS_t hRt (j := j) (by omega)) 6 rfl rfl rfl rfl rfl ⟨by decide, by decide⟩ ⟨by decide, by decide⟩ (Nat.le_of_ble_eq_true rfl) d_S_digest_19 (fun x9 ws9 h9 => ?_)
        obtain ⟨rfl, h9e⟩ := h9
        rw [h9e]
        try dsimp only
        rw [decide_eq_true (show j < 24 by omega), Bool.true_and]
        refine bV.if_neB (tgt := 27) G d_S_digest_22 (by decide) (fun c22 => ?_) (fun c22 => ?_)
        · refine bV.aload_n G d_S_digest_27 rfl ?_
          refine bV.getf G cl_S 0 1 rfl (by decide) bw_74 rfl d_S_digest_28 ?_
          refine bV.iconst (v := nI 1) G d_S_digest_31 (by decide) ?_
          refine bV.iload_n G d_S_digest_32 rfl ?_
          refine bV.aload_n G d_S_digest_33 rfl ?_
          refine bV.getf G cl_S 0 1 rfl (by decide) bw_74 rfl d_S_digest_34 ?_
          refine bV.iload_n G d_S_digest_37 rfl ?_
          refine bV.callVi G m_P_length bw_189 bw_190 bw_321 (c_P_length wS_b hRb (j := j) (by first | omega | exact Nat.le_refl _)) 3 rfl rfl rfl rfl rfl ⟨by decide, by decide⟩ ⟨by decide, by decide⟩ (Nat.le_of_ble_eq_true rfl) d_S_digest_38 (fun x9 ws9 h9 => ?_)
          obtain ⟨rfl, h9e⟩ := h9
          rw [h9e]
          try dsimp only
          refine bV.callVi G m_P_sum bw_331 bw_332 bw_330 (c_P_sum wS_b hRb (s0 := nI 1) (j := j) (len := bl j) (by first | omega | exact Nat.le_refl _) (by first | omega | exact Nat.le_refl _ | (dsimp only; omega))) 3 rfl rfl rfl rfl rfl ⟨by decide, by decide⟩ ⟨by decide, by decide⟩ (Nat.le_of_ble_eq_true rfl) d_S_digest_41 (fun x9 ws9 h9 => ?_)
          obtain ⟨rfl, h9e⟩ := h9
          rw [h9e]
          try dsimp only
          refine bV.iload_n G d_S_digest_44 rfl ?_
          refine bV.callSi G m_S_byteOfSum bw_386 bw_385 (c_S_byteOfSum (s := sumS (ba j) (nI 1) (bl j)) (i := i) (by omega)) rfl rfl ⟨by decide, by decide⟩ ⟨by decide, by decide⟩ (Nat.le_of_ble_eq_true rfl) d_S_digest_45 (fun x9 ws9 h9 => ?_)
          obtain ⟨rfl, h9e⟩ := h9
          rw [h9e]
          try dsimp only
          exact bV.iretI G E0 rfl rfl (by decide) (by decide) d_S_digest_48 ⟨hg1, ⟨hg6, hg11⟩, by rw [nI_clamp (by omega), nI_clamp (by omega)]; rw [if_pos c22], rfl⟩
        · refine bV.iconst (v := (-1)) G d_S_digest_25 (by decide) ?_
          exact bV.iretI G E0 rfl rfl (by decide) (by decide) d_S_digest_26 ⟨hg1, ⟨hg6, hg11⟩, by rw [nI_clamp (by omega), nI_clamp (by omega)]; rw [if_neg (by rw [c22]; decide)], rfl⟩
      · obtain ⟨hz, rfl, h9e⟩ := h9
        rw [h9e]
        exact bT.leaveI G E0 rfl (by decide) (by decide) (Or.inr ⟨hg1, fun z => hz z.2, rfl, rfl⟩)
    · obtain ⟨hz, rfl, h9e⟩ := h9
      rw [h9e]
      exact bT.leaveI G E0 rfl (by decide) (by decide) (Or.inr ⟨hg1, fun z => hz z.1, rfl, rfl⟩)
  · obtain ⟨hz, rfl, h9e⟩ := h9
    rw [h9e]
    exact bT.leaveI G E0 rfl (by decide) (by decide) (Or.inl ⟨hz, rfl, rfl⟩)
theorem d_S_holds_0 : decode b_S_holds 0 = .ok (.aload_n 0, 1) := by decide +kernel
theorem d_S_holds_1 : decode b_S_holds 1 = .ok (.invokevirtual 62, 3) := by decide +kernel
theorem d_S_holds_4 : decode b_S_holds 4 = .ok (.aload_n 0, 1) := by decide +kernel
theorem d_S_holds_5 : decode b_S_holds 5 = .ok (.iload_n 1, 1) := by decide +kernel
theorem d_S_holds_6 : decode b_S_holds 6 = .ok (.invokevirtual 94, 3) := by decide +kernel
theorem d_S_holds_9 : decode b_S_holds 9 = .ok (.aload_n 0, 1) := by decide +kernel
theorem d_S_holds_10 : decode b_S_holds 10 = .ok (.iload_n 2, 1) := by decide +kernel
theorem d_S_holds_11 : decode b_S_holds 11 = .ok (.invokevirtual 97, 3) := by decide +kernel
theorem d_S_holds_14 : decode b_S_holds 14 = .ok (.aload_n 0, 1) := by decide +kernel
theorem d_S_holds_15 : decode b_S_holds 15 = .ok (.iload_n 1, 1) := by decide +kernel
theorem d_S_holds_16 : decode b_S_holds 16 = .ok (.iload_n 2, 1) := by decide +kernel
theorem d_S_holds_17 : decode b_S_holds 17 = .ok (.invokevirtual 100, 3) := by decide +kernel
theorem d_S_holds_20 : decode b_S_holds 20 = .ok (.ireturn, 1) := by decide +kernel
set_option maxRecDepth 20000 in
set_option maxHeartbeats 4000000 in
theorem c_S_holds {D : va_G} {cI cZ cJ : ClassId} {ad : Nat → Nat} {mp : Nat} {lf : Nat → Int32} {n : Nat} {Pb : pc_C} {gt gp gh : Nat → Int32} {Pv : pc_C} {gd : Nat → Int32} {Pq : pc_C} {cr : Bool} {rest : va_W} {nb : Nat} {bl : Nat → Nat} {ba : Nat → Nat → Nat} {nv : Nat} {vl : Nat → Nat} {va : Nat → Nat → Nat} {md : Nat → Bool} (hRb : pc_R 600 25 Pb (nb, bl, ba)) (hRv : pc_R 104 13 Pv (nv, vl, va)) (hRd : mk_R 12 gd md) {v u : Int32} : bC D bcl (tys3 cI cZ cJ) y_S_holds ({ frames := 7, cells := 3, slots := 18, locals := 106 }) (wS ad cI cZ mp lf n Pb gt gp gh Pv gd Pq cr rest) [.ref (ad 0), .int (v), .int (u)] (bI (fun x ws9 => cr = false ∧ ((0 ≤ v ∧ v < nI nv) ∧ (0 ≤ u ∧ u < nI nb)) ∧ x = bB (dcd (∃ k, k < lenV md vl v.toNatClampNeg ∧ va v.toNatClampNeg k = u.toNatClampNeg)) ∧ ws9 = wS ad cI cZ mp lf n Pb gt gp gh Pv gd Pq cr rest) (fun E ws9 => (cr = true ∧ E = "java/lang/IllegalStateException" ∧ ws9 = wS ad cI cZ mp lf n Pb gt gp gh Pv gd Pq cr rest) ∨ (cr = false ∧ ¬ ((0 ≤ v ∧ v < nI nv) ∧ (0 ≤ u ∧ u < nI nb)) ∧ E = "java/lang/IndexOutOfBoundsException" ∧ ws9 = wS ad cI cZ mp lf n Pb gt gp gh Pv gd Pq cr rest))) := by
  have fb : nb < 25 := hRb.2.1
  have fv : nv < 13 := hRv.2.1
  refine bC.of (by decide) m_S_holds.1 (Nat.le_of_ble_eq_true rfl) ?_
  intro Γ G E0
  show bV D bcl Γ 3 (wS ad cI cZ mp lf n Pb gt gp gh Pv gd Pq cr rest) 0 0 0 [(0, .ref (ad 0)), (1, .int (v)), (2, .int (u))] []
  refine bV.aload_n G d_S_holds_0 rfl ?_
  refine bV.callVot G m_S_requireRunning bw_114 bw_s0 bw_112 (c_S_requireRunning ) 0 rfl rfl rfl rfl rfl ⟨by decide, by decide⟩ ⟨by decide, by decide⟩ (Nat.le_of_ble_eq_true rfl) d_S_holds_1 (fun ws9 h9 => ?_) (fun E9 ws9 h9 => ?_)
  · obtain ⟨hg1, h9e⟩ := h9
    rw [h9e]
    refine bV.aload_n G d_S_holds_4 rfl ?_
    refine bV.iload_n G d_S_holds_5 rfl ?_
    refine bV.callVot G m_S_requireVersion bw_286 bw_s6 bw_284 (c_S_requireVersion hRv (v := v)) 0 rfl rfl rfl rfl rfl ⟨by decide, by decide⟩ ⟨by decide, by decide⟩ (Nat.le_of_ble_eq_true rfl) d_S_holds_6 (fun ws9 h9 => ?_) (fun E9 ws9 h9 => ?_)
    · obtain ⟨hg6, h9e⟩ := h9
      rw [h9e]
      obtain ⟨j, hj, rfl⟩ := nI_btw hg6 (by omega)
      refine bV.aload_n G d_S_holds_9 rfl ?_
      refine bV.iload_n G d_S_holds_10 rfl ?_
      refine bV.callVot G m_S_requireBlock bw_310 bw_s7 bw_308 (c_S_requireBlock hRb (v := u)) 0 rfl rfl rfl rfl rfl ⟨by decide, by decide⟩ ⟨by decide, by decide⟩ (Nat.le_of_ble_eq_true rfl) d_S_holds_11 (fun ws9 h9 => ?_) (fun E9 ws9 h9 => ?_)
      · obtain ⟨hg11, h9e⟩ := h9
        rw [h9e]
        obtain ⟨b, hb, rfl⟩ := nI_btw hg11 (by omega)
        refine bV.aload_n G d_S_holds_14 rfl ?_
        refine bV.iload_n G d_S_holds_15 rfl ?_
        refine bV.iload_n G d_S_holds_16 rfl ?_
        refine bV.callVi G m_S_hasBlock bw_315 bw_s8 bw_313 (c_S_hasBlock hRv hRd (v := j) (b := b) (by omega) (by omega)) 0 rfl rfl rfl rfl rfl ⟨by decide, by decide⟩ ⟨by decide, by decide⟩ (Nat.le_of_ble_eq_true rfl) d_S_holds_17 (fun x9 ws9 h9 => ?_)
        obtain ⟨rfl, h9e⟩ := h9
        rw [h9e]
        try dsimp only
        exact bV.iretI G E0 rfl (bB_n _) (by decide) (by decide) d_S_holds_20 ⟨hg1, ⟨hg6, hg11⟩, by rw [nI_clamp (by omega), nI_clamp (by omega)]; skip, rfl⟩
      · obtain ⟨hz, rfl, h9e⟩ := h9
        rw [h9e]
        exact bT.leaveI G E0 rfl (by decide) (by decide) (Or.inr ⟨hg1, fun z => hz z.2, rfl, rfl⟩)
    · obtain ⟨hz, rfl, h9e⟩ := h9
      rw [h9e]
      exact bT.leaveI G E0 rfl (by decide) (by decide) (Or.inr ⟨hg1, fun z => hz z.1, rfl, rfl⟩)
  · obtain ⟨hz, rfl, h9e⟩ := h9
    rw [h9e]
    exact bT.leaveI G E0 rfl (by decide) (by decide) (Or.inl ⟨hz, rfl, rfl⟩)
theorem d_S_packByte_0 : decode b_S_packByte 0 = .ok (.aload_n 0, 1) := by decide +kernel
theorem d_S_packByte_1 : decode b_S_packByte 1 = .ok (.invokevirtual 62, 3) := by decide +kernel
theorem d_S_packByte_4 : decode b_S_packByte 4 = .ok (.aload_n 0, 1) := by decide +kernel
theorem d_S_packByte_5 : decode b_S_packByte 5 = .ok (.iload_n 1, 1) := by decide +kernel
theorem d_S_packByte_6 : decode b_S_packByte 6 = .ok (.iload_n 2, 1) := by decide +kernel
theorem d_S_packByte_7 : decode b_S_packByte 7 = .ok (.invokevirtual 164, 3) := by decide +kernel
theorem d_S_packByte_10 : decode b_S_packByte 10 = .ok (.aload_n 0, 1) := by decide +kernel
theorem d_S_packByte_11 : decode b_S_packByte 11 = .ok (.getfield 55, 3) := by decide +kernel
theorem d_S_packByte_14 : decode b_S_packByte 14 = .ok (.iload_n 1, 1) := by decide +kernel
theorem d_S_packByte_15 : decode b_S_packByte 15 = .ok (.iload_n 2, 1) := by decide +kernel
theorem d_S_packByte_16 : decode b_S_packByte 16 = .ok (.invokevirtual 107, 3) := by decide +kernel
theorem d_S_packByte_19 : decode b_S_packByte 19 = .ok (.ireturn, 1) := by decide +kernel
set_option maxRecDepth 20000 in
set_option maxHeartbeats 4000000 in
theorem c_S_packByte {D : va_G} {cI cZ cJ : ClassId} {ad : Nat → Nat} {mp : Nat} {lf : Nat → Int32} {n : Nat} {Pb : pc_C} {gt gp gh : Nat → Int32} {Pv : pc_C} {gd : Nat → Int32} {Pq : pc_C} {cr : Bool} {rest : va_W} {np : Nat} {ql : Nat → Nat} {qa : Nat → Nat → Nat} (hRq : pc_R 664 (mp + 1) Pq (np, ql, qa)) {v u : Int32} (hm : mp ≤ 8) : bC D bcl (tys3 cI cZ cJ) y_S_packByte ({ frames := 7, cells := 2, slots := 12, locals := 106 }) (wS ad cI cZ mp lf n Pb gt gp gh Pv gd Pq cr rest) [.ref (ad 0), .int (v), .int (u)] (bI (fun x ws9 => cr = false ∧ ((0 ≤ v ∧ v < nI np) ∧ 0 ≤ u ∧ u < nI (ql v.toNatClampNeg)) ∧ x = nI (qa v.toNatClampNeg u.toNatClampNeg) ∧ ws9 = wS ad cI cZ mp lf n Pb gt gp gh Pv gd Pq cr rest) (fun E ws9 => (cr = true ∧ E = "java/lang/IllegalStateException" ∧ ws9 = wS ad cI cZ mp lf n Pb gt gp gh Pv gd Pq cr rest) ∨ (cr = false ∧ ¬ ((0 ≤ v ∧ v < nI np) ∧ 0 ≤ u ∧ u < nI (ql v.toNatClampNeg)) ∧ E = "java/lang/IndexOutOfBoundsException" ∧ ws9 = wS ad cI cZ mp lf n Pb gt gp gh Pv gd Pq cr rest))) := by
  have fq : np < mp + 1 := hRq.2.1
  refine bC.of (by decide) m_S_packByte.1 (Nat.le_of_ble_eq_true rfl) ?_
  intro Γ G E0
  show bV D bcl Γ 3 (wS ad cI cZ mp lf n Pb gt gp gh Pv gd Pq cr rest) 0 0 0 [(0, .ref (ad 0)), (1, .int (v)), (2, .int (u))] []
  refine bV.aload_n G d_S_packByte_0 rfl ?_
  refine bV.callVot G m_S_requireRunning bw_114 bw_s0 bw_112 (c_S_requireRunning ) 0 rfl rfl rfl rfl rfl ⟨by decide, by decide⟩ ⟨by decide, by decide⟩ (Nat.le_of_ble_eq_true rfl) d_S_packByte_1 (fun ws9 h9 => ?_) (fun E9 ws9 h9 => ?_)
  · obtain ⟨hg1, h9e⟩ := h9
    rw [h9e]
    refine bV.aload_n G d_S_packByte_4 rfl ?_
    refine bV.iload_n G d_S_packByte_5 rfl ?_
    refine bV.iload_n G d_S_packByte_6 rfl ?_
    refine bV.callVot G m_S_requireByteOfPack bw_488 bw_s23 bw_486 (c_S_requireByteOfPack hRq (v := v) (u := u) hm) 0 rfl rfl rfl rfl rfl ⟨by decide, by decide⟩ ⟨by decide, by decide⟩ (Nat.le_of_ble_eq_true rfl) d_S_packByte_7 (fun ws9 h9 => ?_) (fun E9 ws9 h9 => ?_)
    · obtain ⟨hg7, h9e⟩ := h9
      rw [h9e]
      obtain ⟨j, hj, rfl⟩ := nI_btw hg7.1 (by omega)
      have hl9 : ql j ≤ 664 := pc_R_len (A := (np, ql, qa)) hRq (Nat.le_of_lt hj)
      have hg8 : 0 ≤ u ∧ u < nI (ql j) := ⟨hg7.2.1, by have z3 := hg7.2.2; rw [nI_clamp (by omega)] at z3; exact z3⟩
      obtain ⟨i, hi, rfl⟩ := nI_btw hg8 (by omega)
      refine bV.aload_n G d_S_packByte_10 rfl ?_
      refine bV.getf G cl_S 0 7 rfl (by decide) bw_80 rfl d_S_packByte_11 ?_
      refine bV.iload_n G d_S_packByte_14 rfl ?_
      refine bV.iload_n G d_S_packByte_15 rfl ?_
      refine bV.callVi G m_P_at bw_221 bw_222 bw_322 (c_P_at wS_q hRq (j := j) (i := i) (by first | omega | exact Nat.le_refl _) (by omega)) 17 rfl rfl rfl rfl rfl ⟨by decide, by decide⟩ ⟨by decide, by decide⟩ (Nat.le_of_ble_eq_true rfl) d_S_packByte_16 (fun x9 ws9 h9 => ?_)
      obtain ⟨rfl, h9e⟩ := h9
      rw [h9e]
      try dsimp only
      rw [if_pos (by show i < ql j; omega)]
      exact bV.iretI G E0 rfl rfl (by decide) (by decide) d_S_packByte_19 ⟨hg1, hg7, by rw [nI_clamp (by omega), nI_clamp (by omega)]; skip, rfl⟩
    · obtain ⟨hz, rfl, h9e⟩ := h9
      rw [h9e]
      exact bT.leaveI G E0 rfl (by decide) (by decide) (Or.inr ⟨hg1, hz, rfl, rfl⟩)
  · obtain ⟨hz, rfl, h9e⟩ := h9
    rw [h9e]
    exact bT.leaveI G E0 rfl (by decide) (by decide) (Or.inl ⟨hz, rfl, rfl⟩)
theorem d_S_badAt_0 : decode b_S_badAt 0 = .ok (.aload_n 0, 1) := by decide +kernel
theorem d_S_badAt_1 : decode b_S_badAt 1 = .ok (.invokevirtual 62, 3) := by decide +kernel
theorem d_S_badAt_4 : decode b_S_badAt 4 = .ok (.iconst 0, 1) := by decide +kernel
theorem d_S_badAt_5 : decode b_S_badAt 5 = .ok (.istore_n 1, 1) := by decide +kernel
theorem d_S_badAt_6 : decode b_S_badAt 6 = .ok (.iload_n 1, 1) := by decide +kernel
theorem d_S_badAt_7 : decode b_S_badAt 7 = .ok (.aload_n 0, 1) := by decide +kernel
theorem d_S_badAt_8 : decode b_S_badAt 8 = .ok (.getfield 55, 3) := by decide +kernel
theorem d_S_badAt_11 : decode b_S_badAt 11 = .ok (.invokevirtual 123, 3) := by decide +kernel
theorem d_S_badAt_14 : decode b_S_badAt 14 = .ok (.if_icmp .ge 19, 3) := by decide +kernel
theorem d_S_badAt_17 : decode b_S_badAt 17 = .ok (.aload_n 0, 1) := by decide +kernel
theorem d_S_badAt_18 : decode b_S_badAt 18 = .ok (.iload_n 1, 1) := by decide +kernel
theorem d_S_badAt_19 : decode b_S_badAt 19 = .ok (.invokevirtual 171, 3) := by decide +kernel
theorem d_S_badAt_22 : decode b_S_badAt 22 = .ok (.ifCond .eq 5, 3) := by decide +kernel
theorem d_S_badAt_25 : decode b_S_badAt 25 = .ok (.iload_n 1, 1) := by decide +kernel
theorem d_S_badAt_26 : decode b_S_badAt 26 = .ok (.ireturn, 1) := by decide +kernel
theorem d_S_badAt_27 : decode b_S_badAt 27 = .ok (.iinc 1 1, 3) := by decide +kernel
theorem d_S_badAt_30 : decode b_S_badAt 30 = .ok (.goto (-24), 3) := by decide +kernel
theorem d_S_badAt_33 : decode b_S_badAt 33 = .ok (.iconst (-1), 1) := by decide +kernel
theorem d_S_badAt_34 : decode b_S_badAt 34 = .ok (.ireturn, 1) := by decide +kernel
set_option maxRecDepth 20000 in
set_option maxHeartbeats 4000000 in
theorem c_S_badAt {D : va_G} {cI cZ cJ : ClassId} {ad : Nat → Nat} {mp : Nat} {lf : Nat → Int32} {n : Nat} {Pb : pc_C} {gt gp gh : Nat → Int32} {Pv : pc_C} {gd : Nat → Int32} {Pq : pc_C} {cr : Bool} {rest : va_W} {np : Nat} {ql : Nat → Nat} {qa : Nat → Nat → Nat} (hRq : pc_R 664 (mp + 1) Pq (np, ql, qa)) (hm : mp ≤ 8) (hq4 : ∀ p, p < np → 4 ≤ ql p) : bC D bcl (tys3 cI cZ cJ) y_S_badAt ({ frames := 7, cells := 1, slots := 6, locals := 104 }) (wS ad cI cZ mp lf n Pb gt gp gh Pv gd Pq cr rest) [.ref (ad 0)] (bI (fun x ws9 => cr = false ∧ ((∃ p, p < np ∧ x = nI p ∧ badP ql qa p ∧ ∀ p0, p0 < p → ¬ badP ql qa p0) ∨ (x = -1 ∧ ∀ p, p < np → ¬ badP ql qa p)) ∧ ws9 = wS ad cI cZ mp lf n Pb gt gp gh Pv gd Pq cr rest) (fun E ws9 => cr = true ∧ E = "java/lang/IllegalStateException" ∧ ws9 = wS ad cI cZ mp lf n Pb gt gp gh Pv gd Pq cr rest)) := by
  have fq : np < mp + 1 := hRq.2.1
  refine bC.of (by decide) m_S_badAt.1 (Nat.le_of_ble_eq_true rfl) ?_
  intro Γ G E0
  show bV D bcl Γ 2 (wS ad cI cZ mp lf n Pb gt gp gh Pv gd Pq cr rest) 0 0 0 [(0, .ref (ad 0))] []
  have loop : ∀ (d : Nat) (p : Nat), cr = false → d + p = np → (∀ p0, p0 < p → ¬ badP ql qa p0) → bV D bcl Γ 2 (wS ad cI cZ mp lf n Pb gt gp gh Pv gd Pq cr rest) 1 6 6 [(0, .ref (ad 0)), (1, .int (nI (p)))] [] := by
    intro d
    induction d with
    | zero =>
      intro p hg1 hd hn
      refine bV.iload_n G d_S_badAt_6 rfl ?_
      refine bV.aload_n G d_S_badAt_7 rfl ?_
      refine bV.getf G cl_S 0 7 rfl (by decide) bw_80 rfl d_S_badAt_8 ?_
      refine bV.callVi G m_P_count bw_208 bw_209 bw_207 (c_P_count wS_q hRq) 17 rfl rfl rfl rfl rfl ⟨by decide, by decide⟩ ⟨by decide, by decide⟩ (Nat.le_of_ble_eq_true rfl) d_S_badAt_11 (fun x9 ws9 h9 => ?_)
      obtain ⟨rfl, h9e⟩ := h9
      rw [h9e]
      try dsimp only
      refine bV.icmp_geN (tgt := 33) G d_S_badAt_14 (by decide) (by omega) (by omega) (fun c14 => ?_) (fun c14 => ?_)
      · refine bV.iconst (v := (-1)) G d_S_badAt_33 (by decide) ?_
        exact bV.iretI G E0 rfl rfl (by decide) (by decide) d_S_badAt_34 ⟨hg1, Or.inr ⟨rfl, fun p1 h => hn p1 (by omega)⟩, rfl⟩
      · exfalso; omega
    | succ d ih =>
      intro p hg1 hd hn
      refine bV.iload_n G d_S_badAt_6 rfl ?_
      refine bV.aload_n G d_S_badAt_7 rfl ?_
      refine bV.getf G cl_S 0 7 rfl (by decide) bw_80 rfl d_S_badAt_8 ?_
      refine bV.callVi G m_P_count bw_208 bw_209 bw_207 (c_P_count wS_q hRq) 17 rfl rfl rfl rfl rfl ⟨by decide, by decide⟩ ⟨by decide, by decide⟩ (Nat.le_of_ble_eq_true rfl) d_S_badAt_11 (fun x9 ws9 h9 => ?_)
      obtain ⟨rfl, h9e⟩ := h9
      rw [h9e]
      try dsimp only
      refine bV.icmp_geN (tgt := 33) G d_S_badAt_14 (by decide) (by omega) (by omega) (fun c14 => ?_) (fun c14 => ?_)
      · exfalso; omega
      · refine bV.aload_n G d_S_badAt_17 rfl ?_
        refine bV.iload_n G d_S_badAt_18 rfl ?_
        refine bV.callVi G m_S_isBad bw_504 bw_s24 bw_502 (c_S_isBad hRq (p := p) (by omega) (hq4 _ (by omega)) hm) 0 rfl rfl rfl rfl rfl ⟨by decide, by decide⟩ ⟨by decide, by decide⟩ (Nat.le_of_ble_eq_true rfl) d_S_badAt_19 (fun x9 ws9 h9 => ?_)
        obtain ⟨rfl, h9e⟩ := h9
        rw [h9e]
        try dsimp only
        refine bV.if_eqB (tgt := 27) G d_S_badAt_22 (by decide) (fun c22 => ?_) (fun c22 => ?_)
        · refine bV.iincN G (lv' := [(0, .ref (ad 0)), (1, .int (nI (p + 1)))]) d_S_badAt_27 rfl (by decide) rfl rfl ?_
          refine bV.goto (tgt := 6) G d_S_badAt_30 (by decide) ?_
          have hnb : ¬ badP ql qa p := fun z => by rw [dcd_t z] at c22; cases c22
          exact ih (p + 1) hg1 (by omega) (fun p0 h => by rcases Nat.lt_or_ge p0 p with z | z; exact hn p0 z; rw [show p0 = p by omega]; exact hnb)
        · have hbad : badP ql qa p := Classical.byContradiction fun z => by rw [dcd_f z] at c22; cases c22
          refine bV.iload_n G d_S_badAt_25 rfl ?_
          exact bV.iretI G E0 rfl rfl (by decide) (by decide) d_S_badAt_26 ⟨hg1, Or.inl ⟨p, by omega, rfl, hbad, hn⟩, rfl⟩
  refine bV.aload_n G d_S_badAt_0 rfl ?_
  refine bV.callVot G m_S_requireRunning bw_114 bw_s0 bw_112 (c_S_requireRunning ) 0 rfl rfl rfl rfl rfl ⟨by decide, by decide⟩ ⟨by decide, by decide⟩ (Nat.le_of_ble_eq_true rfl) d_S_badAt_1 (fun ws9 h9 => ?_) (fun E9 ws9 h9 => ?_)
  · obtain ⟨hg1, h9e⟩ := h9
    rw [h9e]
    refine bV.iconst (v := nI 0) G d_S_badAt_4 (by decide) ?_
    refine bV.istore_n G (lv' := [(0, .ref (ad 0)), (1, .int (nI (0)))]) d_S_badAt_5 (by decide) rfl rfl ?_
    exact loop np 0 hg1 (by omega) (fun k0 h => absurd h (Nat.not_lt_zero _))
  · obtain ⟨hz, rfl, h9e⟩ := h9
    rw [h9e]
    exact bT.leaveI G E0 rfl (by decide) (by decide) ⟨hz, rfl, rfl⟩
theorem d_S_root_0 : decode b_S_root 0 = .ok (.aload_n 0, 1) := by decide +kernel
theorem d_S_root_1 : decode b_S_root 1 = .ok (.invokevirtual 62, 3) := by decide +kernel
theorem d_S_root_4 : decode b_S_root 4 = .ok (.aload_n 0, 1) := by decide +kernel
theorem d_S_root_5 : decode b_S_root 5 = .ok (.iload_n 1, 1) := by decide +kernel
theorem d_S_root_6 : decode b_S_root 6 = .ok (.invokevirtual 94, 3) := by decide +kernel
theorem d_S_root_9 : decode b_S_root 9 = .ok (.iconst 1, 1) := by decide +kernel
theorem d_S_root_10 : decode b_S_root 10 = .ok (.istore_n 2, 1) := by decide +kernel
theorem d_S_root_11 : decode b_S_root 11 = .ok (.aload_n 0, 1) := by decide +kernel
theorem d_S_root_12 : decode b_S_root 12 = .ok (.iload_n 1, 1) := by decide +kernel
theorem d_S_root_13 : decode b_S_root 13 = .ok (.invokevirtual 104, 3) := by decide +kernel
theorem d_S_root_16 : decode b_S_root 16 = .ok (.istore_n 3, 1) := by decide +kernel
theorem d_S_root_17 : decode b_S_root 17 = .ok (.iconst 0, 1) := by decide +kernel
theorem d_S_root_18 : decode b_S_root 18 = .ok (.istore 4, 2) := by decide +kernel
theorem d_S_root_20 : decode b_S_root 20 = .ok (.iload 4, 2) := by decide +kernel
theorem d_S_root_22 : decode b_S_root 22 = .ok (.iload_n 3, 1) := by decide +kernel
theorem d_S_root_23 : decode b_S_root 23 = .ok (.if_icmp .ge 41, 3) := by decide +kernel
theorem d_S_root_26 : decode b_S_root 26 = .ok (.aload_n 0, 1) := by decide +kernel
theorem d_S_root_27 : decode b_S_root 27 = .ok (.getfield 40, 3) := by decide +kernel
theorem d_S_root_30 : decode b_S_root 30 = .ok (.iload_n 1, 1) := by decide +kernel
theorem d_S_root_31 : decode b_S_root 31 = .ok (.iload 4, 2) := by decide +kernel
theorem d_S_root_33 : decode b_S_root 33 = .ok (.invokevirtual 107, 3) := by decide +kernel
theorem d_S_root_36 : decode b_S_root 36 = .ok (.istore 5, 2) := by decide +kernel
theorem d_S_root_38 : decode b_S_root 38 = .ok (.aload_n 0, 1) := by decide +kernel
theorem d_S_root_39 : decode b_S_root 39 = .ok (.getfield 21, 3) := by decide +kernel
theorem d_S_root_42 : decode b_S_root 42 = .ok (.iload_n 2, 1) := by decide +kernel
theorem d_S_root_43 : decode b_S_root 43 = .ok (.iload 5, 2) := by decide +kernel
theorem d_S_root_45 : decode b_S_root 45 = .ok (.aload_n 0, 1) := by decide +kernel
theorem d_S_root_46 : decode b_S_root 46 = .ok (.getfield 21, 3) := by decide +kernel
theorem d_S_root_49 : decode b_S_root 49 = .ok (.iload 5, 2) := by decide +kernel
theorem d_S_root_51 : decode b_S_root 51 = .ok (.invokevirtual 110, 3) := by decide +kernel
theorem d_S_root_54 : decode b_S_root 54 = .ok (.invokevirtual 113, 3) := by decide +kernel
theorem d_S_root_57 : decode b_S_root 57 = .ok (.istore_n 2, 1) := by decide +kernel
theorem d_S_root_58 : decode b_S_root 58 = .ok (.iinc 4 1, 3) := by decide +kernel
theorem d_S_root_61 : decode b_S_root 61 = .ok (.goto (-41), 3) := by decide +kernel
theorem d_S_root_64 : decode b_S_root 64 = .ok (.iload_n 2, 1) := by decide +kernel
theorem d_S_root_65 : decode b_S_root 65 = .ok (.ireturn, 1) := by decide +kernel
set_option maxRecDepth 20000 in
set_option maxHeartbeats 4000000 in
theorem c_S_root {D : va_G} {cI cZ cJ : ClassId} {ad : Nat → Nat} {mp : Nat} {lf : Nat → Int32} {n : Nat} {Pb : pc_C} {gt gp gh : Nat → Int32} {Pv : pc_C} {gd : Nat → Int32} {Pq : pc_C} {cr : Bool} {rest : va_W} {nb : Nat} {bl : Nat → Nat} {ba : Nat → Nat → Nat} {nv : Nat} {vl : Nat → Nat} {va : Nat → Nat → Nat} {md : Nat → Bool} (hRb : pc_R 600 25 Pb (nb, bl, ba)) (hRv : pc_R 104 13 Pv (nv, vl, va)) (hRd : mk_R 12 gd md) {v : Int32} (hvb : ∀ v k, v ≤ nv → k < vl v → va v k < nb) : bC D bcl (tys3 cI cZ cJ) y_S_root ({ frames := 7, cells := 2, slots := 12, locals := 106 }) (wS ad cI cZ mp lf n Pb gt gp gh Pv gd Pq cr rest) [.ref (ad 0), .int (v)] (bI (fun x ws9 => cr = false ∧ (0 ≤ v ∧ v < nI nv) ∧ x = rootS (va v.toNatClampNeg) bl ba (lenV md vl v.toNatClampNeg) ∧ ws9 = wS ad cI cZ mp lf n Pb gt gp gh Pv gd Pq cr rest) (fun E ws9 => (cr = true ∧ E = "java/lang/IllegalStateException" ∧ ws9 = wS ad cI cZ mp lf n Pb gt gp gh Pv gd Pq cr rest) ∨ (cr = false ∧ ¬ (0 ≤ v ∧ v < nI nv) ∧ E = "java/lang/IndexOutOfBoundsException" ∧ ws9 = wS ad cI cZ mp lf n Pb gt gp gh Pv gd Pq cr rest))) := by
  have fb : nb < 25 := hRb.2.1
  have fv : nv < 13 := hRv.2.1
  refine bC.of (by decide) m_S_root.1 (Nat.le_of_ble_eq_true rfl) ?_
  intro Γ G E0
  show bV D bcl Γ 6 (wS ad cI cZ mp lf n Pb gt gp gh Pv gd Pq cr rest) 0 0 0 [(0, .ref (ad 0)), (1, .int (v))] []
  have loop : ∀ (d : Nat) (j k : Nat), v = nI j → cr = false → j < nv → (0 ≤ v ∧ v < nI nv) → d + k = lenV md vl j → bV D bcl Γ 6 (wS ad cI cZ mp lf n Pb gt gp gh Pv gd Pq cr rest) 2 12 20 [(0, .ref (ad 0)), (1, .int (nI (j))), (2, .int (rootS (va j) bl ba k)), (3, .int (nI (lenV md vl j))), (4, .int (nI (k)))] [] := by
    intro d
    induction d with
    | zero =>
      intro j k hv hg1 hj hg6 hd
      subst hv
      have hlv := lenV_le md vl j
      have hl9 : vl j ≤ 104 := pc_R_len (A := (nv, vl, va)) hRv (Nat.le_of_lt hj)
      refine bV.iload G d_S_root_20 rfl ?_
      refine bV.iload_n G d_S_root_22 rfl ?_
      refine bV.icmp_geN (tgt := 64) G d_S_root_23 (by decide) (by omega) (by omega) (fun c23 => ?_) (fun c23 => ?_)
      · refine bV.iload_n G d_S_root_64 rfl ?_
        exact bV.iretI G E0 rfl rfl (by decide) (by decide) d_S_root_65 ⟨hg1, hg6, by rw [nI_clamp (by omega)]; rw [show k = lenV md vl j by omega], rfl⟩
      · exfalso; omega
    | succ d ih =>
      intro j k hv hg1 hj hg6 hd
      subst hv
      have hlv := lenV_le md vl j
      have hl9 : vl j ≤ 104 := pc_R_len (A := (nv, vl, va)) hRv (Nat.le_of_lt hj)
      refine bV.iload G d_S_root_20 rfl ?_
      refine bV.iload_n G d_S_root_22 rfl ?_
      refine bV.icmp_geN (tgt := 64) G d_S_root_23 (by decide) (by omega) (by omega) (fun c23 => ?_) (fun c23 => ?_)
      · exfalso; omega
      · refine bV.aload_n G d_S_root_26 rfl ?_
        refine bV.getf G cl_S 0 5 rfl (by decide) bw_78 rfl d_S_root_27 ?_
        refine bV.iload_n G d_S_root_30 rfl ?_
        refine bV.iload G d_S_root_31 rfl ?_
        refine bV.callVi G m_P_at bw_221 bw_222 bw_322 (c_P_at wS_v hRv (j := j) (i := k) (by first | omega | exact Nat.le_refl _) (by omega)) 12 rfl rfl rfl rfl rfl ⟨by decide, by decide⟩ ⟨by decide, by decide⟩ (Nat.le_of_ble_eq_true rfl) d_S_root_33 (fun x9 ws9 h9 => ?_)
        obtain ⟨rfl, h9e⟩ := h9
        rw [h9e]
        try dsimp only
        rw [if_pos (by show k < vl j; omega)]
        have hvk : va j k < nb := hvb j k (by omega) (by omega)
        refine bV.istore G (lv' := [(0, .ref (ad 0)), (1, .int (nI (j))), (2, .int (rootS (va j) bl ba k)), (3, .int (nI (lenV md vl j))), (4, .int (nI (k))), (5, .int (nI (va j k)))]) d_S_root_36 (by decide) rfl rfl ?_
        refine bV.aload_n G d_S_root_38 rfl ?_
        refine bV.getf G cl_S 0 1 rfl (by decide) bw_74 rfl d_S_root_39 ?_
        refine bV.iload_n G d_S_root_42 rfl ?_
        refine bV.iload G d_S_root_43 rfl ?_
        refine bV.aload_n G d_S_root_45 rfl ?_
        refine bV.getf G cl_S 0 1 rfl (by decide) bw_74 rfl d_S_root_46 ?_
        refine bV.iload G d_S_root_49 rfl ?_
        refine bV.callVi G m_P_length bw_189 bw_190 bw_321 (c_P_length wS_b hRb (j := va j k) (by first | omega | exact Nat.le_refl _)) 3 rfl rfl rfl rfl rfl ⟨by decide, by decide⟩ ⟨by decide, by decide⟩ (Nat.le_of_ble_eq_true rfl) d_S_root_51 (fun x9 ws9 h9 => ?_)
        obtain ⟨rfl, h9e⟩ := h9
        rw [h9e]
        try dsimp only
        refine bV.callVi G m_P_sum bw_331 bw_332 bw_330 (c_P_sum wS_b hRb (s0 := rootS (va j) bl ba k) (j := va j k) (len := bl (va j k)) (by first | omega | exact Nat.le_refl _) (by first | omega | exact Nat.le_refl _ | (dsimp only; omega))) 3 rfl rfl rfl rfl rfl ⟨by decide, by decide⟩ ⟨by decide, by decide⟩ (Nat.le_of_ble_eq_true rfl) d_S_root_54 (fun x9 ws9 h9 => ?_)
        obtain ⟨rfl, h9e⟩ := h9
        rw [h9e]
        try dsimp only
        refine bV.istore_n G (lv' := [(0, .ref (ad 0)), (1, .int (nI (j))), (2, .int (sumS (ba (va j k)) (rootS (va j) bl ba k) (bl (va j k)))), (3, .int (nI (lenV md vl j))), (4, .int (nI (k))), (5, .int (nI (va j k)))]) d_S_root_57 (by decide) rfl rfl ?_
        refine bV.iincN G (lv' := [(0, .ref (ad 0)), (1, .int (nI (j))), (2, .int (sumS (ba (va j k)) (rootS (va j) bl ba k) (bl (va j k)))), (3, .int (nI (lenV md vl j))), (4, .int (nI (k + 1))), (5, .int (nI (va j k)))]) d_S_root_58 rfl (by decide) rfl rfl ?_
        refine bV.goto (tgt := 20) G d_S_root_61 (by decide) ?_
        refine bV.ltake (lv' := [(0, .ref (ad 0)), (1, .int (nI (j))), (2, .int (sumS (ba (va j k)) (rootS (va j) bl ba k) (bl (va j k)))), (3, .int (nI (lenV md vl j))), (4, .int (nI (k + 1)))]) (ex := [(5, .int (nI (va j k)))]) rfl ?_
        exact ih j (k + 1) rfl hg1 hj hg6 (by omega)
  refine bV.aload_n G d_S_root_0 rfl ?_
  refine bV.callVot G m_S_requireRunning bw_114 bw_s0 bw_112 (c_S_requireRunning ) 0 rfl rfl rfl rfl rfl ⟨by decide, by decide⟩ ⟨by decide, by decide⟩ (Nat.le_of_ble_eq_true rfl) d_S_root_1 (fun ws9 h9 => ?_) (fun E9 ws9 h9 => ?_)
  · obtain ⟨hg1, h9e⟩ := h9
    rw [h9e]
    refine bV.aload_n G d_S_root_4 rfl ?_
    refine bV.iload_n G d_S_root_5 rfl ?_
    refine bV.callVot G m_S_requireVersion bw_286 bw_s6 bw_284 (c_S_requireVersion hRv (v := v)) 0 rfl rfl rfl rfl rfl ⟨by decide, by decide⟩ ⟨by decide, by decide⟩ (Nat.le_of_ble_eq_true rfl) d_S_root_6 (fun ws9 h9 => ?_) (fun E9 ws9 h9 => ?_)
    · obtain ⟨hg6, h9e⟩ := h9
      rw [h9e]
      obtain ⟨j, hj, rfl⟩ := nI_btw hg6 (by omega)
      refine bV.iconst (v := nI 1) G d_S_root_9 (by decide) ?_
      refine bV.istore_n G (lv' := [(0, .ref (ad 0)), (1, .int (nI (j))), (2, .int (nI (1)))]) d_S_root_10 (by decide) rfl rfl ?_
      refine bV.aload_n G d_S_root_11 rfl ?_
      refine bV.iload_n G d_S_root_12 rfl ?_
      refine bV.callVi G m_S_lengthOfVersion bw_319 bw_s9 bw_317 (c_S_lengthOfVersion hRv hRd (v := j) (by omega)) 0 rfl rfl rfl rfl rfl ⟨by decide, by decide⟩ ⟨by decide, by decide⟩ (Nat.le_of_ble_eq_true rfl) d_S_root_13 (fun x9 ws9 h9 => ?_)
      obtain ⟨rfl, h9e⟩ := h9
      rw [h9e]
      try dsimp only
      refine bV.istore_n G (lv' := [(0, .ref (ad 0)), (1, .int (nI (j))), (2, .int (nI (1))), (3, .int (nI (lenV md vl j)))]) d_S_root_16 (by decide) rfl rfl ?_
      refine bV.iconst (v := nI 0) G d_S_root_17 (by decide) ?_
      refine bV.istore G (lv' := [(0, .ref (ad 0)), (1, .int (nI (j))), (2, .int (nI (1))), (3, .int (nI (lenV md vl j))), (4, .int (nI (0)))]) d_S_root_18 (by decide) rfl rfl ?_
      exact loop (lenV md vl j) j 0 rfl hg1 hj hg6 (by omega)
    · obtain ⟨hz, rfl, h9e⟩ := h9
      rw [h9e]
      exact bT.leaveI G E0 rfl (by decide) (by decide) (Or.inr ⟨hg1, hz, rfl, rfl⟩)
  · obtain ⟨hz, rfl, h9e⟩ := h9
    rw [h9e]
    exact bT.leaveI G E0 rfl (by decide) (by decide) (Or.inl ⟨hz, rfl, rfl⟩)
theorem d_S_out_0 : decode b_S_out 0 = .ok (.aload_n 0, 1) := by decide +kernel
theorem d_S_out_1 : decode b_S_out 1 = .ok (.invokevirtual 62, 3) := by decide +kernel
theorem d_S_out_4 : decode b_S_out 4 = .ok (.aload_n 0, 1) := by decide +kernel
theorem d_S_out_5 : decode b_S_out 5 = .ok (.iload_n 1, 1) := by decide +kernel
theorem d_S_out_6 : decode b_S_out 6 = .ok (.invokevirtual 94, 3) := by decide +kernel
theorem d_S_out_9 : decode b_S_out 9 = .ok (.aload_n 0, 1) := by decide +kernel
theorem d_S_out_10 : decode b_S_out 10 = .ok (.iload_n 2, 1) := by decide +kernel
theorem d_S_out_11 : decode b_S_out 11 = .ok (.invokevirtual 138, 3) := by decide +kernel
theorem d_S_out_14 : decode b_S_out 14 = .ok (.iload_n 2, 1) := by decide +kernel
theorem d_S_out_15 : decode b_S_out 15 = .ok (.istore_n 3, 1) := by decide +kernel
theorem d_S_out_16 : decode b_S_out 16 = .ok (.aload_n 0, 1) := by decide +kernel
theorem d_S_out_17 : decode b_S_out 17 = .ok (.iload_n 1, 1) := by decide +kernel
theorem d_S_out_18 : decode b_S_out 18 = .ok (.invokevirtual 104, 3) := by decide +kernel
theorem d_S_out_21 : decode b_S_out 21 = .ok (.istore 4, 2) := by decide +kernel
theorem d_S_out_23 : decode b_S_out 23 = .ok (.iconst 0, 1) := by decide +kernel
theorem d_S_out_24 : decode b_S_out 24 = .ok (.istore 5, 2) := by decide +kernel
theorem d_S_out_26 : decode b_S_out 26 = .ok (.iload 5, 2) := by decide +kernel
theorem d_S_out_28 : decode b_S_out 28 = .ok (.iload 4, 2) := by decide +kernel
theorem d_S_out_30 : decode b_S_out 30 = .ok (.if_icmp .ge 57, 3) := by decide +kernel
theorem d_S_out_33 : decode b_S_out 33 = .ok (.aload_n 0, 1) := by decide +kernel
theorem d_S_out_34 : decode b_S_out 34 = .ok (.getfield 40, 3) := by decide +kernel
theorem d_S_out_37 : decode b_S_out 37 = .ok (.iload_n 1, 1) := by decide +kernel
theorem d_S_out_38 : decode b_S_out 38 = .ok (.iload 5, 2) := by decide +kernel
theorem d_S_out_40 : decode b_S_out 40 = .ok (.invokevirtual 107, 3) := by decide +kernel
theorem d_S_out_43 : decode b_S_out 43 = .ok (.istore 6, 2) := by decide +kernel
theorem d_S_out_45 : decode b_S_out 45 = .ok (.iload_n 3, 1) := by decide +kernel
theorem d_S_out_46 : decode b_S_out 46 = .ok (.aload_n 0, 1) := by decide +kernel
theorem d_S_out_47 : decode b_S_out 47 = .ok (.getfield 21, 3) := by decide +kernel
theorem d_S_out_50 : decode b_S_out 50 = .ok (.iload 6, 2) := by decide +kernel
theorem d_S_out_52 : decode b_S_out 52 = .ok (.invokevirtual 110, 3) := by decide +kernel
theorem d_S_out_55 : decode b_S_out 55 = .ok (.if_icmp .ge 14, 3) := by decide +kernel
theorem d_S_out_58 : decode b_S_out 58 = .ok (.aload_n 0, 1) := by decide +kernel
theorem d_S_out_59 : decode b_S_out 59 = .ok (.getfield 21, 3) := by decide +kernel
theorem d_S_out_62 : decode b_S_out 62 = .ok (.iload 6, 2) := by decide +kernel
theorem d_S_out_64 : decode b_S_out 64 = .ok (.iload_n 3, 1) := by decide +kernel
theorem d_S_out_65 : decode b_S_out 65 = .ok (.invokevirtual 107, 3) := by decide +kernel
theorem d_S_out_68 : decode b_S_out 68 = .ok (.ireturn, 1) := by decide +kernel
theorem d_S_out_69 : decode b_S_out 69 = .ok (.iload_n 3, 1) := by decide +kernel
theorem d_S_out_70 : decode b_S_out 70 = .ok (.aload_n 0, 1) := by decide +kernel
theorem d_S_out_71 : decode b_S_out 71 = .ok (.getfield 21, 3) := by decide +kernel
theorem d_S_out_74 : decode b_S_out 74 = .ok (.iload 6, 2) := by decide +kernel
theorem d_S_out_76 : decode b_S_out 76 = .ok (.invokevirtual 110, 3) := by decide +kernel
theorem d_S_out_79 : decode b_S_out 79 = .ok (.isub, 1) := by decide +kernel
theorem d_S_out_80 : decode b_S_out 80 = .ok (.istore_n 3, 1) := by decide +kernel
theorem d_S_out_81 : decode b_S_out 81 = .ok (.iinc 5 1, 3) := by decide +kernel
theorem d_S_out_84 : decode b_S_out 84 = .ok (.goto (-58), 3) := by decide +kernel
theorem d_S_out_87 : decode b_S_out 87 = .ok (.iconst (-1), 1) := by decide +kernel
theorem d_S_out_88 : decode b_S_out 88 = .ok (.ireturn, 1) := by decide +kernel
set_option maxRecDepth 20000 in
set_option maxHeartbeats 4000000 in
theorem c_S_out {D : va_G} {cI cZ cJ : ClassId} {ad : Nat → Nat} {mp : Nat} {lf : Nat → Int32} {n : Nat} {Pb : pc_C} {gt gp gh : Nat → Int32} {Pv : pc_C} {gd : Nat → Int32} {Pq : pc_C} {cr : Bool} {rest : va_W} {nb : Nat} {bl : Nat → Nat} {ba : Nat → Nat → Nat} {nv : Nat} {vl : Nat → Nat} {va : Nat → Nat → Nat} {md : Nat → Bool} (hRb : pc_R 600 25 Pb (nb, bl, ba)) (hRv : pc_R 104 13 Pv (nv, vl, va)) (hRd : mk_R 12 gd md) {v u : Int32} (hvb : ∀ v k, v ≤ nv → k < vl v → va v k < nb) : bC D bcl (tys3 cI cZ cJ) y_S_out ({ frames := 7, cells := 3, slots := 18, locals := 106 }) (wS ad cI cZ mp lf n Pb gt gp gh Pv gd Pq cr rest) [.ref (ad 0), .int (v), .int (u)] (bI (fun x ws9 => cr = false ∧ ((0 ≤ v ∧ v < nI nv) ∧ 0 ≤ u) ∧ x = outS (va v.toNatClampNeg) bl ba (lenV md vl v.toNatClampNeg) 0 u.toNatClampNeg ∧ ws9 = wS ad cI cZ mp lf n Pb gt gp gh Pv gd Pq cr rest) (fun E ws9 => (cr = true ∧ E = "java/lang/IllegalStateException" ∧ ws9 = wS ad cI cZ mp lf n Pb gt gp gh Pv gd Pq cr rest) ∨ (cr = false ∧ ¬ ((0 ≤ v ∧ v < nI nv) ∧ 0 ≤ u) ∧ E = "java/lang/IndexOutOfBoundsException" ∧ ws9 = wS ad cI cZ mp lf n Pb gt gp gh Pv gd Pq cr rest))) := by
  have fb : nb < 25 := hRb.2.1
  have fv : nv < 13 := hRv.2.1
  refine bC.of (by decide) m_S_out.1 (Nat.le_of_ble_eq_true rfl) ?_
  intro Γ G E0
  show bV D bcl Γ 7 (wS ad cI cZ mp lf n Pb gt gp gh Pv gd Pq cr rest) 0 0 0 [(0, .ref (ad 0)), (1, .int (v)), (2, .int (u))] []
  have loop : ∀ (d : Nat) (j i k e : Nat), v = nI j → u = nI i → i < 2 ^ 31 → e < 2 ^ 31 → cr = false → j < nv → (0 ≤ v ∧ v < nI nv) → 0 ≤ u → d + k = lenV md vl j → outS (va j) bl ba (lenV md vl j) 0 i = outS (va j) bl ba d k e → bV D bcl Γ 7 (wS ad cI cZ mp lf n Pb gt gp gh Pv gd Pq cr rest) 3 18 26 [(0, .ref (ad 0)), (1, .int (nI (j))), (2, .int (nI (i))), (3, .int (nI (e))), (4, .int (nI (lenV md vl j))), (5, .int (nI (k)))] [] := by
    intro d
    induction d with
    | zero =>
      intro j i k e hv hu hi he hg1 hj hg6 hg11 hd hout
      subst hv
      subst hu
      have hlv := lenV_le md vl j
      have hl9 : vl j ≤ 104 := pc_R_len (A := (nv, vl, va)) hRv (Nat.le_of_lt hj)
      refine bV.iload G d_S_out_26 rfl ?_
      refine bV.iload G d_S_out_28 rfl ?_
      refine bV.icmp_geN (tgt := 87) G d_S_out_30 (by decide) (by omega) (by omega) (fun c30 => ?_) (fun c30 => ?_)
      · refine bV.iconst (v := (-1)) G d_S_out_87 (by decide) ?_
        exact bV.iretI G E0 rfl rfl (by decide) (by decide) d_S_out_88 ⟨hg1, ⟨hg6, hg11⟩, by rw [nI_clamp (by omega), nI_clamp (by omega)]; rw [hout]; rfl, rfl⟩
      · exfalso; omega
    | succ d ih =>
      intro j i k e hv hu hi he hg1 hj hg6 hg11 hd hout
      subst hv
      subst hu
      have hlv := lenV_le md vl j
      have hl9 : vl j ≤ 104 := pc_R_len (A := (nv, vl, va)) hRv (Nat.le_of_lt hj)
      refine bV.iload G d_S_out_26 rfl ?_
      refine bV.iload G d_S_out_28 rfl ?_
      refine bV.icmp_geN (tgt := 87) G d_S_out_30 (by decide) (by omega) (by omega) (fun c30 => ?_) (fun c30 => ?_)
      · exfalso; omega
      · refine bV.aload_n G d_S_out_33 rfl ?_
        refine bV.getf G cl_S 0 5 rfl (by decide) bw_78 rfl d_S_out_34 ?_
        refine bV.iload_n G d_S_out_37 rfl ?_
        refine bV.iload G d_S_out_38 rfl ?_
        refine bV.callVi G m_P_at bw_221 bw_222 bw_322 (c_P_at wS_v hRv (j := j) (i := k) (by first | omega | exact Nat.le_refl _) (by omega)) 12 rfl rfl rfl rfl rfl ⟨by decide, by decide⟩ ⟨by decide, by decide⟩ (Nat.le_of_ble_eq_true rfl) d_S_out_40 (fun x9 ws9 h9 => ?_)
        obtain ⟨rfl, h9e⟩ := h9
        rw [h9e]
        try dsimp only
        rw [if_pos (by show k < vl j; omega)]
        have hvk : va j k < nb := hvb j k (by omega) (by omega)
        have hbk : bl (va j k) ≤ 600 := pc_R_len (A := (nb, bl, ba)) hRb (Nat.le_of_lt hvk)
        refine bV.istore G (lv' := [(0, .ref (ad 0)), (1, .int (nI (j))), (2, .int (nI (i))), (3, .int (nI (e))), (4, .int (nI (lenV md vl j))), (5, .int (nI (k))), (6, .int (nI (va j k)))]) d_S_out_43 (by decide) rfl rfl ?_
        refine bV.iload_n G d_S_out_45 rfl ?_
        refine bV.aload_n G d_S_out_46 rfl ?_
        refine bV.getf G cl_S 0 1 rfl (by decide) bw_74 rfl d_S_out_47 ?_
        refine bV.iload G d_S_out_50 rfl ?_
        refine bV.callVi G m_P_length bw_189 bw_190 bw_321 (c_P_length wS_b hRb (j := va j k) (by first | omega | exact Nat.le_refl _)) 3 rfl rfl rfl rfl rfl ⟨by decide, by decide⟩ ⟨by decide, by decide⟩ (Nat.le_of_ble_eq_true rfl) d_S_out_52 (fun x9 ws9 h9 => ?_)
        obtain ⟨rfl, h9e⟩ := h9
        rw [h9e]
        try dsimp only
        refine bV.icmp_geN (tgt := 69) G d_S_out_55 (by decide) (by omega) (by omega) (fun c55 => ?_) (fun c55 => ?_)
        · refine bV.iload_n G d_S_out_69 rfl ?_
          refine bV.aload_n G d_S_out_70 rfl ?_
          refine bV.getf G cl_S 0 1 rfl (by decide) bw_74 rfl d_S_out_71 ?_
          refine bV.iload G d_S_out_74 rfl ?_
          refine bV.callVi G m_P_length bw_189 bw_190 bw_321 (c_P_length wS_b hRb (j := va j k) (by first | omega | exact Nat.le_refl _)) 3 rfl rfl rfl rfl rfl ⟨by decide, by decide⟩ ⟨by decide, by decide⟩ (Nat.le_of_ble_eq_true rfl) d_S_out_76 (fun x9 ws9 h9 => ?_)
          obtain ⟨rfl, h9e⟩ := h9
          rw [h9e]
          try dsimp only
          refine bV.isubN G d_S_out_79 (by omega) ?_
          refine bV.istore_n G (lv' := [(0, .ref (ad 0)), (1, .int (nI (j))), (2, .int (nI (i))), (3, .int (nI (e - (bl (va j k))))), (4, .int (nI (lenV md vl j))), (5, .int (nI (k))), (6, .int (nI (va j k)))]) d_S_out_80 (by decide) rfl rfl ?_
          refine bV.iincN G (lv' := [(0, .ref (ad 0)), (1, .int (nI (j))), (2, .int (nI (i))), (3, .int (nI (e - (bl (va j k))))), (4, .int (nI (lenV md vl j))), (5, .int (nI (k + 1))), (6, .int (nI (va j k)))]) d_S_out_81 rfl (by decide) rfl rfl ?_
          refine bV.goto (tgt := 26) G d_S_out_84 (by decide) ?_
          refine bV.ltake (lv' := [(0, .ref (ad 0)), (1, .int (nI (j))), (2, .int (nI (i))), (3, .int (nI (e - (bl (va j k))))), (4, .int (nI (lenV md vl j))), (5, .int (nI (k + 1)))]) (ex := [(6, .int (nI (va j k)))]) rfl ?_
          exact ih j i (k + 1) (e - bl (va j k)) rfl rfl hi (by omega) hg1 hj hg6 hg11 (by omega) (hout.trans (if_neg (by omega)))
        · refine bV.aload_n G d_S_out_58 rfl ?_
          refine bV.getf G cl_S 0 1 rfl (by decide) bw_74 rfl d_S_out_59 ?_
          refine bV.iload G d_S_out_62 rfl ?_
          refine bV.iload_n G d_S_out_64 rfl ?_
          refine bV.callVi G m_P_at bw_221 bw_222 bw_322 (c_P_at wS_b hRb (j := va j k) (i := e) (by first | omega | exact Nat.le_refl _) (by omega)) 3 rfl rfl rfl rfl rfl ⟨by decide, by decide⟩ ⟨by decide, by decide⟩ (Nat.le_of_ble_eq_true rfl) d_S_out_65 (fun x9 ws9 h9 => ?_)
          obtain ⟨rfl, h9e⟩ := h9
          rw [h9e]
          try dsimp only
          rw [if_pos (by show e < bl (va j k); omega)]
          exact bV.iretI G E0 rfl rfl (by decide) (by decide) d_S_out_68 ⟨hg1, ⟨hg6, hg11⟩, by rw [nI_clamp (by omega), nI_clamp (by omega)]; rw [hout]; exact (if_pos (Nat.lt_of_not_le c55)).symm, rfl⟩
  refine bV.aload_n G d_S_out_0 rfl ?_
  refine bV.callVot G m_S_requireRunning bw_114 bw_s0 bw_112 (c_S_requireRunning ) 0 rfl rfl rfl rfl rfl ⟨by decide, by decide⟩ ⟨by decide, by decide⟩ (Nat.le_of_ble_eq_true rfl) d_S_out_1 (fun ws9 h9 => ?_) (fun E9 ws9 h9 => ?_)
  · obtain ⟨hg1, h9e⟩ := h9
    rw [h9e]
    refine bV.aload_n G d_S_out_4 rfl ?_
    refine bV.iload_n G d_S_out_5 rfl ?_
    refine bV.callVot G m_S_requireVersion bw_286 bw_s6 bw_284 (c_S_requireVersion hRv (v := v)) 0 rfl rfl rfl rfl rfl ⟨by decide, by decide⟩ ⟨by decide, by decide⟩ (Nat.le_of_ble_eq_true rfl) d_S_out_6 (fun ws9 h9 => ?_) (fun E9 ws9 h9 => ?_)
    · obtain ⟨hg6, h9e⟩ := h9
      rw [h9e]
      obtain ⟨j, hj, rfl⟩ := nI_btw hg6 (by omega)
      refine bV.aload_n G d_S_out_9 rfl ?_
      refine bV.iload_n G d_S_out_10 rfl ?_
      refine bV.callVot G m_S_requireNotNegative bw_398 bw_s16 bw_396 (c_S_requireNotNegative (v := u)) 0 rfl rfl rfl rfl rfl ⟨by decide, by decide⟩ ⟨by decide, by decide⟩ (Nat.le_of_ble_eq_true rfl) d_S_out_11 (fun ws9 h9 => ?_) (fun E9 ws9 h9 => ?_)
      · obtain ⟨hg11, h9e⟩ := h9
        rw [h9e]
        obtain ⟨i, hi, rfl⟩ := nI_of (Int32.not_lt.mpr hg11)
        refine bV.iload_n G d_S_out_14 rfl ?_
        refine bV.istore_n G (lv' := [(0, .ref (ad 0)), (1, .int (nI (j))), (2, .int (nI (i))), (3, .int (nI (i)))]) d_S_out_15 (by decide) rfl rfl ?_
        refine bV.aload_n G d_S_out_16 rfl ?_
        refine bV.iload_n G d_S_out_17 rfl ?_
        refine bV.callVi G m_S_lengthOfVersion bw_319 bw_s9 bw_317 (c_S_lengthOfVersion hRv hRd (v := j) (by omega)) 0 rfl rfl rfl rfl rfl ⟨by decide, by decide⟩ ⟨by decide, by decide⟩ (Nat.le_of_ble_eq_true rfl) d_S_out_18 (fun x9 ws9 h9 => ?_)
        obtain ⟨rfl, h9e⟩ := h9
        rw [h9e]
        try dsimp only
        refine bV.istore G (lv' := [(0, .ref (ad 0)), (1, .int (nI (j))), (2, .int (nI (i))), (3, .int (nI (i))), (4, .int (nI (lenV md vl j)))]) d_S_out_21 (by decide) rfl rfl ?_
        refine bV.iconst (v := nI 0) G d_S_out_23 (by decide) ?_
        refine bV.istore G (lv' := [(0, .ref (ad 0)), (1, .int (nI (j))), (2, .int (nI (i))), (3, .int (nI (i))), (4, .int (nI (lenV md vl j))), (5, .int (nI (0)))]) d_S_out_24 (by decide) rfl rfl ?_
        exact loop (lenV md vl j) j i 0 i rfl rfl hi hi hg1 hj hg6 hg11 (by omega) rfl
      · obtain ⟨hz, rfl, h9e⟩ := h9
        rw [h9e]
        exact bT.leaveI G E0 rfl (by decide) (by decide) (Or.inr ⟨hg1, fun z => hz z.2, rfl, rfl⟩)
    · obtain ⟨hz, rfl, h9e⟩ := h9
      rw [h9e]
      exact bT.leaveI G E0 rfl (by decide) (by decide) (Or.inr ⟨hg1, fun z => hz z.1, rfl, rfl⟩)
  · obtain ⟨hz, rfl, h9e⟩ := h9
    rw [h9e]
    exact bT.leaveI G E0 rfl (by decide) (by decide) (Or.inl ⟨hz, rfl, rfl⟩)
end
section
/-! ===== the store: writes ===== -/
def apB (lg : Nat → Nat) (n : Nat) (f : Nat → Nat) (k : Nat) : Nat → Nat := fun i => if n ≤ i ∧ i < n + k then f (i - n) else lg i
theorem apB_0 {lg : Nat → Nat} {n : Nat} {f : Nat → Nat} : apB lg n f 0 = lg := by
  funext i
  exact if_neg (by omega)
theorem apB_s {lg : Nat → Nat} {n : Nat} {f : Nat → Nat} {k : Nat} : fup (apB lg n f k) (n + k) (f k) = apB lg n f (k + 1) := by
  funext i
  unfold fup apB
  by_cases h : i = n + k
  · subst h
    rw [if_pos rfl, if_pos (by omega), Nat.add_sub_cancel_left]
  · rw [if_neg h]
    by_cases h2 : n ≤ i ∧ i < n + k
    · rw [if_pos h2, if_pos (by omega)]
    · rw [if_neg h2, if_neg (by omega)]
theorem pcS_le {pl : Nat → Nat} {c : Nat} : ∀ n, (∀ j, j < n → pl j ≤ c) → pcS pl n ≤ c * n := by
  intro n
  induction n with
  | zero => intro _; exact Nat.zero_le _
  | succ n ih =>
    intro h
    have h1 := ih (fun j hj => h j (by omega))
    have h2 := h n (by omega)
    have h3 : pcS pl (n + 1) = pcS pl n + pl n := rfl
    rw [Nat.mul_succ]
    omega
theorem pc_R_congr {NI ns : Nat} {P : pc_C} {a : Nat} {b b' : Nat → Nat} {d d' : Nat → Nat → Nat} (h : pc_R NI ns P (a, b, d)) (hb : ∀ j, j ≤ a → b' j = b j) (hd : ∀ j i, j ≤ a → i < b j → d' j i = d j i) : pc_R NI ns P (a, b', d') := by
  obtain ⟨h1, h2, h3, h4, h5, h6, h7, h8, h9⟩ := h
  dsimp only at *
  have e : ∀ n, n ≤ a + 1 → pcS b' n = pcS b n := fun n hn => pcS_congr n (fun j hj => hb j (by omega))
  refine ⟨h1, h2, h3, h4, ?_, h6, fun j hj => ?_, fun j i hj hi => ?_, fun j i hj hi => ?_⟩
  · dsimp only; rw [e _ (Nat.le_refl _)]; exact h5
  · dsimp only at hj ⊢; rw [e _ (by omega)]; exact h7 j hj
  · dsimp only at hj hi ⊢; rw [hb j hj] at hi; rw [e _ (by omega), hd j i hj hi]; exact h8 j i hj hi
  · dsimp only at hj hi ⊢; rw [hb j hj] at hi; rw [hd j i hj hi]; exact h9 j i hj hi
theorem nI_nm1 {j : Nat} (h : j < 2 ^ 31) : nI j ≠ -1 := fun z => by
  have h1 := nI_pos' h
  rw [z] at h1
  exact absurd h1 (by decide)
def rec1 (lg : Nat → Nat) (n len : Nat) (f : Nat → Nat) : Nat → Nat := apB (fup (fup lg n 1) (n + 1) len) (n + 2) f len
def rec2 (lg : Nat → Nat) (n k v : Nat) : Nat → Nat := fup (fup lg n k) (n + 1) v
theorem d_S_closeFed_0 : decode b_S_closeFed 0 = .ok (.aload_n 0, 1) := by decide +kernel
theorem d_S_closeFed_1 : decode b_S_closeFed 1 = .ok (.getfield 21, 3) := by decide +kernel
theorem d_S_closeFed_4 : decode b_S_closeFed 4 = .ok (.invokevirtual 91, 3) := by decide +kernel
theorem d_S_closeFed_7 : decode b_S_closeFed 7 = .ok (.istore_n 1, 1) := by decide +kernel
theorem d_S_closeFed_8 : decode b_S_closeFed 8 = .ok (.aload_n 0, 1) := by decide +kernel
theorem d_S_closeFed_9 : decode b_S_closeFed 9 = .ok (.getfield 30, 3) := by decide +kernel
theorem d_S_closeFed_12 : decode b_S_closeFed 12 = .ok (.iload_n 1, 1) := by decide +kernel
theorem d_S_closeFed_13 : decode b_S_closeFed 13 = .ok (.invokevirtual 180, 3) := by decide +kernel
theorem d_S_closeFed_16 : decode b_S_closeFed 16 = .ok (.aload_n 0, 1) := by decide +kernel
theorem d_S_closeFed_17 : decode b_S_closeFed 17 = .ok (.getfield 40, 3) := by decide +kernel
theorem d_S_closeFed_20 : decode b_S_closeFed 20 = .ok (.iload_n 1, 1) := by decide +kernel
theorem d_S_closeFed_21 : decode b_S_closeFed 21 = .ok (.invokevirtual 69, 3) := by decide +kernel
theorem d_S_closeFed_24 : decode b_S_closeFed 24 = .ok (.iload_n 1, 1) := by decide +kernel
theorem d_S_closeFed_25 : decode b_S_closeFed 25 = .ok (.ireturn, 1) := by decide +kernel
set_option maxRecDepth 20000 in
set_option maxHeartbeats 4000000 in
theorem c_S_closeFed {D : va_G} {cI cZ cJ : ClassId} {ad : Nat → Nat} {mp : Nat} {lf : Nat → Int32} {n : Nat} {Pb : pc_C} {gt gp gh : Nat → Int32} {Pv : pc_C} {gd : Nat → Int32} {Pq : pc_C} {cr : Bool} {rest : va_W} {nb : Nat} {bl : Nat → Nat} {ba : Nat → Nat → Nat} {mt : Nat → Bool} {nv : Nat} {vl : Nat → Nat} {va : Nat → Nat → Nat} (hRb : pc_R 600 25 Pb (nb, bl, ba)) (hRt : mk_R 24 gt mt) (hRv : pc_R 104 13 Pv (nv, vl, va)) (hb : nb < 24) (hr : pcS vl (nv + 1) < 104) : bC D bcl (tys3 cI cZ cJ) y_S_closeFed ({ frames := 1, cells := 0, slots := 0, locals := 21 }) (wS ad cI cZ mp lf n Pb gt gp gh Pv gd Pq cr rest) [.ref (ad 0)] (bI (fun x ws9 => x = nI nb ∧ ∃ (Pb1 : pc_C) (gt1 : Nat → Int32) (Pv1 : pc_C), pc_R 600 25 Pb1 (nb + 1, fup bl (nb + 1) 0, ba) ∧ mk_R 24 gt1 (mk_up mt nb true) ∧ pc_R 104 13 Pv1 (nv, fup vl nv (vl nv + 1), fup2 va nv (vl nv) nb) ∧ ws9 = wS ad cI cZ mp lf n Pb1 gt1 gp gh Pv1 gd Pq cr rest) bno) := by
  have fb : nb < 25 := hRb.2.1
  have fv : nv < 13 := hRv.2.1
  refine bC.of (by decide) m_S_closeFed.1 (Nat.le_of_ble_eq_true rfl) ?_
  intro Γ G E0
  show bV D bcl Γ 2 (wS ad cI cZ mp lf n Pb gt gp gh Pv gd Pq cr rest) 0 0 0 [(0, .ref (ad 0))] []
  refine bV.aload_n G d_S_closeFed_0 rfl ?_
  refine bV.getf G cl_S 0 1 rfl (by decide) bw_74 rfl d_S_closeFed_1 ?_
  refine bV.callVi G m_P_close bw_254 bw_255 bw_253 (cS_b_close hRb (by omega)) 3 rfl rfl rfl rfl rfl ⟨by decide, by decide⟩ ⟨by decide, by decide⟩ (Nat.le_of_ble_eq_true rfl) d_S_closeFed_4 (fun x9 ws9 h9 => ?_)
  obtain ⟨rfl, Pb1, hRb2, h9e⟩ := h9
  rw [h9e]
  try dsimp only at hRb2
  try dsimp only
  refine bV.istore_n G (lv' := [(0, .ref (ad 0)), (1, .int (nI (nb)))]) d_S_closeFed_7 (by decide) rfl rfl ?_
  refine bV.aload_n G d_S_closeFed_8 rfl ?_
  refine bV.getf G cl_S 0 2 rfl (by decide) bw_75 rfl d_S_closeFed_9 ?_
  refine bV.iload_n G d_S_closeFed_12 rfl ?_
  refine bV.callVo G m_K_turnOn bw_258 bw_259 bw_257 (cS_t_turnOn (j := nb) hRt (by omega)) 6 rfl rfl rfl rfl rfl ⟨by decide, by decide⟩ ⟨by decide, by decide⟩ (Nat.le_of_ble_eq_true rfl) d_S_closeFed_13 (fun ws9 h9 => ?_)
  obtain ⟨gt3, hRt4, h9e⟩ := h9
  rw [h9e]
  refine bV.aload_n G d_S_closeFed_16 rfl ?_
  refine bV.getf G cl_S 0 5 rfl (by decide) bw_78 rfl d_S_closeFed_17 ?_
  refine bV.iload_n G d_S_closeFed_20 rfl ?_
  refine bV.callVo G m_P_add bw_193 bw_194 bw_192 (cS_v_add (x := nb) hRv (by omega) hr) 12 rfl rfl rfl rfl rfl ⟨by decide, by decide⟩ ⟨by decide, by decide⟩ (Nat.le_of_ble_eq_true rfl) d_S_closeFed_21 (fun ws9 h9 => ?_)
  obtain ⟨Pv5, hRv6, h9e⟩ := h9
  rw [h9e]
  try dsimp only at hRv6
  refine bV.iload_n G d_S_closeFed_24 rfl ?_
  exact bV.iretI G E0 rfl rfl (by decide) (by decide) d_S_closeFed_25 ⟨rfl, Pb1, gt3, Pv5, hRb2, hRt4, hRv6, rfl⟩
theorem d_S_takeNewBlock_0 : decode b_S_takeNewBlock 0 = .ok (.aload_n 0, 1) := by decide +kernel
theorem d_S_takeNewBlock_1 : decode b_S_takeNewBlock 1 = .ok (.getfield 21, 3) := by decide +kernel
theorem d_S_takeNewBlock_4 : decode b_S_takeNewBlock 4 = .ok (.invokevirtual 65, 3) := by decide +kernel
theorem d_S_takeNewBlock_7 : decode b_S_takeNewBlock 7 = .ok (.istore_n 1, 1) := by decide +kernel
theorem d_S_takeNewBlock_8 : decode b_S_takeNewBlock 8 = .ok (.aload_n 0, 1) := by decide +kernel
theorem d_S_takeNewBlock_9 : decode b_S_takeNewBlock 9 = .ok (.getfield 21, 3) := by decide +kernel
theorem d_S_takeNewBlock_12 : decode b_S_takeNewBlock 12 = .ok (.invokevirtual 82, 3) := by decide +kernel
theorem d_S_takeNewBlock_15 : decode b_S_takeNewBlock 15 = .ok (.ifCond .ne 16, 3) := by decide +kernel
theorem d_S_takeNewBlock_18 : decode b_S_takeNewBlock 18 = .ok (.aload_n 0, 1) := by decide +kernel
theorem d_S_takeNewBlock_19 : decode b_S_takeNewBlock 19 = .ok (.getfield 12, 3) := by decide +kernel
theorem d_S_takeNewBlock_22 : decode b_S_takeNewBlock 22 = .ok (.iconst 2, 1) := by decide +kernel
theorem d_S_takeNewBlock_23 : decode b_S_takeNewBlock 23 = .ok (.iload_n 1, 1) := by decide +kernel
theorem d_S_takeNewBlock_24 : decode b_S_takeNewBlock 24 = .ok (.iadd, 1) := by decide +kernel
theorem d_S_takeNewBlock_25 : decode b_S_takeNewBlock 25 = .ok (.invokevirtual 86, 3) := by decide +kernel
theorem d_S_takeNewBlock_28 : decode b_S_takeNewBlock 28 = .ok (.ifCond .ne 5, 3) := by decide +kernel
theorem d_S_takeNewBlock_31 : decode b_S_takeNewBlock 31 = .ok (.iconst (-1), 1) := by decide +kernel
theorem d_S_takeNewBlock_32 : decode b_S_takeNewBlock 32 = .ok (.ireturn, 1) := by decide +kernel
theorem d_S_takeNewBlock_33 : decode b_S_takeNewBlock 33 = .ok (.aload_n 0, 1) := by decide +kernel
theorem d_S_takeNewBlock_34 : decode b_S_takeNewBlock 34 = .ok (.getfield 12, 3) := by decide +kernel
theorem d_S_takeNewBlock_37 : decode b_S_takeNewBlock 37 = .ok (.iconst 1, 1) := by decide +kernel
theorem d_S_takeNewBlock_38 : decode b_S_takeNewBlock 38 = .ok (.invokevirtual 90, 3) := by decide +kernel
theorem d_S_takeNewBlock_41 : decode b_S_takeNewBlock 41 = .ok (.aload_n 0, 1) := by decide +kernel
theorem d_S_takeNewBlock_42 : decode b_S_takeNewBlock 42 = .ok (.getfield 12, 3) := by decide +kernel
theorem d_S_takeNewBlock_45 : decode b_S_takeNewBlock 45 = .ok (.iload_n 1, 1) := by decide +kernel
theorem d_S_takeNewBlock_46 : decode b_S_takeNewBlock 46 = .ok (.invokevirtual 90, 3) := by decide +kernel
theorem d_S_takeNewBlock_49 : decode b_S_takeNewBlock 49 = .ok (.iconst 0, 1) := by decide +kernel
theorem d_S_takeNewBlock_50 : decode b_S_takeNewBlock 50 = .ok (.istore_n 2, 1) := by decide +kernel
theorem d_S_takeNewBlock_51 : decode b_S_takeNewBlock 51 = .ok (.iload_n 2, 1) := by decide +kernel
theorem d_S_takeNewBlock_52 : decode b_S_takeNewBlock 52 = .ok (.iload_n 1, 1) := by decide +kernel
theorem d_S_takeNewBlock_53 : decode b_S_takeNewBlock 53 = .ok (.if_icmp .ge 24, 3) := by decide +kernel
theorem d_S_takeNewBlock_56 : decode b_S_takeNewBlock 56 = .ok (.aload_n 0, 1) := by decide +kernel
theorem d_S_takeNewBlock_57 : decode b_S_takeNewBlock 57 = .ok (.getfield 12, 3) := by decide +kernel
theorem d_S_takeNewBlock_60 : decode b_S_takeNewBlock 60 = .ok (.aload_n 0, 1) := by decide +kernel
theorem d_S_takeNewBlock_61 : decode b_S_takeNewBlock 61 = .ok (.getfield 21, 3) := by decide +kernel
theorem d_S_takeNewBlock_64 : decode b_S_takeNewBlock 64 = .ok (.iload_n 2, 1) := by decide +kernel
theorem d_S_takeNewBlock_65 : decode b_S_takeNewBlock 65 = .ok (.invokevirtual 216, 3) := by decide +kernel
theorem d_S_takeNewBlock_68 : decode b_S_takeNewBlock 68 = .ok (.invokevirtual 90, 3) := by decide +kernel
theorem d_S_takeNewBlock_71 : decode b_S_takeNewBlock 71 = .ok (.iinc 2 1, 3) := by decide +kernel
theorem d_S_takeNewBlock_74 : decode b_S_takeNewBlock 74 = .ok (.goto (-23), 3) := by decide +kernel
theorem d_S_takeNewBlock_77 : decode b_S_takeNewBlock 77 = .ok (.aload_n 0, 1) := by decide +kernel
theorem d_S_takeNewBlock_78 : decode b_S_takeNewBlock 78 = .ok (.invokevirtual 219, 3) := by decide +kernel
theorem d_S_takeNewBlock_81 : decode b_S_takeNewBlock 81 = .ok (.ireturn, 1) := by decide +kernel
set_option maxRecDepth 20000 in
set_option maxHeartbeats 4000000 in
theorem c_S_takeNewBlock {D : va_G} {cI cZ cJ : ClassId} {ad : Nat → Nat} {mp : Nat} {lf : Nat → Int32} {n : Nat} {Pb : pc_C} {gt gp gh : Nat → Int32} {Pv : pc_C} {gd : Nat → Int32} {Pq : pc_C} {cr : Bool} {rest : va_W} {lg : Nat → Nat} {nb : Nat} {bl : Nat → Nat} {ba : Nat → Nat → Nat} {mt : Nat → Bool} {nv : Nat} {vl : Nat → Nat} {va : Nat → Nat → Nat} (hRl : lg_R lf n lg) (hRb : pc_R 600 25 Pb (nb, bl, ba)) (hRt : mk_R 24 gt mt) (hRv : pc_R 104 13 Pv (nv, vl, va)) (hbl : bl nb ≤ 24) (hby : ∀ i, i < bl nb → ba nb i < 256) (hr : pcS vl (nv + 1) < 104) : bC D bcl (tys3 cI cZ cJ) y_S_takeNewBlock ({ frames := 3, cells := 0, slots := 0, locals := 66 }) (wS ad cI cZ mp lf n Pb gt gp gh Pv gd Pq cr rest) [.ref (ad 0)] (bI (fun x ws9 => ((nb = 24 ∨ 400 < n + 2 + bl nb) ∧ x = -1 ∧ ws9 = wS ad cI cZ mp lf n Pb gt gp gh Pv gd Pq cr rest) ∨ ((nb < 24 ∧ n + 2 + bl nb ≤ 400) ∧ x = nI nb ∧ ∃ lf1, lg_R lf1 (n + 2 + bl nb) (rec1 lg n (bl nb) (ba nb)) ∧ ∃ (Pb1 : pc_C) (gt1 : Nat → Int32) (Pv1 : pc_C), pc_R 600 25 Pb1 (nb + 1, fup bl (nb + 1) 0, ba) ∧ mk_R 24 gt1 (mk_up mt nb true) ∧ pc_R 104 13 Pv1 (nv, fup vl nv (vl nv + 1), fup2 va nv (vl nv) nb) ∧ ws9 = wS ad cI cZ mp lf1 (n + 2 + bl nb) Pb1 gt1 gp gh Pv1 gd Pq cr rest)) bno) := by
  have fl : n ≤ 400 := hRl.1
  have fb : nb < 25 := hRb.2.1
  have fv : nv < 13 := hRv.2.1
  refine bC.of (by decide) m_S_takeNewBlock.1 (Nat.le_of_ble_eq_true rfl) ?_
  intro Γ G E0
  show bV D bcl Γ 3 (wS ad cI cZ mp lf n Pb gt gp gh Pv gd Pq cr rest) 0 0 0 [(0, .ref (ad 0))] []
  have loop : ∀ (d : Nat) (k : Nat) (lz : Nat → Int32), nb < 24 → n + 2 + bl nb ≤ 400 → d + k = bl nb → lg_R lz (n + 2 + k) (apB (fup (fup lg n 1) (n + 1) (bl nb)) (n + 2) (ba nb) k) → bV D bcl Γ 3 (wS ad cI cZ mp lz (n + 2 + k) Pb gt gp gh Pv gd Pq cr rest) 0 0 51 [(0, .ref (ad 0)), (1, .int (nI (bl nb))), (2, .int (nI (k)))] [] := by
    intro d
    induction d with
    | zero =>
      intro k lz h15 h28 hd hRz
      refine bV.iload_n G d_S_takeNewBlock_51 rfl ?_
      refine bV.iload_n G d_S_takeNewBlock_52 rfl ?_
      refine bV.icmp_geN (tgt := 77) G d_S_takeNewBlock_53 (by decide) (by omega) (by omega) (fun c53 => ?_) (fun c53 => ?_)
      · obtain rfl : k = bl nb := by omega
        refine bV.aload_n G d_S_takeNewBlock_77 rfl ?_
        refine bV.callVi G m_S_closeFed bw_251 bw_s4 bw_249 (c_S_closeFed hRb hRt hRv (by omega) hr) 0 rfl rfl rfl rfl rfl ⟨by decide, by decide⟩ ⟨by decide, by decide⟩ (Nat.le_of_ble_eq_true rfl) d_S_takeNewBlock_78 (fun x9 ws9 h9 => ?_)
        obtain ⟨rfl, Pb1, gt1, Pv1, hRb1, hRt1, hRv1, h9e⟩ := h9
        rw [h9e]
        try dsimp only
        exact bV.iretI G E0 rfl rfl (by decide) (by decide) d_S_takeNewBlock_81 (Or.inr ⟨⟨by omega, by omega⟩, rfl, lz, hRz, Pb1, gt1, Pv1, hRb1, hRt1, hRv1, rfl⟩)
      · exfalso; omega
    | succ d ih =>
      intro k lz h15 h28 hd hRz
      refine bV.iload_n G d_S_takeNewBlock_51 rfl ?_
      refine bV.iload_n G d_S_takeNewBlock_52 rfl ?_
      refine bV.icmp_geN (tgt := 77) G d_S_takeNewBlock_53 (by decide) (by omega) (by omega) (fun c53 => ?_) (fun c53 => ?_)
      · exfalso; omega
      · refine bV.aload_n G d_S_takeNewBlock_56 rfl ?_
        refine bV.getf G cl_S 0 0 rfl (by decide) bw_73 rfl d_S_takeNewBlock_57 ?_
        refine bV.aload_n G d_S_takeNewBlock_60 rfl ?_
        refine bV.getf G cl_S 0 1 rfl (by decide) bw_74 rfl d_S_takeNewBlock_61 ?_
        refine bV.iload_n G d_S_takeNewBlock_64 rfl ?_
        refine bV.callVi G m_P_openAt bw_225 bw_226 bw_248 (c_P_openAt wS_b hRb (i := k) (by omega)) 3 rfl rfl rfl rfl rfl ⟨by decide, by decide⟩ ⟨by decide, by decide⟩ (Nat.le_of_ble_eq_true rfl) d_S_takeNewBlock_65 (fun x9 ws9 h9 => ?_)
        obtain ⟨rfl, h9e⟩ := h9
        rw [h9e]
        try dsimp only
        rw [if_pos (by show k < bl nb; omega)]
        have hb8 := hby k (by omega)
        refine bV.callVo G m_L_add bw_245 bw_246 bw_244 (cS_l_add (x := ba nb k) hRz (by omega) (by omega)) 1 rfl rfl rfl rfl rfl ⟨by decide, by decide⟩ ⟨by decide, by decide⟩ (Nat.le_of_ble_eq_true rfl) d_S_takeNewBlock_68 (fun ws9 h9 => ?_)
        obtain ⟨lf101, hRl102, h9e⟩ := h9
        rw [h9e]
        refine bV.iincN G (lv' := [(0, .ref (ad 0)), (1, .int (nI (bl nb))), (2, .int (nI (k + 1)))]) d_S_takeNewBlock_71 rfl (by decide) rfl rfl ?_
        refine bV.goto (tgt := 51) G d_S_takeNewBlock_74 (by decide) ?_
        exact ih (k + 1) lf101 h15 h28 (by omega) (by rw [← apB_s]; exact hRl102)
  refine bV.aload_n G d_S_takeNewBlock_0 rfl ?_
  refine bV.getf G cl_S 0 1 rfl (by decide) bw_74 rfl d_S_takeNewBlock_1 ?_
  refine bV.callVi G m_P_openLength bw_185 bw_186 bw_184 (c_P_openLength wS_b hRb) 3 rfl rfl rfl rfl rfl ⟨by decide, by decide⟩ ⟨by decide, by decide⟩ (Nat.le_of_ble_eq_true rfl) d_S_takeNewBlock_4 (fun x9 ws9 h9 => ?_)
  obtain ⟨rfl, h9e⟩ := h9
  rw [h9e]
  try dsimp only
  refine bV.istore_n G (lv' := [(0, .ref (ad 0)), (1, .int (nI (bl nb)))]) d_S_takeNewBlock_7 (by decide) rfl rfl ?_
  refine bV.aload_n G d_S_takeNewBlock_8 rfl ?_
  refine bV.getf G cl_S 0 1 rfl (by decide) bw_74 rfl d_S_takeNewBlock_9 ?_
  refine bV.callVi G m_P_isFull bw_233 bw_234 bw_232 (c_P_isFull wS_b hRb) 3 rfl rfl rfl rfl rfl ⟨by decide, by decide⟩ ⟨by decide, by decide⟩ (Nat.le_of_ble_eq_true rfl) d_S_takeNewBlock_12 (fun x9 ws9 h9 => ?_)
  obtain ⟨rfl, h9e⟩ := h9
  rw [h9e]
  try dsimp only
  refine bV.if_neB (tgt := 31) G d_S_takeNewBlock_15 (by decide) (fun c15 => ?_) (fun c15 => ?_)
  · have h15 := of_decide_eq_true c15
    refine bV.iconst (v := (-1)) G d_S_takeNewBlock_31 (by decide) ?_
    exact bV.iretI G E0 rfl rfl (by decide) (by decide) d_S_takeNewBlock_32 (Or.inl ⟨by omega, rfl, rfl⟩)
  · have h15 := of_decide_eq_false c15
    refine bV.aload_n G d_S_takeNewBlock_18 rfl ?_
    refine bV.getf G cl_S 0 0 rfl (by decide) bw_73 rfl d_S_takeNewBlock_19 ?_
    refine bV.iconst (v := nI 2) G d_S_takeNewBlock_22 (by decide) ?_
    refine bV.iload_n G d_S_takeNewBlock_23 rfl ?_
    refine bV.iaddN G d_S_takeNewBlock_24 ?_
    refine bV.callVi G m_L_hasRoom bw_241 bw_242 bw_240 (c_L_hasRoom wS_l hRl (y := 2 + (bl nb)) (by omega)) 1 rfl rfl rfl rfl rfl ⟨by decide, by decide⟩ ⟨by decide, by decide⟩ (Nat.le_of_ble_eq_true rfl) d_S_takeNewBlock_25 (fun x9 ws9 h9 => ?_)
    obtain ⟨rfl, h9e⟩ := h9
    rw [h9e]
    try dsimp only
    refine bV.if_neB (tgt := 33) G d_S_takeNewBlock_28 (by decide) (fun c28 => ?_) (fun c28 => ?_)
    · have h28 := of_decide_eq_true c28
      refine bV.aload_n G d_S_takeNewBlock_33 rfl ?_
      refine bV.getf G cl_S 0 0 rfl (by decide) bw_73 rfl d_S_takeNewBlock_34 ?_
      refine bV.iconst (v := nI 1) G d_S_takeNewBlock_37 (by decide) ?_
      refine bV.callVo G m_L_add bw_245 bw_246 bw_244 (cS_l_add (x := 1) hRl (by omega) (by omega)) 1 rfl rfl rfl rfl rfl ⟨by decide, by decide⟩ ⟨by decide, by decide⟩ (Nat.le_of_ble_eq_true rfl) d_S_takeNewBlock_38 (fun ws9 h9 => ?_)
      obtain ⟨lf1, hRl2, h9e⟩ := h9
      rw [h9e]
      refine bV.aload_n G d_S_takeNewBlock_41 rfl ?_
      refine bV.getf G cl_S 0 0 rfl (by decide) bw_73 rfl d_S_takeNewBlock_42 ?_
      refine bV.iload_n G d_S_takeNewBlock_45 rfl ?_
      refine bV.callVo G m_L_add bw_245 bw_246 bw_244 (cS_l_add (x := bl nb) hRl2 (by omega) (by omega)) 1 rfl rfl rfl rfl rfl ⟨by decide, by decide⟩ ⟨by decide, by decide⟩ (Nat.le_of_ble_eq_true rfl) d_S_takeNewBlock_46 (fun ws9 h9 => ?_)
      obtain ⟨lf3, hRl4, h9e⟩ := h9
      rw [h9e]
      refine bV.iconst (v := nI 0) G d_S_takeNewBlock_49 (by decide) ?_
      refine bV.istore_n G (lv' := [(0, .ref (ad 0)), (1, .int (nI (bl nb))), (2, .int (nI (0)))]) d_S_takeNewBlock_50 (by decide) rfl rfl ?_
      exact loop (bl nb) 0 lf3 (by omega) (by omega) (by omega) (by rw [apB_0]; exact hRl4)
    · have h28 := of_decide_eq_false c28
      refine bV.iconst (v := (-1)) G d_S_takeNewBlock_31 (by decide) ?_
      exact bV.iretI G E0 rfl rfl (by decide) (by decide) d_S_takeNewBlock_32 (Or.inl ⟨by omega, rfl, rfl⟩)
theorem d_S_takeOldBlock_0 : decode b_S_takeOldBlock 0 = .ok (.aload_n 0, 1) := by decide +kernel
theorem d_S_takeOldBlock_1 : decode b_S_takeOldBlock 1 = .ok (.getfield 12, 3) := by decide +kernel
theorem d_S_takeOldBlock_4 : decode b_S_takeOldBlock 4 = .ok (.iconst 2, 1) := by decide +kernel
theorem d_S_takeOldBlock_5 : decode b_S_takeOldBlock 5 = .ok (.invokevirtual 86, 3) := by decide +kernel
theorem d_S_takeOldBlock_8 : decode b_S_takeOldBlock 8 = .ok (.ifCond .ne 5, 3) := by decide +kernel
theorem d_S_takeOldBlock_11 : decode b_S_takeOldBlock 11 = .ok (.iconst (-1), 1) := by decide +kernel
theorem d_S_takeOldBlock_12 : decode b_S_takeOldBlock 12 = .ok (.ireturn, 1) := by decide +kernel
theorem d_S_takeOldBlock_13 : decode b_S_takeOldBlock 13 = .ok (.aload_n 0, 1) := by decide +kernel
theorem d_S_takeOldBlock_14 : decode b_S_takeOldBlock 14 = .ok (.getfield 12, 3) := by decide +kernel
theorem d_S_takeOldBlock_17 : decode b_S_takeOldBlock 17 = .ok (.iconst 2, 1) := by decide +kernel
theorem d_S_takeOldBlock_18 : decode b_S_takeOldBlock 18 = .ok (.invokevirtual 90, 3) := by decide +kernel
theorem d_S_takeOldBlock_21 : decode b_S_takeOldBlock 21 = .ok (.aload_n 0, 1) := by decide +kernel
theorem d_S_takeOldBlock_22 : decode b_S_takeOldBlock 22 = .ok (.getfield 12, 3) := by decide +kernel
theorem d_S_takeOldBlock_25 : decode b_S_takeOldBlock 25 = .ok (.iload_n 1, 1) := by decide +kernel
theorem d_S_takeOldBlock_26 : decode b_S_takeOldBlock 26 = .ok (.invokevirtual 90, 3) := by decide +kernel
theorem d_S_takeOldBlock_29 : decode b_S_takeOldBlock 29 = .ok (.aload_n 0, 1) := by decide +kernel
theorem d_S_takeOldBlock_30 : decode b_S_takeOldBlock 30 = .ok (.getfield 21, 3) := by decide +kernel
theorem d_S_takeOldBlock_33 : decode b_S_takeOldBlock 33 = .ok (.invokevirtual 222, 3) := by decide +kernel
theorem d_S_takeOldBlock_36 : decode b_S_takeOldBlock 36 = .ok (.aload_n 0, 1) := by decide +kernel
theorem d_S_takeOldBlock_37 : decode b_S_takeOldBlock 37 = .ok (.getfield 40, 3) := by decide +kernel
theorem d_S_takeOldBlock_40 : decode b_S_takeOldBlock 40 = .ok (.iload_n 1, 1) := by decide +kernel
theorem d_S_takeOldBlock_41 : decode b_S_takeOldBlock 41 = .ok (.invokevirtual 69, 3) := by decide +kernel
theorem d_S_takeOldBlock_44 : decode b_S_takeOldBlock 44 = .ok (.iload_n 1, 1) := by decide +kernel
theorem d_S_takeOldBlock_45 : decode b_S_takeOldBlock 45 = .ok (.ireturn, 1) := by decide +kernel
set_option maxRecDepth 20000 in
set_option maxHeartbeats 4000000 in
theorem c_S_takeOldBlock {D : va_G} {cI cZ cJ : ClassId} {ad : Nat → Nat} {mp : Nat} {lf : Nat → Int32} {n : Nat} {Pb : pc_C} {gt gp gh : Nat → Int32} {Pv : pc_C} {gd : Nat → Int32} {Pq : pc_C} {cr : Bool} {rest : va_W} {lg : Nat → Nat} {nb : Nat} {bl : Nat → Nat} {ba : Nat → Nat → Nat} {nv : Nat} {vl : Nat → Nat} {va : Nat → Nat → Nat} (hRl : lg_R lf n lg) (hRb : pc_R 600 25 Pb (nb, bl, ba)) (hRv : pc_R 104 13 Pv (nv, vl, va)) {j : Nat} (hj : j < nb) (hr : pcS vl (nv + 1) < 104) : bC D bcl (tys3 cI cZ cJ) y_S_takeOldBlock ({ frames := 3, cells := 0, slots := 0, locals := 62 }) (wS ad cI cZ mp lf n Pb gt gp gh Pv gd Pq cr rest) [.ref (ad 0), .int (nI (j))] (bI (fun x ws9 => (400 < n + 2 ∧ x = -1 ∧ ws9 = wS ad cI cZ mp lf n Pb gt gp gh Pv gd Pq cr rest) ∨ (n + 2 ≤ 400 ∧ x = nI j ∧ ∃ (lf1 : Nat → Int32) (Pb1 Pv1 : pc_C), lg_R lf1 (n + 2) (rec2 lg n 2 j) ∧ pc_R 600 25 Pb1 (nb, fup bl nb 0, ba) ∧ pc_R 104 13 Pv1 (nv, fup vl nv (vl nv + 1), fup2 va nv (vl nv) j) ∧ ws9 = wS ad cI cZ mp lf1 (n + 2) Pb1 gt gp gh Pv1 gd Pq cr rest)) bno) := by
  have fl : n ≤ 400 := hRl.1
  have fb : nb < 25 := hRb.2.1
  have fv : nv < 13 := hRv.2.1
  refine bC.of (by decide) m_S_takeOldBlock.1 (Nat.le_of_ble_eq_true rfl) ?_
  intro Γ G E0
  show bV D bcl Γ 2 (wS ad cI cZ mp lf n Pb gt gp gh Pv gd Pq cr rest) 0 0 0 [(0, .ref (ad 0)), (1, .int (nI (j)))] []
  refine bV.aload_n G d_S_takeOldBlock_0 rfl ?_
  refine bV.getf G cl_S 0 0 rfl (by decide) bw_73 rfl d_S_takeOldBlock_1 ?_
  refine bV.iconst (v := nI 2) G d_S_takeOldBlock_4 (by decide) ?_
  refine bV.callVi G m_L_hasRoom bw_241 bw_242 bw_240 (c_L_hasRoom wS_l hRl (y := 2) (by omega)) 1 rfl rfl rfl rfl rfl ⟨by decide, by decide⟩ ⟨by decide, by decide⟩ (Nat.le_of_ble_eq_true rfl) d_S_takeOldBlock_5 (fun x9 ws9 h9 => ?_)
  obtain ⟨rfl, h9e⟩ := h9
  rw [h9e]
  try dsimp only
  refine bV.if_neB (tgt := 13) G d_S_takeOldBlock_8 (by decide) (fun c8 => ?_) (fun c8 => ?_)
  · have h8 := of_decide_eq_true c8
    refine bV.aload_n G d_S_takeOldBlock_13 rfl ?_
    refine bV.getf G cl_S 0 0 rfl (by decide) bw_73 rfl d_S_takeOldBlock_14 ?_
    refine bV.iconst (v := nI 2) G d_S_takeOldBlock_17 (by decide) ?_
    refine bV.callVo G m_L_add bw_245 bw_246 bw_244 (cS_l_add (x := 2) hRl (by omega) (by omega)) 1 rfl rfl rfl rfl rfl ⟨by decide, by decide⟩ ⟨by decide, by decide⟩ (Nat.le_of_ble_eq_true rfl) d_S_takeOldBlock_18 (fun ws9 h9 => ?_)
    obtain ⟨lf1, hRl2, h9e⟩ := h9
    rw [h9e]
    refine bV.aload_n G d_S_takeOldBlock_21 rfl ?_
    refine bV.getf G cl_S 0 0 rfl (by decide) bw_73 rfl d_S_takeOldBlock_22 ?_
    refine bV.iload_n G d_S_takeOldBlock_25 rfl ?_
    refine bV.callVo G m_L_add bw_245 bw_246 bw_244 (cS_l_add (x := j) hRl2 (by omega) (by omega)) 1 rfl rfl rfl rfl rfl ⟨by decide, by decide⟩ ⟨by decide, by decide⟩ (Nat.le_of_ble_eq_true rfl) d_S_takeOldBlock_26 (fun ws9 h9 => ?_)
    obtain ⟨lf3, hRl4, h9e⟩ := h9
    rw [h9e]
    refine bV.aload_n G d_S_takeOldBlock_29 rfl ?_
    refine bV.getf G cl_S 0 1 rfl (by decide) bw_74 rfl d_S_takeOldBlock_30 ?_
    refine bV.callVo G m_P_clearOpen bw_266 bw_267 bw_265 (cS_b_clearOpen hRb) 3 rfl rfl rfl rfl rfl ⟨by decide, by decide⟩ ⟨by decide, by decide⟩ (Nat.le_of_ble_eq_true rfl) d_S_takeOldBlock_33 (fun ws9 h9 => ?_)
    obtain ⟨Pb5, hRb6, h9e⟩ := h9
    rw [h9e]
    try dsimp only at hRb6
    refine bV.aload_n G d_S_takeOldBlock_36 rfl ?_
    refine bV.getf G cl_S 0 5 rfl (by decide) bw_78 rfl d_S_takeOldBlock_37 ?_
    refine bV.iload_n G d_S_takeOldBlock_40 rfl ?_
    refine bV.callVo G m_P_add bw_193 bw_194 bw_192 (cS_v_add (x := j) hRv (by omega) hr) 12 rfl rfl rfl rfl rfl ⟨by decide, by decide⟩ ⟨by decide, by decide⟩ (Nat.le_of_ble_eq_true rfl) d_S_takeOldBlock_41 (fun ws9 h9 => ?_)
    obtain ⟨Pv7, hRv8, h9e⟩ := h9
    rw [h9e]
    try dsimp only at hRv8
    refine bV.iload_n G d_S_takeOldBlock_44 rfl ?_
    exact bV.iretI G E0 rfl rfl (by decide) (by decide) d_S_takeOldBlock_45 (Or.inr ⟨by omega, rfl, lf3, Pb5, Pv7, hRl4, hRb6, hRv8, rfl⟩)
  · have h8 := of_decide_eq_false c8
    refine bV.iconst (v := (-1)) G d_S_takeOldBlock_11 (by decide) ?_
    exact bV.iretI G E0 rfl rfl (by decide) (by decide) d_S_takeOldBlock_12 (Or.inl ⟨by omega, rfl, rfl⟩)
def hldS (md : Nat → Bool) (vl : Nat → Nat) (va : Nat → Nat → Nat) (nv b : Nat) : Prop := ∃ v, v ≤ nv ∧ ∃ k, k < lenV md vl v ∧ va v k = b
noncomputable def hlB (md : Nat → Bool) (vl : Nat → Nat) (va : Nat → Nat → Nat) (nv : Nat) : Nat → Bool := fun b => dcd (hldS md vl va nv b)
theorem dcd_fun {m : Nat → Bool} {P : Nat → Prop} (h : ∀ b, m b = true ↔ P b) : m = fun b => dcd (P b) := by
  funext b
  by_cases z : P b
  · rw [dcd_t z]; exact (h b).mpr z
  · rw [dcd_f z]
    cases e : m b
    · rfl
    · exact absurd ((h b).mp e) z
theorem mk_up_iff {m : Nat → Bool} {j : Nat} {P Q : Nat → Prop} (h : ∀ b, m b = true ↔ P b) (hq : ∀ b, Q b ↔ P b ∨ j = b) : ∀ b, mk_up m j true b = true ↔ Q b := by
  intro b
  unfold mk_up
  by_cases z : b = j
  · subst z
    rw [if_pos rfl]
    exact ⟨fun _ => (hq _).mpr (Or.inr rfl), fun _ => rfl⟩
  · rw [if_neg z]
    exact (h b).trans ⟨fun y => (hq b).mpr (Or.inl y), fun y => ((hq b).mp y).elim id (fun y => absurd y.symm z)⟩
def swS (mt hl : Nat → Bool) (j : Nat) : Nat → Bool := fun b => if b < j then mt b && hl b else mt b
theorem swS_0 {mt hl : Nat → Bool} : swS mt hl 0 = mt := by
  funext b
  exact if_neg (Nat.not_lt_zero _)
theorem swS_j {mt hl : Nat → Bool} {j : Nat} : swS mt hl j j = mt j := if_neg (Nat.lt_irrefl _)
theorem swS_off {mt hl : Nat → Bool} {j : Nat} (h : hl j = false) : mk_up (swS mt hl j) j false = swS mt hl (j + 1) := by
  funext b
  unfold mk_up swS
  by_cases z : b = j
  · subst z
    rw [if_pos rfl, if_pos (Nat.lt_succ_self _), h, Bool.and_false]
  · rw [if_neg z]
    by_cases y : b < j
    · rw [if_pos y, if_pos (by omega)]
    · rw [if_neg y, if_neg (by omega)]
theorem swS_on {mt hl : Nat → Bool} {j : Nat} (h : mt j = false ∨ hl j = true) : swS mt hl j = swS mt hl (j + 1) := by
  funext b
  unfold swS
  by_cases z : b = j
  · subst z
    rw [if_neg (Nat.lt_irrefl _), if_pos (Nat.lt_succ_self _)]
    rcases h with h | h
    · rw [h]; rfl
    · rw [h, Bool.and_true]
  · by_cases y : b < j
    · rw [if_pos y, if_pos (by omega)]
    · rw [if_neg y, if_neg (by omega)]
theorem d_S_markHeldBlocks_0 : decode b_S_markHeldBlocks 0 = .ok (.aload_n 0, 1) := by decide +kernel
theorem d_S_markHeldBlocks_1 : decode b_S_markHeldBlocks 1 = .ok (.getfield 37, 3) := by decide +kernel
theorem d_S_markHeldBlocks_4 : decode b_S_markHeldBlocks 4 = .ok (.invokevirtual 231, 3) := by decide +kernel
theorem d_S_markHeldBlocks_7 : decode b_S_markHeldBlocks 7 = .ok (.iconst 0, 1) := by decide +kernel
theorem d_S_markHeldBlocks_8 : decode b_S_markHeldBlocks 8 = .ok (.istore_n 1, 1) := by decide +kernel
theorem d_S_markHeldBlocks_9 : decode b_S_markHeldBlocks 9 = .ok (.iload_n 1, 1) := by decide +kernel
theorem d_S_markHeldBlocks_10 : decode b_S_markHeldBlocks 10 = .ok (.aload_n 0, 1) := by decide +kernel
theorem d_S_markHeldBlocks_11 : decode b_S_markHeldBlocks 11 = .ok (.getfield 40, 3) := by decide +kernel
theorem d_S_markHeldBlocks_14 : decode b_S_markHeldBlocks 14 = .ok (.invokevirtual 123, 3) := by decide +kernel
theorem d_S_markHeldBlocks_17 : decode b_S_markHeldBlocks 17 = .ok (.if_icmp .gt 44, 3) := by decide +kernel
theorem d_S_markHeldBlocks_20 : decode b_S_markHeldBlocks 20 = .ok (.aload_n 0, 1) := by decide +kernel
theorem d_S_markHeldBlocks_21 : decode b_S_markHeldBlocks 21 = .ok (.iload_n 1, 1) := by decide +kernel
theorem d_S_markHeldBlocks_22 : decode b_S_markHeldBlocks 22 = .ok (.invokevirtual 104, 3) := by decide +kernel
theorem d_S_markHeldBlocks_25 : decode b_S_markHeldBlocks 25 = .ok (.istore_n 2, 1) := by decide +kernel
theorem d_S_markHeldBlocks_26 : decode b_S_markHeldBlocks 26 = .ok (.iconst 0, 1) := by decide +kernel
theorem d_S_markHeldBlocks_27 : decode b_S_markHeldBlocks 27 = .ok (.istore_n 3, 1) := by decide +kernel
theorem d_S_markHeldBlocks_28 : decode b_S_markHeldBlocks 28 = .ok (.iload_n 3, 1) := by decide +kernel
theorem d_S_markHeldBlocks_29 : decode b_S_markHeldBlocks 29 = .ok (.iload_n 2, 1) := by decide +kernel
theorem d_S_markHeldBlocks_30 : decode b_S_markHeldBlocks 30 = .ok (.if_icmp .ge 25, 3) := by decide +kernel
theorem d_S_markHeldBlocks_33 : decode b_S_markHeldBlocks 33 = .ok (.aload_n 0, 1) := by decide +kernel
theorem d_S_markHeldBlocks_34 : decode b_S_markHeldBlocks 34 = .ok (.getfield 37, 3) := by decide +kernel
theorem d_S_markHeldBlocks_37 : decode b_S_markHeldBlocks 37 = .ok (.aload_n 0, 1) := by decide +kernel
theorem d_S_markHeldBlocks_38 : decode b_S_markHeldBlocks 38 = .ok (.getfield 40, 3) := by decide +kernel
theorem d_S_markHeldBlocks_41 : decode b_S_markHeldBlocks 41 = .ok (.iload_n 1, 1) := by decide +kernel
theorem d_S_markHeldBlocks_42 : decode b_S_markHeldBlocks 42 = .ok (.iload_n 3, 1) := by decide +kernel
theorem d_S_markHeldBlocks_43 : decode b_S_markHeldBlocks 43 = .ok (.invokevirtual 107, 3) := by decide +kernel
theorem d_S_markHeldBlocks_46 : decode b_S_markHeldBlocks 46 = .ok (.invokevirtual 180, 3) := by decide +kernel
theorem d_S_markHeldBlocks_49 : decode b_S_markHeldBlocks 49 = .ok (.iinc 3 1, 3) := by decide +kernel
theorem d_S_markHeldBlocks_52 : decode b_S_markHeldBlocks 52 = .ok (.goto (-24), 3) := by decide +kernel
theorem d_S_markHeldBlocks_55 : decode b_S_markHeldBlocks 55 = .ok (.iinc 1 1, 3) := by decide +kernel
theorem d_S_markHeldBlocks_58 : decode b_S_markHeldBlocks 58 = .ok (.goto (-49), 3) := by decide +kernel
theorem d_S_markHeldBlocks_61 : decode b_S_markHeldBlocks 61 = .ok (.return_, 1) := by decide +kernel
set_option maxRecDepth 20000 in
set_option maxHeartbeats 4000000 in
theorem c_S_markHeldBlocks {D : va_G} {cI cZ cJ : ClassId} {ad : Nat → Nat} {mp : Nat} {lf : Nat → Int32} {n : Nat} {Pb : pc_C} {gt gp gh : Nat → Int32} {Pv : pc_C} {gd : Nat → Int32} {Pq : pc_C} {cr : Bool} {rest : va_W} {nb : Nat} {bl : Nat → Nat} {ba : Nat → Nat → Nat} {nv : Nat} {vl : Nat → Nat} {va : Nat → Nat → Nat} {md : Nat → Bool} {mh : Nat → Bool} (hRb : pc_R 600 25 Pb (nb, bl, ba)) (hRv : pc_R 104 13 Pv (nv, vl, va)) (hRd : mk_R 12 gd md) (hRh : mk_R 24 gh mh) (hvb : ∀ v k, v ≤ nv → k < vl v → va v k < nb) : bC D bcl (tys3 cI cZ cJ) y_S_markHeldBlocks ({ frames := 2, cells := 0, slots := 0, locals := 45 }) (wS ad cI cZ mp lf n Pb gt gp gh Pv gd Pq cr rest) [.ref (ad 0)] (bO (fun ws9 => ∃ (gh1 : Nat → Int32), mk_R 24 gh1 (hlB md vl va nv) ∧ ws9 = wS ad cI cZ mp lf n Pb gt gp gh1 Pv gd Pq cr rest) bno) := by
  have fb : nb < 25 := hRb.2.1
  have fv : nv < 13 := hRv.2.1
  refine bC.of (by decide) m_S_markHeldBlocks.1 (Nat.le_of_ble_eq_true rfl) ?_
  intro Γ G E0
  show bV D bcl Γ 4 (wS ad cI cZ mp lf n Pb gt gp gh Pv gd Pq cr rest) 0 0 0 [(0, .ref (ad 0))] []
  have inner : ∀ (d : Nat) (v k : Nat) (gz : Nat → Int32) (mz : Nat → Bool), (∀ (gz : Nat → Int32) (mz : Nat → Bool), mk_R 24 gz mz → (∀ b, mz b = true ↔ ∃ v0, v0 < v + 1 ∧ ∃ k, k < lenV md vl v0 ∧ va v0 k = b) → bV D bcl Γ 4 (wS ad cI cZ mp lf n Pb gt gp gz Pv gd Pq cr rest) 0 0 55 [(0, .ref (ad 0)), (1, .int (nI v))] []) → v ≤ nv → d + k = lenV md vl v → mk_R 24 gz mz → (∀ b, mz b = true ↔ (∃ v0, v0 < v ∧ ∃ k0, k0 < lenV md vl v0 ∧ va v0 k0 = b) ∨ ∃ k0, k0 < k ∧ va v k0 = b) → bV D bcl Γ 4 (wS ad cI cZ mp lf n Pb gt gp gz Pv gd Pq cr rest) 0 0 28 [(0, .ref (ad 0)), (1, .int (nI (v))), (2, .int (nI (lenV md vl v))), (3, .int (nI (k)))] [] := by
    intro d
    induction d with
    | zero =>
      intro v k gz mz cont hv hd hRz hm
      have hlv := lenV_le md vl v
      have hl9 : vl v ≤ 104 := pc_R_len (A := (nv, vl, va)) hRv hv
      refine bV.iload_n G d_S_markHeldBlocks_28 rfl ?_
      refine bV.iload_n G d_S_markHeldBlocks_29 rfl ?_
      refine bV.icmp_geN (tgt := 55) G d_S_markHeldBlocks_30 (by decide) (by omega) (by omega) (fun c30 => ?_) (fun c30 => ?_)
      · refine bV.ltake (lv' := [(0, .ref (ad 0)), (1, .int (nI (v)))]) (ex := [(2, .int (nI (lenV md vl v))), (3, .int (nI (k)))]) rfl ?_
        exact cont gz mz hRz (fun b => (hm b).trans ⟨fun z => z.elim (fun ⟨v0, z1, z2⟩ => ⟨v0, by omega, z2⟩) (fun ⟨k0, z1, z2⟩ => ⟨v, by omega, k0, by omega, z2⟩), fun ⟨v0, z1, k0, z2, z3⟩ => by rcases Nat.lt_or_ge v0 v with y | y; exact Or.inl ⟨v0, y, k0, z2, z3⟩; obtain rfl : v0 = v := (by omega); exact Or.inr ⟨k0, by omega, z3⟩⟩)
      · exfalso; omega
    | succ d ih =>
      intro v k gz mz cont hv hd hRz hm
      have hlv := lenV_le md vl v
      have hl9 : vl v ≤ 104 := pc_R_len (A := (nv, vl, va)) hRv hv
      refine bV.iload_n G d_S_markHeldBlocks_28 rfl ?_
      refine bV.iload_n G d_S_markHeldBlocks_29 rfl ?_
      refine bV.icmp_geN (tgt := 55) G d_S_markHeldBlocks_30 (by decide) (by omega) (by omega) (fun c30 => ?_) (fun c30 => ?_)
      · exfalso; omega
      · refine bV.aload_n G d_S_markHeldBlocks_33 rfl ?_
        refine bV.getf G cl_S 0 4 rfl (by decide) bw_77 rfl d_S_markHeldBlocks_34 ?_
        refine bV.aload_n G d_S_markHeldBlocks_37 rfl ?_
        refine bV.getf G cl_S 0 5 rfl (by decide) bw_78 rfl d_S_markHeldBlocks_38 ?_
        refine bV.iload_n G d_S_markHeldBlocks_41 rfl ?_
        refine bV.iload_n G d_S_markHeldBlocks_42 rfl ?_
        refine bV.callVi G m_P_at bw_221 bw_222 bw_322 (c_P_at wS_v hRv (j := v) (i := k) (by first | omega | exact Nat.le_refl _) (by omega)) 12 rfl rfl rfl rfl rfl ⟨by decide, by decide⟩ ⟨by decide, by decide⟩ (Nat.le_of_ble_eq_true rfl) d_S_markHeldBlocks_43 (fun x9 ws9 h9 => ?_)
        obtain ⟨rfl, h9e⟩ := h9
        rw [h9e]
        try dsimp only
        rw [if_pos (by show k < vl v; omega)]
        have hvk : va v k < nb := hvb v k (by omega) (by omega)
        refine bV.callVo G m_K_turnOn bw_258 bw_259 bw_257 (cS_h_turnOn (j := va v k) hRz (by omega)) 10 rfl rfl rfl rfl rfl ⟨by decide, by decide⟩ ⟨by decide, by decide⟩ (Nat.le_of_ble_eq_true rfl) d_S_markHeldBlocks_46 (fun ws9 h9 => ?_)
        obtain ⟨gh101, hRh102, h9e⟩ := h9
        rw [h9e]
        refine bV.iincN G (lv' := [(0, .ref (ad 0)), (1, .int (nI (v))), (2, .int (nI (lenV md vl v))), (3, .int (nI (k + 1)))]) d_S_markHeldBlocks_49 rfl (by decide) rfl rfl ?_
        refine bV.goto (tgt := 28) G d_S_markHeldBlocks_52 (by decide) ?_
        exact ih v (k + 1) gh101 (mk_up mz (va v k) true) cont hv (by omega) hRh102 (mk_up_iff hm (fun b => ⟨fun z => z.elim (fun y => Or.inl (Or.inl y)) (fun ⟨k0, z1, z2⟩ => by rcases Nat.lt_or_ge k0 k with y | y; exact Or.inl (Or.inr ⟨k0, y, z2⟩); obtain rfl : k0 = k := (by omega); exact Or.inr z2), fun z => z.elim (fun y => y.elim Or.inl (fun ⟨k0, z1, z2⟩ => Or.inr ⟨k0, by omega, z2⟩)) (fun y => Or.inr ⟨k, by omega, y⟩)⟩))
  have loop : ∀ (d : Nat) (v : Nat) (gz : Nat → Int32) (mz : Nat → Bool), d + v = nv + 1 → mk_R 24 gz mz → (∀ b, mz b = true ↔ ∃ v0, v0 < v ∧ ∃ k, k < lenV md vl v0 ∧ va v0 k = b) → bV D bcl Γ 4 (wS ad cI cZ mp lf n Pb gt gp gz Pv gd Pq cr rest) 0 0 9 [(0, .ref (ad 0)), (1, .int (nI (v)))] [] := by
    intro d
    induction d with
    | zero =>
      intro v gz mz hd hRz hm
      refine bV.iload_n G d_S_markHeldBlocks_9 rfl ?_
      refine bV.aload_n G d_S_markHeldBlocks_10 rfl ?_
      refine bV.getf G cl_S 0 5 rfl (by decide) bw_78 rfl d_S_markHeldBlocks_11 ?_
      refine bV.callVi G m_P_count bw_208 bw_209 bw_207 (c_P_count wS_v hRv) 12 rfl rfl rfl rfl rfl ⟨by decide, by decide⟩ ⟨by decide, by decide⟩ (Nat.le_of_ble_eq_true rfl) d_S_markHeldBlocks_14 (fun x9 ws9 h9 => ?_)
      obtain ⟨rfl, h9e⟩ := h9
      rw [h9e]
      try dsimp only
      refine bV.icmp_gtN (tgt := 61) G d_S_markHeldBlocks_17 (by decide) (by omega) (by omega) (fun c17 => ?_) (fun c17 => ?_)
      · exact bV.vretO G E0 rfl (by decide) (by decide) d_S_markHeldBlocks_61 ⟨gz, by rw [show hlB md vl va nv = mz from (dcd_fun (fun b => (hm b).trans ⟨fun ⟨v0, z1, z2⟩ => ⟨v0, by omega, z2⟩, fun ⟨v0, z1, z2⟩ => ⟨v0, by omega, z2⟩⟩)).symm]; exact hRz, rfl⟩
      · exfalso; omega
    | succ d ih =>
      intro v gz mz hd hRz hm
      refine bV.iload_n G d_S_markHeldBlocks_9 rfl ?_
      refine bV.aload_n G d_S_markHeldBlocks_10 rfl ?_
      refine bV.getf G cl_S 0 5 rfl (by decide) bw_78 rfl d_S_markHeldBlocks_11 ?_
      refine bV.callVi G m_P_count bw_208 bw_209 bw_207 (c_P_count wS_v hRv) 12 rfl rfl rfl rfl rfl ⟨by decide, by decide⟩ ⟨by decide, by decide⟩ (Nat.le_of_ble_eq_true rfl) d_S_markHeldBlocks_14 (fun x9 ws9 h9 => ?_)
      obtain ⟨rfl, h9e⟩ := h9
      rw [h9e]
      try dsimp only
      refine bV.icmp_gtN (tgt := 61) G d_S_markHeldBlocks_17 (by decide) (by omega) (by omega) (fun c17 => ?_) (fun c17 => ?_)
      · exfalso; omega
      · have hlv := lenV_le md vl v; have hl9 : vl v ≤ 104 := pc_R_len (A := (nv, vl, va)) hRv (by omega)
        refine bV.aload_n G d_S_markHeldBlocks_20 rfl ?_
        refine bV.iload_n G d_S_markHeldBlocks_21 rfl ?_
        refine bV.callVi G m_S_lengthOfVersion bw_319 bw_s9 bw_317 (c_S_lengthOfVersion hRv hRd (v := v) (by omega)) 0 rfl rfl rfl rfl rfl ⟨by decide, by decide⟩ ⟨by decide, by decide⟩ (Nat.le_of_ble_eq_true rfl) d_S_markHeldBlocks_22 (fun x9 ws9 h9 => ?_)
        obtain ⟨rfl, h9e⟩ := h9
        rw [h9e]
        try dsimp only
        refine bV.istore_n G (lv' := [(0, .ref (ad 0)), (1, .int (nI (v))), (2, .int (nI (lenV md vl v)))]) d_S_markHeldBlocks_25 (by decide) rfl rfl ?_
        refine bV.iconst (v := nI 0) G d_S_markHeldBlocks_26 (by decide) ?_
        refine bV.istore_n G (lv' := [(0, .ref (ad 0)), (1, .int (nI (v))), (2, .int (nI (lenV md vl v))), (3, .int (nI (0)))]) d_S_markHeldBlocks_27 (by decide) rfl rfl ?_
        refine inner (lenV md vl v) v 0 gz mz (fun gz mz hRz hm => ?_) (by omega) (by omega) hRz (fun b => (hm b).trans ⟨Or.inl, fun z => z.elim id (fun ⟨k0, z1, _⟩ => absurd z1 (Nat.not_lt_zero _))⟩)
        refine bV.iincN G (lv' := [(0, .ref (ad 0)), (1, .int (nI (v + 1)))]) d_S_markHeldBlocks_55 rfl (by decide) rfl rfl ?_
        refine bV.goto (tgt := 9) G d_S_markHeldBlocks_58 (by decide) ?_
        exact ih (v + 1) gz mz (by omega) hRz hm
  refine bV.aload_n G d_S_markHeldBlocks_0 rfl ?_
  refine bV.getf G cl_S 0 4 rfl (by decide) bw_77 rfl d_S_markHeldBlocks_1 ?_
  refine bV.callVo G m_K_clear bw_355 bw_356 bw_354 (cS_h_clear hRh) 10 rfl rfl rfl rfl rfl ⟨by decide, by decide⟩ ⟨by decide, by decide⟩ (Nat.le_of_ble_eq_true rfl) d_S_markHeldBlocks_4 (fun ws9 h9 => ?_)
  obtain ⟨gh1, hRh2, h9e⟩ := h9
  rw [h9e]
  refine bV.iconst (v := nI 0) G d_S_markHeldBlocks_7 (by decide) ?_
  refine bV.istore_n G (lv' := [(0, .ref (ad 0)), (1, .int (nI (0)))]) d_S_markHeldBlocks_8 (by decide) rfl rfl ?_
  exact loop (nv + 1) 0 gh1 (fun _ => false) (by omega) hRh2 (fun b => ⟨fun z => (by cases z), fun ⟨v0, z1, _⟩ => absurd z1 (Nat.not_lt_zero _)⟩)
theorem d_S_removeUnheldBlocks_0 : decode b_S_removeUnheldBlocks 0 = .ok (.aload_n 0, 1) := by decide +kernel
theorem d_S_removeUnheldBlocks_1 : decode b_S_removeUnheldBlocks 1 = .ok (.invokevirtual 225, 3) := by decide +kernel
theorem d_S_removeUnheldBlocks_4 : decode b_S_removeUnheldBlocks 4 = .ok (.iconst 0, 1) := by decide +kernel
theorem d_S_removeUnheldBlocks_5 : decode b_S_removeUnheldBlocks 5 = .ok (.istore_n 1, 1) := by decide +kernel
theorem d_S_removeUnheldBlocks_6 : decode b_S_removeUnheldBlocks 6 = .ok (.iconst 0, 1) := by decide +kernel
theorem d_S_removeUnheldBlocks_7 : decode b_S_removeUnheldBlocks 7 = .ok (.istore_n 2, 1) := by decide +kernel
theorem d_S_removeUnheldBlocks_8 : decode b_S_removeUnheldBlocks 8 = .ok (.iload_n 2, 1) := by decide +kernel
theorem d_S_removeUnheldBlocks_9 : decode b_S_removeUnheldBlocks 9 = .ok (.aload_n 0, 1) := by decide +kernel
theorem d_S_removeUnheldBlocks_10 : decode b_S_removeUnheldBlocks 10 = .ok (.getfield 21, 3) := by decide +kernel
theorem d_S_removeUnheldBlocks_13 : decode b_S_removeUnheldBlocks 13 = .ok (.invokevirtual 123, 3) := by decide +kernel
theorem d_S_removeUnheldBlocks_16 : decode b_S_removeUnheldBlocks 16 = .ok (.if_icmp .ge 42, 3) := by decide +kernel
theorem d_S_removeUnheldBlocks_19 : decode b_S_removeUnheldBlocks 19 = .ok (.aload_n 0, 1) := by decide +kernel
theorem d_S_removeUnheldBlocks_20 : decode b_S_removeUnheldBlocks 20 = .ok (.getfield 30, 3) := by decide +kernel
theorem d_S_removeUnheldBlocks_23 : decode b_S_removeUnheldBlocks 23 = .ok (.iload_n 2, 1) := by decide +kernel
theorem d_S_removeUnheldBlocks_24 : decode b_S_removeUnheldBlocks 24 = .ok (.invokevirtual 141, 3) := by decide +kernel
theorem d_S_removeUnheldBlocks_27 : decode b_S_removeUnheldBlocks 27 = .ok (.ifCond .eq 25, 3) := by decide +kernel
theorem d_S_removeUnheldBlocks_30 : decode b_S_removeUnheldBlocks 30 = .ok (.aload_n 0, 1) := by decide +kernel
theorem d_S_removeUnheldBlocks_31 : decode b_S_removeUnheldBlocks 31 = .ok (.getfield 37, 3) := by decide +kernel
theorem d_S_removeUnheldBlocks_34 : decode b_S_removeUnheldBlocks 34 = .ok (.iload_n 2, 1) := by decide +kernel
theorem d_S_removeUnheldBlocks_35 : decode b_S_removeUnheldBlocks 35 = .ok (.invokevirtual 141, 3) := by decide +kernel
theorem d_S_removeUnheldBlocks_38 : decode b_S_removeUnheldBlocks 38 = .ok (.ifCond .ne 14, 3) := by decide +kernel
theorem d_S_removeUnheldBlocks_41 : decode b_S_removeUnheldBlocks 41 = .ok (.aload_n 0, 1) := by decide +kernel
theorem d_S_removeUnheldBlocks_42 : decode b_S_removeUnheldBlocks 42 = .ok (.getfield 30, 3) := by decide +kernel
theorem d_S_removeUnheldBlocks_45 : decode b_S_removeUnheldBlocks 45 = .ok (.iload_n 2, 1) := by decide +kernel
theorem d_S_removeUnheldBlocks_46 : decode b_S_removeUnheldBlocks 46 = .ok (.invokevirtual 228, 3) := by decide +kernel
theorem d_S_removeUnheldBlocks_49 : decode b_S_removeUnheldBlocks 49 = .ok (.iinc 1 1, 3) := by decide +kernel
theorem d_S_removeUnheldBlocks_52 : decode b_S_removeUnheldBlocks 52 = .ok (.iinc 2 1, 3) := by decide +kernel
theorem d_S_removeUnheldBlocks_55 : decode b_S_removeUnheldBlocks 55 = .ok (.goto (-47), 3) := by decide +kernel
theorem d_S_removeUnheldBlocks_58 : decode b_S_removeUnheldBlocks 58 = .ok (.iload_n 1, 1) := by decide +kernel
theorem d_S_removeUnheldBlocks_59 : decode b_S_removeUnheldBlocks 59 = .ok (.ireturn, 1) := by decide +kernel
set_option maxRecDepth 20000 in
set_option maxHeartbeats 4000000 in
theorem c_S_removeUnheldBlocks {D : va_G} {cI cZ cJ : ClassId} {ad : Nat → Nat} {mp : Nat} {lf : Nat → Int32} {n : Nat} {Pb : pc_C} {gt gp gh : Nat → Int32} {Pv : pc_C} {gd : Nat → Int32} {Pq : pc_C} {cr : Bool} {rest : va_W} {nb : Nat} {bl : Nat → Nat} {ba : Nat → Nat → Nat} {mt : Nat → Bool} {nv : Nat} {vl : Nat → Nat} {va : Nat → Nat → Nat} {md : Nat → Bool} {mh : Nat → Bool} (hRb : pc_R 600 25 Pb (nb, bl, ba)) (hRt : mk_R 24 gt mt) (hRv : pc_R 104 13 Pv (nv, vl, va)) (hRd : mk_R 12 gd md) (hRh : mk_R 24 gh mh) (hvb : ∀ v k, v ≤ nv → k < vl v → va v k < nb) : bC D bcl (tys3 cI cZ cJ) y_S_removeUnheldBlocks ({ frames := 3, cells := 0, slots := 0, locals := 68 }) (wS ad cI cZ mp lf n Pb gt gp gh Pv gd Pq cr rest) [.ref (ad 0)] (bI (fun x ws9 => x = nI (cntU (fun b => mt b && !hlB md vl va nv b) nb) ∧ ∃ (gt1 gh1 : Nat → Int32), mk_R 24 gt1 (swS mt (hlB md vl va nv) nb) ∧ mk_R 24 gh1 (hlB md vl va nv) ∧ ws9 =  wS ad cI cZ mp lf n Pb gt1 gp gh1 Pv gd Pq cr rest) bno) := by
  have fb : nb < 25 := hRb.2.1
  have fv : nv < 13 := hRv.2.1
  refine bC.of (by decide) m_S_removeUnheldBlocks.1 (Nat.le_of_ble_eq_true rfl) ?_
  intro Γ G E0
  show bV D bcl Γ 3 (wS ad cI cZ mp lf n Pb gt gp gh Pv gd Pq cr rest) 0 0 0 [(0, .ref (ad 0))] []
  have loop : ∀ (d : Nat) (j : Nat) (gz gh1 : Nat → Int32), mk_R 24 gh1 (hlB md vl va nv) → d + j = nb → mk_R 24 gz (swS mt (hlB md vl va nv) j) → bV D bcl Γ 3 (wS ad cI cZ mp lf n Pb gz gp gh1 Pv gd Pq cr rest) 0 0 8 [(0, .ref (ad 0)), (1, .int (nI (cntU (fun b => mt b && !hlB md vl va nv b) j))), (2, .int (nI (j)))] [] := by
    intro d
    induction d with
    | zero =>
      intro j gz gh1 hRh1 hd hRz
      refine bV.iload_n G d_S_removeUnheldBlocks_8 rfl ?_
      refine bV.aload_n G d_S_removeUnheldBlocks_9 rfl ?_
      refine bV.getf G cl_S 0 1 rfl (by decide) bw_74 rfl d_S_removeUnheldBlocks_10 ?_
      refine bV.callVi G m_P_count bw_208 bw_209 bw_207 (c_P_count wS_b hRb) 3 rfl rfl rfl rfl rfl ⟨by decide, by decide⟩ ⟨by decide, by decide⟩ (Nat.le_of_ble_eq_true rfl) d_S_removeUnheldBlocks_13 (fun x9 ws9 h9 => ?_)
      obtain ⟨rfl, h9e⟩ := h9
      rw [h9e]
      try dsimp only
      refine bV.icmp_geN (tgt := 58) G d_S_removeUnheldBlocks_16 (by decide) (by omega) (by omega) (fun c16 => ?_) (fun c16 => ?_)
      · refine bV.iload_n G d_S_removeUnheldBlocks_58 rfl ?_
        exact bV.iretI G E0 rfl rfl (by decide) (by decide) d_S_removeUnheldBlocks_59 ⟨by rw [show j = nb by omega], gz, gh1, by rw [show nb = j by omega]; exact hRz, hRh1, rfl⟩
      · exfalso; omega
    | succ d ih =>
      intro j gz gh1 hRh1 hd hRz
      refine bV.iload_n G d_S_removeUnheldBlocks_8 rfl ?_
      refine bV.aload_n G d_S_removeUnheldBlocks_9 rfl ?_
      refine bV.getf G cl_S 0 1 rfl (by decide) bw_74 rfl d_S_removeUnheldBlocks_10 ?_
      refine bV.callVi G m_P_count bw_208 bw_209 bw_207 (c_P_count wS_b hRb) 3 rfl rfl rfl rfl rfl ⟨by decide, by decide⟩ ⟨by decide, by decide⟩ (Nat.le_of_ble_eq_true rfl) d_S_removeUnheldBlocks_13 (fun x9 ws9 h9 => ?_)
      obtain ⟨rfl, h9e⟩ := h9
      rw [h9e]
      try dsimp only
      refine bV.icmp_geN (tgt := 58) G d_S_removeUnheldBlocks_16 (by decide) (by omega) (by omega) (fun c16 => ?_) (fun c16 => ?_)
      · exfalso; omega
      · refine bV.aload_n G d_S_removeUnheldBlocks_19 rfl ?_
        refine bV.getf G cl_S 0 2 rfl (by decide) bw_75 rfl d_S_removeUnheldBlocks_20 ?_
        refine bV.iload_n G d_S_removeUnheldBlocks_23 rfl ?_
        refine bV.callVi G m_K_isOn bw_212 bw_213 bw_211 (c_K_isOn wS_t hRz (j := j) (by omega)) 6 rfl rfl rfl rfl rfl ⟨by decide, by decide⟩ ⟨by decide, by decide⟩ (Nat.le_of_ble_eq_true rfl) d_S_removeUnheldBlocks_24 (fun x9 ws9 h9 => ?_)
        obtain ⟨rfl, h9e⟩ := h9
        rw [h9e]
        try dsimp only
        rw [decide_eq_true (show j < 24 by omega), Bool.true_and]
        refine bV.if_eqB (tgt := 52) G d_S_removeUnheldBlocks_27 (by decide) (fun c27 => ?_) (fun c27 => ?_)
        · refine bV.iincN G (lv' := [(0, .ref (ad 0)), (1, .int (nI (cntU (fun b => mt b && !hlB md vl va nv b) j))), (2, .int (nI (j + 1)))]) d_S_removeUnheldBlocks_52 rfl (by decide) rfl rfl ?_
          refine bV.goto (tgt := 8) G d_S_removeUnheldBlocks_55 (by decide) ?_
          have hj0 : mt j = false ∨ hlB md vl va nv j = true := by first | exact Or.inr c38 | exact Or.inl (by rw [← swS_j (mt := mt) (hl := hlB md vl va nv)]; exact c27)
          have e := ih (j + 1) gz gh1 hRh1 (by omega) (by rw [← swS_on hj0]; exact hRz)
          rw [cntU_f (f := (fun b => mt b && !hlB md vl va nv b)) (show (mt j && !hlB md vl va nv j) = false by rcases hj0 with z | z <;> rw [z]; rfl; exact Bool.and_false _)] at e
          exact e
        · refine bV.aload_n G d_S_removeUnheldBlocks_30 rfl ?_
          refine bV.getf G cl_S 0 4 rfl (by decide) bw_77 rfl d_S_removeUnheldBlocks_31 ?_
          refine bV.iload_n G d_S_removeUnheldBlocks_34 rfl ?_
          refine bV.callVi G m_K_isOn bw_212 bw_213 bw_211 (c_K_isOn wS_h hRh1 (j := j) (by omega)) 10 rfl rfl rfl rfl rfl ⟨by decide, by decide⟩ ⟨by decide, by decide⟩ (Nat.le_of_ble_eq_true rfl) d_S_removeUnheldBlocks_35 (fun x9 ws9 h9 => ?_)
          obtain ⟨rfl, h9e⟩ := h9
          rw [h9e]
          try dsimp only
          rw [decide_eq_true (show j < 24 by omega), Bool.true_and]
          refine bV.if_neB (tgt := 52) G d_S_removeUnheldBlocks_38 (by decide) (fun c38 => ?_) (fun c38 => ?_)
          · refine bV.iincN G (lv' := [(0, .ref (ad 0)), (1, .int (nI (cntU (fun b => mt b && !hlB md vl va nv b) j))), (2, .int (nI (j + 1)))]) d_S_removeUnheldBlocks_52 rfl (by decide) rfl rfl ?_
            refine bV.goto (tgt := 8) G d_S_removeUnheldBlocks_55 (by decide) ?_
            have hj0 : mt j = false ∨ hlB md vl va nv j = true := by first | exact Or.inr c38 | exact Or.inl (by rw [← swS_j (mt := mt) (hl := hlB md vl va nv)]; exact c27)
            have e := ih (j + 1) gz gh1 hRh1 (by omega) (by rw [← swS_on hj0]; exact hRz)
            rw [cntU_f (f := (fun b => mt b && !hlB md vl va nv b)) (show (mt j && !hlB md vl va nv j) = false by rcases hj0 with z | z <;> rw [z]; rfl; exact Bool.and_false _)] at e
            exact e
          · refine bV.aload_n G d_S_removeUnheldBlocks_41 rfl ?_
            refine bV.getf G cl_S 0 2 rfl (by decide) bw_75 rfl d_S_removeUnheldBlocks_42 ?_
            refine bV.iload_n G d_S_removeUnheldBlocks_45 rfl ?_
            refine bV.callVo G m_K_turnOff bw_359 bw_360 bw_358 (cS_t_turnOff (j := j) hRz (by omega)) 6 rfl rfl rfl rfl rfl ⟨by decide, by decide⟩ ⟨by decide, by decide⟩ (Nat.le_of_ble_eq_true rfl) d_S_removeUnheldBlocks_46 (fun ws9 h9 => ?_)
            obtain ⟨gt101, hRt102, h9e⟩ := h9
            rw [h9e]
            refine bV.iincN G (lv' := [(0, .ref (ad 0)), (1, .int (nI ((cntU (fun b => mt b && !hlB md vl va nv b) j) + 1))), (2, .int (nI (j)))]) d_S_removeUnheldBlocks_49 rfl (by decide) rfl rfl ?_
            refine bV.iincN G (lv' := [(0, .ref (ad 0)), (1, .int (nI ((cntU (fun b => mt b && !hlB md vl va nv b) j) + 1))), (2, .int (nI (j + 1)))]) d_S_removeUnheldBlocks_52 rfl (by decide) rfl rfl ?_
            refine bV.goto (tgt := 8) G d_S_removeUnheldBlocks_55 (by decide) ?_
            have hj0 : mt j = true := by rw [← swS_j (mt := mt) (hl := hlB md vl va nv)]; exact c27
            have e := ih (j + 1) gt101 gh1 hRh1 (by omega) (by rw [← swS_off c38]; exact hRt102)
            rw [cntU_t (f := (fun b => mt b && !hlB md vl va nv b)) (show (mt j && !hlB md vl va nv j) = true by rw [hj0, c38]; rfl)] at e
            exact e
  refine bV.aload_n G d_S_removeUnheldBlocks_0 rfl ?_
  refine bV.callVo G m_S_markHeldBlocks bw_352 bw_s11 bw_350 (c_S_markHeldBlocks hRb hRv hRd hRh hvb) 0 rfl rfl rfl rfl rfl ⟨by decide, by decide⟩ ⟨by decide, by decide⟩ (Nat.le_of_ble_eq_true rfl) d_S_removeUnheldBlocks_1 (fun ws9 h9 => ?_)
  obtain ⟨gh1, hRh1, h9e⟩ := h9
  rw [h9e]
  refine bV.iconst (v := nI 0) G d_S_removeUnheldBlocks_4 (by decide) ?_
  refine bV.istore_n G (lv' := [(0, .ref (ad 0)), (1, .int (nI (0)))]) d_S_removeUnheldBlocks_5 (by decide) rfl rfl ?_
  refine bV.iconst (v := nI 0) G d_S_removeUnheldBlocks_6 (by decide) ?_
  refine bV.istore_n G (lv' := [(0, .ref (ad 0)), (1, .int (nI (0))), (2, .int (nI (0)))]) d_S_removeUnheldBlocks_7 (by decide) rfl rfl ?_
  exact loop nb 0 gt gh1 hRh1 (by omega) (by rw [swS_0]; exact hRt)
theorem d_S_forgetAllButLog_0 : decode b_S_forgetAllButLog 0 = .ok (.aload_n 0, 1) := by decide +kernel
theorem d_S_forgetAllButLog_1 : decode b_S_forgetAllButLog 1 = .ok (.getfield 21, 3) := by decide +kernel
theorem d_S_forgetAllButLog_4 : decode b_S_forgetAllButLog 4 = .ok (.invokevirtual 234, 3) := by decide +kernel
theorem d_S_forgetAllButLog_7 : decode b_S_forgetAllButLog 7 = .ok (.aload_n 0, 1) := by decide +kernel
theorem d_S_forgetAllButLog_8 : decode b_S_forgetAllButLog 8 = .ok (.getfield 30, 3) := by decide +kernel
theorem d_S_forgetAllButLog_11 : decode b_S_forgetAllButLog 11 = .ok (.invokevirtual 231, 3) := by decide +kernel
theorem d_S_forgetAllButLog_14 : decode b_S_forgetAllButLog 14 = .ok (.aload_n 0, 1) := by decide +kernel
theorem d_S_forgetAllButLog_15 : decode b_S_forgetAllButLog 15 = .ok (.getfield 34, 3) := by decide +kernel
theorem d_S_forgetAllButLog_18 : decode b_S_forgetAllButLog 18 = .ok (.invokevirtual 231, 3) := by decide +kernel
theorem d_S_forgetAllButLog_21 : decode b_S_forgetAllButLog 21 = .ok (.aload_n 0, 1) := by decide +kernel
theorem d_S_forgetAllButLog_22 : decode b_S_forgetAllButLog 22 = .ok (.getfield 40, 3) := by decide +kernel
theorem d_S_forgetAllButLog_25 : decode b_S_forgetAllButLog 25 = .ok (.invokevirtual 234, 3) := by decide +kernel
theorem d_S_forgetAllButLog_28 : decode b_S_forgetAllButLog 28 = .ok (.aload_n 0, 1) := by decide +kernel
theorem d_S_forgetAllButLog_29 : decode b_S_forgetAllButLog 29 = .ok (.getfield 43, 3) := by decide +kernel
theorem d_S_forgetAllButLog_32 : decode b_S_forgetAllButLog 32 = .ok (.invokevirtual 231, 3) := by decide +kernel
theorem d_S_forgetAllButLog_35 : decode b_S_forgetAllButLog 35 = .ok (.aload_n 0, 1) := by decide +kernel
theorem d_S_forgetAllButLog_36 : decode b_S_forgetAllButLog 36 = .ok (.getfield 55, 3) := by decide +kernel
theorem d_S_forgetAllButLog_39 : decode b_S_forgetAllButLog 39 = .ok (.invokevirtual 234, 3) := by decide +kernel
theorem d_S_forgetAllButLog_42 : decode b_S_forgetAllButLog 42 = .ok (.return_, 1) := by decide +kernel
set_option maxRecDepth 20000 in
set_option maxHeartbeats 4000000 in
theorem c_S_forgetAllButLog {D : va_G} {cI cZ cJ : ClassId} {ad : Nat → Nat} {mp : Nat} {lf : Nat → Int32} {n : Nat} {Pb : pc_C} {gt gp gh : Nat → Int32} {Pv : pc_C} {gd : Nat → Int32} {Pq : pc_C} {cr : Bool} {rest : va_W} {nb : Nat} {bl : Nat → Nat} {ba : Nat → Nat → Nat} {mt : Nat → Bool} {mk : Nat → Bool} {nv : Nat} {vl : Nat → Nat} {va : Nat → Nat → Nat} {md : Nat → Bool} {np : Nat} {ql : Nat → Nat} {qa : Nat → Nat → Nat} (hRb : pc_R 600 25 Pb (nb, bl, ba)) (hRt : mk_R 24 gt mt) (hRp : mk_R 24 gp mk) (hRv : pc_R 104 13 Pv (nv, vl, va)) (hRd : mk_R 12 gd md) (hRq : pc_R 664 (mp + 1) Pq (np, ql, qa))  : bC D bcl (tys3 cI cZ cJ) y_S_forgetAllButLog ({ frames := 1, cells := 0, slots := 0, locals := 21 }) (wS ad cI cZ mp lf n Pb gt gp gh Pv gd Pq cr rest) [.ref (ad 0)] (bO (fun ws9 => ∃ (Pb1 : pc_C) (gt1 gp1 : Nat → Int32) (Pv1 : pc_C) (gd1 : Nat → Int32) (Pq1 : pc_C), pc_R 600 25 Pb1 (0, (fun _ => 0), ba) ∧ mk_R 24 gt1 (fun _ => false) ∧ mk_R 24 gp1 (fun _ => false) ∧ pc_R 104 13 Pv1 (0, (fun _ => 0), va) ∧ mk_R 12 gd1 (fun _ => false) ∧ pc_R 664 (mp + 1) Pq1 (0, (fun _ => 0), qa) ∧ ws9 = wS ad cI cZ mp lf n Pb1 gt1 gp1 gh Pv1 gd1 Pq1 cr rest) bno) := by
  have fb : nb < 25 := hRb.2.1
  have fv : nv < 13 := hRv.2.1
  have fq : np < mp + 1 := hRq.2.1
  refine bC.of (by decide) m_S_forgetAllButLog.1 (Nat.le_of_ble_eq_true rfl) ?_
  intro Γ G E0
  show bV D bcl Γ 1 (wS ad cI cZ mp lf n Pb gt gp gh Pv gd Pq cr rest) 0 0 0 [(0, .ref (ad 0))] []
  refine bV.aload_n G d_S_forgetAllButLog_0 rfl ?_
  refine bV.getf G cl_S 0 1 rfl (by decide) bw_74 rfl d_S_forgetAllButLog_1 ?_
  refine bV.callVo G m_P_clear bw_442 bw_443 bw_441 (cS_b_clear hRb) 3 rfl rfl rfl rfl rfl ⟨by decide, by decide⟩ ⟨by decide, by decide⟩ (Nat.le_of_ble_eq_true rfl) d_S_forgetAllButLog_4 (fun ws9 h9 => ?_)
  obtain ⟨Pb1, hRb2, h9e⟩ := h9
  rw [h9e]
  try dsimp only at hRb2
  refine bV.aload_n G d_S_forgetAllButLog_7 rfl ?_
  refine bV.getf G cl_S 0 2 rfl (by decide) bw_75 rfl d_S_forgetAllButLog_8 ?_
  refine bV.callVo G m_K_clear bw_355 bw_356 bw_354 (cS_t_clear hRt) 6 rfl rfl rfl rfl rfl ⟨by decide, by decide⟩ ⟨by decide, by decide⟩ (Nat.le_of_ble_eq_true rfl) d_S_forgetAllButLog_11 (fun ws9 h9 => ?_)
  obtain ⟨gt3, hRt4, h9e⟩ := h9
  rw [h9e]
  refine bV.aload_n G d_S_forgetAllButLog_14 rfl ?_
  refine bV.getf G cl_S 0 3 rfl (by decide) bw_76 rfl d_S_forgetAllButLog_15 ?_
  refine bV.callVo G m_K_clear bw_355 bw_356 bw_354 (cS_p_clear hRp) 8 rfl rfl rfl rfl rfl ⟨by decide, by decide⟩ ⟨by decide, by decide⟩ (Nat.le_of_ble_eq_true rfl) d_S_forgetAllButLog_18 (fun ws9 h9 => ?_)
  obtain ⟨gp5, hRp6, h9e⟩ := h9
  rw [h9e]
  refine bV.aload_n G d_S_forgetAllButLog_21 rfl ?_
  refine bV.getf G cl_S 0 5 rfl (by decide) bw_78 rfl d_S_forgetAllButLog_22 ?_
  refine bV.callVo G m_P_clear bw_442 bw_443 bw_441 (cS_v_clear hRv) 12 rfl rfl rfl rfl rfl ⟨by decide, by decide⟩ ⟨by decide, by decide⟩ (Nat.le_of_ble_eq_true rfl) d_S_forgetAllButLog_25 (fun ws9 h9 => ?_)
  obtain ⟨Pv7, hRv8, h9e⟩ := h9
  rw [h9e]
  try dsimp only at hRv8
  refine bV.aload_n G d_S_forgetAllButLog_28 rfl ?_
  refine bV.getf G cl_S 0 6 rfl (by decide) bw_79 rfl d_S_forgetAllButLog_29 ?_
  refine bV.callVo G m_K_clear bw_355 bw_356 bw_354 (cS_d_clear hRd) 15 rfl rfl rfl rfl rfl ⟨by decide, by decide⟩ ⟨by decide, by decide⟩ (Nat.le_of_ble_eq_true rfl) d_S_forgetAllButLog_32 (fun ws9 h9 => ?_)
  obtain ⟨gd9, hRd10, h9e⟩ := h9
  rw [h9e]
  refine bV.aload_n G d_S_forgetAllButLog_35 rfl ?_
  refine bV.getf G cl_S 0 7 rfl (by decide) bw_80 rfl d_S_forgetAllButLog_36 ?_
  refine bV.callVo G m_P_clear bw_442 bw_443 bw_441 (cS_q_clear hRq) 17 rfl rfl rfl rfl rfl ⟨by decide, by decide⟩ ⟨by decide, by decide⟩ (Nat.le_of_ble_eq_true rfl) d_S_forgetAllButLog_39 (fun ws9 h9 => ?_)
  obtain ⟨Pq11, hRq12, h9e⟩ := h9
  rw [h9e]
  try dsimp only at hRq12
  exact bV.vretO G E0 rfl (by decide) (by decide) d_S_forgetAllButLog_42 ⟨Pb1, gt3, gp5, Pv7, gd9, Pq11, hRb2, hRt4, hRp6, hRv8, hRd10, hRq12, rfl⟩
end
section
/-! ===== the store: packs, public writes ===== -/
abbrev pkQ := (Nat → Nat) × (Nat → Nat → Nat)
def putS (np x : Nat) (Q : pkQ) : pkQ := (fup Q.1 np (Q.1 np + 1), fup2 Q.2 np (Q.1 np) x)
def putN (np : Nat) (f : Nat → Nat) (Q : pkQ) : Nat → pkQ
  | 0 => Q
  | k + 1 => putS np (f k) (putN np f Q k)
def putB (np j len : Nat) (f : Nat → Nat) (Q : pkQ) : pkQ := putN np f (putS np len (putS np j Q)) len
theorem pcS_put {b : Nat → Nat} {a : Nat} : pcS (fup b a (b a + 1)) (a + 1) = pcS b (a + 1) + 1 := by
  show pcS (fup b a (b a + 1)) a + fup b a (b a + 1) a = pcS b a + b a + 1
  rw [fup_s, pcS_congr (pl' := b) a (fun j hj => fup_n (by omega))]
  omega
theorem pcS_putS {np x : Nat} {Q : pkQ} : pcS (putS np x Q).1 (np + 1) = pcS Q.1 (np + 1) + 1 := pcS_put
theorem pcS_putN {np : Nat} {f : Nat → Nat} {Q : pkQ} : ∀ k, pcS (putN np f Q k).1 (np + 1) = pcS Q.1 (np + 1) + k := by
  intro k
  induction k with
  | zero => rfl
  | succ k ih => rw [show putN np f Q (k + 1) = putS np (f k) (putN np f Q k) from rfl, pcS_putS, ih]; omega
theorem pcS_putB {np j len : Nat} {f : Nat → Nat} {Q : pkQ} : pcS (putB np j len f Q).1 (np + 1) = pcS Q.1 (np + 1) + 2 + len := by
  unfold putB
  rw [pcS_putN, pcS_putS, pcS_putS]
def byteN (s : Int32) (i : Nat) : Nat := ((s).toUInt32 >>> ((nI (24 - 8 * i)).toUInt32 &&& Int32.toUInt32 31)).toInt32.toBitVec.toNat % 2 ^ 8
theorem byteS_N (s : Int32) (i : Nat) : byteS s i = nI (byteN s i) := pk_and _ 8 (by decide)
theorem byteN_lt (s : Int32) (i : Nat) : byteN s i < 256 := Nat.mod_lt _ (by decide)
theorem nI_xor (a b : Nat) : nI a ^^^ nI b = nI (a ^^^ b) := by
  apply Int32.toBitVec_inj.mp
  apply BitVec.eq_of_toNat_eq
  show (BitVec.ofNat 32 a ^^^ BitVec.ofNat 32 b).toNat = (BitVec.ofNat 32 (a ^^^ b)).toNat
  rw [BitVec.toNat_xor, BitVec.toNat_ofNat, BitVec.toNat_ofNat, BitVec.toNat_ofNat, Nat.xor_mod_two_pow]
def mkN (m : Int32) : Nat := m.toBitVec.toNat % 2 ^ 8
def pkX (x : Nat) (m : Int32) : Nat := x ^^^ mkN m
theorem pkX_e (x : Nat) (m : Int32) : nI x ^^^ (m &&& nI 255) = nI (pkX x m) := by
  rw [pk_and m 8 (by decide), nI_xor]; rfl
theorem pkX_lt {x : Nat} (h : x < 256) (m : Int32) : pkX x m < 256 := Nat.xor_lt_two_pow (n := 8) h (Nat.mod_lt _ (by decide))
theorem pkX_eq (x : Nat) (m : Int32) : pkX x m = x ↔ mkN m = 0 := by
  unfold pkX
  constructor
  · intro h
    have h2 : x ^^^ (x ^^^ mkN m) = x ^^^ x := by rw [h]
    rw [← Nat.xor_assoc, Nat.xor_self, Nat.zero_xor] at h2
    exact h2
  · intro h
    rw [h, Nat.xor_zero]
def pkA (mt mk : Nat → Bool) (bl : Nat → Nat) (ba : Nat → Nat → Nat) (np : Nat) (Q : pkQ) : Nat → pkQ
  | 0 => Q
  | j + 1 => if (mt j && !mk j) = true then putB np j (bl j) (ba j) (pkA mt mk bl ba np Q j) else pkA mt mk bl ba np Q j
theorem pkA_t {mt mk : Nat → Bool} {bl : Nat → Nat} {ba : Nat → Nat → Nat} {np : Nat} {Q : pkQ} {j : Nat} (h : (mt j && !mk j) = true) : pkA mt mk bl ba np Q (j + 1) = putB np j (bl j) (ba j) (pkA mt mk bl ba np Q j) := if_pos h
theorem pkA_f {mt mk : Nat → Bool} {bl : Nat → Nat} {ba : Nat → Nat → Nat} {np : Nat} {Q : pkQ} {j : Nat} (h : (mt j && !mk j) = false) : pkA mt mk bl ba np Q (j + 1) = pkA mt mk bl ba np Q j := if_neg (by rw [h]; decide)
def pkM (mt mk : Nat → Bool) (j : Nat) : Nat → Bool := fun b => mk b || (decide (b < j) && mt b)
theorem pkM_0 {mt mk : Nat → Bool} : pkM mt mk 0 = mk := by
  funext b
  unfold pkM
  rw [decide_eq_false (Nat.not_lt_zero _), Bool.false_and, Bool.or_false]
theorem pkM_j {mt mk : Nat → Bool} {j : Nat} : pkM mt mk j j = mk j := by
  unfold pkM
  rw [decide_eq_false (Nat.lt_irrefl _), Bool.false_and, Bool.or_false]
theorem pkM_t {mt mk : Nat → Bool} {j : Nat} (h : (mt j && !mk j) = true) : mk_up (pkM mt mk j) j true = pkM mt mk (j + 1) := by
  funext b
  unfold mk_up pkM
  by_cases z : b = j
  · subst z
    rw [if_pos rfl, decide_eq_true (Nat.lt_succ_self _), (Bool.and_eq_true_iff.mp h).1, Bool.and_true, Bool.or_true]
  · rw [if_neg z]
    by_cases y : b < j
    · rw [decide_eq_true y, decide_eq_true (show b < j + 1 by omega)]
    · rw [decide_eq_false y, decide_eq_false (show ¬ b < j + 1 by omega)]
theorem pkM_f {mt mk : Nat → Bool} {j : Nat} (h : (mt j && !mk j) = false) : pkM mt mk j = pkM mt mk (j + 1) := by
  funext b
  unfold pkM
  by_cases z : b = j
  · subst z
    rw [decide_eq_true (Nat.lt_succ_self _), decide_eq_false (Nat.lt_irrefl _)]
    cases e1 : mt b <;> cases e2 : mk b <;> rw [e1, e2] at h <;> first | rfl | exact absurd h (by decide)
  · by_cases y : b < j
    · rw [decide_eq_true y, decide_eq_true (show b < j + 1 by omega)]
    · rw [decide_eq_false y, decide_eq_false (show ¬ b < j + 1 by omega)]
theorem cntU_congr {f g : Nat → Bool} : ∀ n, (∀ b, b < n → f b = g b) → cntU f n = cntU g n := by
  intro n
  induction n with
  | zero => intro _; rfl
  | succ n ih =>
    intro h
    show cntU f n + (if f n = true then 1 else 0) = cntU g n + (if g n = true then 1 else 0)
    rw [ih (fun b hb => h b (by omega)), h n (by omega)]
theorem cntU_one {f g : Nat → Bool} {j : Nat} (hne : ∀ b, b ≠ j → f b = g b) (hf : f j = true) (hg : g j = false) : ∀ n, j < n → cntU f n = cntU g n + 1 := by
  intro n
  induction n with
  | zero => intro h; exact absurd h (Nat.not_lt_zero _)
  | succ n ih =>
    intro h
    rcases Nat.lt_or_ge j n with z | z
    · show cntU f n + (if f n = true then 1 else 0) = cntU g n + (if g n = true then 1 else 0) + 1
      rw [ih z, hne n (by omega)]; omega
    · obtain rfl : j = n := by omega
      rw [cntU_t hf, cntU_f hg, cntU_congr j (fun b hb => hne b (by omega))]
theorem pkM_cnt {mt mk : Nat → Bool} {j : Nat} (hj : j < 24) (h : (mt j && !mk j) = true) : cntU (fun b => !pkM mt mk j b) 24 = cntU (fun b => !pkM mt mk (j + 1) b) 24 + 1 := by
  have h2 := Bool.and_eq_true_iff.mp h
  refine cntU_one (j := j) (fun b hb => ?_) ?_ ?_ 24 hj
  · rw [← pkM_t h]; show _ = !(if b = j then true else pkM mt mk j b); rw [if_neg hb]
  · show (!pkM mt mk j j) = true; rw [pkM_j]; exact h2.2
  · rw [← pkM_t h]; show (!(if j = j then true else pkM mt mk j j)) = false; rw [if_pos rfl]; rfl
theorem kp_btw {v : Int32} {n : Nat} (h : 0 ≤ v ∧ v ≤ nI n) (hn : n < 2 ^ 31) : ∃ j : Nat, j ≤ n ∧ v = nI j := by
  obtain ⟨j, hj, rfl⟩ := nI_of (Int32.not_lt.mpr h.1)
  exact ⟨j, (nI_leI hj hn).mp h.2, rfl⟩
theorem d_S_addToOpenPack_0 : decode b_S_addToOpenPack 0 = .ok (.aload_n 0, 1) := by decide +kernel
theorem d_S_addToOpenPack_1 : decode b_S_addToOpenPack 1 = .ok (.getfield 21, 3) := by decide +kernel
theorem d_S_addToOpenPack_4 : decode b_S_addToOpenPack 4 = .ok (.iload_n 1, 1) := by decide +kernel
theorem d_S_addToOpenPack_5 : decode b_S_addToOpenPack 5 = .ok (.invokevirtual 110, 3) := by decide +kernel
theorem d_S_addToOpenPack_8 : decode b_S_addToOpenPack 8 = .ok (.istore_n 2, 1) := by decide +kernel
theorem d_S_addToOpenPack_9 : decode b_S_addToOpenPack 9 = .ok (.aload_n 0, 1) := by decide +kernel
theorem d_S_addToOpenPack_10 : decode b_S_addToOpenPack 10 = .ok (.getfield 55, 3) := by decide +kernel
theorem d_S_addToOpenPack_13 : decode b_S_addToOpenPack 13 = .ok (.iload_n 1, 1) := by decide +kernel
theorem d_S_addToOpenPack_14 : decode b_S_addToOpenPack 14 = .ok (.invokevirtual 69, 3) := by decide +kernel
theorem d_S_addToOpenPack_17 : decode b_S_addToOpenPack 17 = .ok (.aload_n 0, 1) := by decide +kernel
theorem d_S_addToOpenPack_18 : decode b_S_addToOpenPack 18 = .ok (.getfield 55, 3) := by decide +kernel
theorem d_S_addToOpenPack_21 : decode b_S_addToOpenPack 21 = .ok (.iload_n 2, 1) := by decide +kernel
theorem d_S_addToOpenPack_22 : decode b_S_addToOpenPack 22 = .ok (.invokevirtual 69, 3) := by decide +kernel
theorem d_S_addToOpenPack_25 : decode b_S_addToOpenPack 25 = .ok (.iconst 0, 1) := by decide +kernel
theorem d_S_addToOpenPack_26 : decode b_S_addToOpenPack 26 = .ok (.istore_n 3, 1) := by decide +kernel
theorem d_S_addToOpenPack_27 : decode b_S_addToOpenPack 27 = .ok (.iload_n 3, 1) := by decide +kernel
theorem d_S_addToOpenPack_28 : decode b_S_addToOpenPack 28 = .ok (.iload_n 2, 1) := by decide +kernel
theorem d_S_addToOpenPack_29 : decode b_S_addToOpenPack 29 = .ok (.if_icmp .ge 25, 3) := by decide +kernel
theorem d_S_addToOpenPack_32 : decode b_S_addToOpenPack 32 = .ok (.aload_n 0, 1) := by decide +kernel
theorem d_S_addToOpenPack_33 : decode b_S_addToOpenPack 33 = .ok (.getfield 55, 3) := by decide +kernel
theorem d_S_addToOpenPack_36 : decode b_S_addToOpenPack 36 = .ok (.aload_n 0, 1) := by decide +kernel
theorem d_S_addToOpenPack_37 : decode b_S_addToOpenPack 37 = .ok (.getfield 21, 3) := by decide +kernel
theorem d_S_addToOpenPack_40 : decode b_S_addToOpenPack 40 = .ok (.iload_n 1, 1) := by decide +kernel
theorem d_S_addToOpenPack_41 : decode b_S_addToOpenPack 41 = .ok (.iload_n 3, 1) := by decide +kernel
theorem d_S_addToOpenPack_42 : decode b_S_addToOpenPack 42 = .ok (.invokevirtual 107, 3) := by decide +kernel
theorem d_S_addToOpenPack_45 : decode b_S_addToOpenPack 45 = .ok (.invokevirtual 69, 3) := by decide +kernel
theorem d_S_addToOpenPack_48 : decode b_S_addToOpenPack 48 = .ok (.iinc 3 1, 3) := by decide +kernel
theorem d_S_addToOpenPack_51 : decode b_S_addToOpenPack 51 = .ok (.goto (-24), 3) := by decide +kernel
theorem d_S_addToOpenPack_54 : decode b_S_addToOpenPack 54 = .ok (.aload_n 0, 1) := by decide +kernel
theorem d_S_addToOpenPack_55 : decode b_S_addToOpenPack 55 = .ok (.getfield 34, 3) := by decide +kernel
theorem d_S_addToOpenPack_58 : decode b_S_addToOpenPack 58 = .ok (.iload_n 1, 1) := by decide +kernel
theorem d_S_addToOpenPack_59 : decode b_S_addToOpenPack 59 = .ok (.invokevirtual 180, 3) := by decide +kernel
theorem d_S_addToOpenPack_62 : decode b_S_addToOpenPack 62 = .ok (.return_, 1) := by decide +kernel
set_option maxRecDepth 20000 in
set_option maxHeartbeats 4000000 in
theorem c_S_addToOpenPack {D : va_G} {cI cZ cJ : ClassId} {ad : Nat → Nat} {mp : Nat} {lf : Nat → Int32} {n : Nat} {Pb : pc_C} {gt gp gh : Nat → Int32} {Pv : pc_C} {gd : Nat → Int32} {Pq : pc_C} {cr : Bool} {rest : va_W} {nb : Nat} {bl : Nat → Nat} {ba : Nat → Nat → Nat} {mk : Nat → Bool} {np : Nat} {ql : Nat → Nat} {qa : Nat → Nat → Nat} (hRb : pc_R 600 25 Pb (nb, bl, ba)) (hRp : mk_R 24 gp mk) (hRq : pc_R 664 (mp + 1) Pq (np, ql, qa)) {j : Nat} (hj : j < nb) (hr : pcS ql (np + 1) + 2 + bl j ≤ 664) : bC D bcl (tys3 cI cZ cJ) y_S_addToOpenPack ({ frames := 2, cells := 0, slots := 0, locals := 45 }) (wS ad cI cZ mp lf n Pb gt gp gh Pv gd Pq cr rest) [.ref (ad 0), .int (nI (j))] (bO (fun ws9 => ∃ (Pq1 : pc_C) (gp1 : Nat → Int32), pc_R 664 (mp + 1) Pq1 (np, (putB np j (bl j) (ba j) (ql, qa)).1, (putB np j (bl j) (ba j) (ql, qa)).2) ∧ mk_R 24 gp1 (mk_up mk j true) ∧ ws9 = wS ad cI cZ mp lf n Pb gt gp1 gh Pv gd Pq1 cr rest) bno) := by
  have fb : nb < 25 := hRb.2.1
  have fq : np < mp + 1 := hRq.2.1
  have hl9 : bl j ≤ 600 := pc_R_len (A := (nb, bl, ba)) hRb (Nat.le_of_lt hj)
  refine bC.of (by decide) m_S_addToOpenPack.1 (Nat.le_of_ble_eq_true rfl) ?_
  intro Γ G E0
  show bV D bcl Γ 4 (wS ad cI cZ mp lf n Pb gt gp gh Pv gd Pq cr rest) 0 0 0 [(0, .ref (ad 0)), (1, .int (nI (j)))] []
  have loop : ∀ (d : Nat) (k : Nat) (Pz : pc_C), d + k = bl j → pc_R 664 (mp + 1) Pz (np, (putN np (ba j) (putS np (bl j) (putS np j (ql, qa))) k).1, (putN np (ba j) (putS np (bl j) (putS np j (ql, qa))) k).2) → bV D bcl Γ 4 (wS ad cI cZ mp lf n Pb gt gp gh Pv gd Pz cr rest) 0 0 27 [(0, .ref (ad 0)), (1, .int (nI (j))), (2, .int (nI (bl j))), (3, .int (nI (k)))] [] := by
    intro d
    induction d with
    | zero =>
      intro k Pz hd hRz
      refine bV.iload_n G d_S_addToOpenPack_27 rfl ?_
      refine bV.iload_n G d_S_addToOpenPack_28 rfl ?_
      refine bV.icmp_geN (tgt := 54) G d_S_addToOpenPack_29 (by decide) (by omega) (by omega) (fun c29 => ?_) (fun c29 => ?_)
      · refine bV.aload_n G d_S_addToOpenPack_54 rfl ?_
        refine bV.getf G cl_S 0 3 rfl (by decide) bw_76 rfl d_S_addToOpenPack_55 ?_
        refine bV.iload_n G d_S_addToOpenPack_58 rfl ?_
        refine bV.callVo G m_K_turnOn bw_258 bw_259 bw_257 (cS_p_turnOn (j := j) hRp (by omega)) 8 rfl rfl rfl rfl rfl ⟨by decide, by decide⟩ ⟨by decide, by decide⟩ (Nat.le_of_ble_eq_true rfl) d_S_addToOpenPack_59 (fun ws9 h9 => ?_)
        obtain ⟨gp101, hRp102, h9e⟩ := h9
        rw [h9e]
        exact bV.vretO G E0 rfl (by decide) (by decide) d_S_addToOpenPack_62 ⟨Pz, gp101, by obtain rfl : k = bl j := (by omega); exact hRz, hRp102, rfl⟩
      · exfalso; omega
    | succ d ih =>
      intro k Pz hd hRz
      refine bV.iload_n G d_S_addToOpenPack_27 rfl ?_
      refine bV.iload_n G d_S_addToOpenPack_28 rfl ?_
      refine bV.icmp_geN (tgt := 54) G d_S_addToOpenPack_29 (by decide) (by omega) (by omega) (fun c29 => ?_) (fun c29 => ?_)
      · exfalso; omega
      · refine bV.aload_n G d_S_addToOpenPack_32 rfl ?_
        refine bV.getf G cl_S 0 7 rfl (by decide) bw_80 rfl d_S_addToOpenPack_33 ?_
        refine bV.aload_n G d_S_addToOpenPack_36 rfl ?_
        refine bV.getf G cl_S 0 1 rfl (by decide) bw_74 rfl d_S_addToOpenPack_37 ?_
        refine bV.iload_n G d_S_addToOpenPack_40 rfl ?_
        refine bV.iload_n G d_S_addToOpenPack_41 rfl ?_
        refine bV.callVi G m_P_at bw_221 bw_222 bw_322 (c_P_at wS_b hRb (j := j) (i := k) (by first | omega | exact Nat.le_refl _) (by omega)) 3 rfl rfl rfl rfl rfl ⟨by decide, by decide⟩ ⟨by decide, by decide⟩ (Nat.le_of_ble_eq_true rfl) d_S_addToOpenPack_42 (fun x9 ws9 h9 => ?_)
        obtain ⟨rfl, h9e⟩ := h9
        rw [h9e]
        try dsimp only
        rw [if_pos (by show k < bl j; omega)]
        have hval : ba j k < 2 ^ 31 := pc_R_val (A := (nb, bl, ba)) hRb (j := j) (i := k) (Nat.le_of_lt hj) (by show k < bl j; omega)
        refine bV.callVo G m_P_add bw_193 bw_194 bw_192 (cS_q_add (x := ba j k) hRz (by omega) (by dsimp only; rw [pcS_putN, pcS_putS, pcS_putS]; dsimp only; omega)) 17 rfl rfl rfl rfl rfl ⟨by decide, by decide⟩ ⟨by decide, by decide⟩ (Nat.le_of_ble_eq_true rfl) d_S_addToOpenPack_45 (fun ws9 h9 => ?_)
        obtain ⟨Pq101, hRq102, h9e⟩ := h9
        rw [h9e]
        try dsimp only at hRq102
        refine bV.iincN G (lv' := [(0, .ref (ad 0)), (1, .int (nI (j))), (2, .int (nI (bl j))), (3, .int (nI (k + 1)))]) d_S_addToOpenPack_48 rfl (by decide) rfl rfl ?_
        refine bV.goto (tgt := 27) G d_S_addToOpenPack_51 (by decide) ?_
        exact ih (k + 1) Pq101 (by omega) hRq102
  refine bV.aload_n G d_S_addToOpenPack_0 rfl ?_
  refine bV.getf G cl_S 0 1 rfl (by decide) bw_74 rfl d_S_addToOpenPack_1 ?_
  refine bV.iload_n G d_S_addToOpenPack_4 rfl ?_
  refine bV.callVi G m_P_length bw_189 bw_190 bw_321 (c_P_length wS_b hRb (j := j) (by first | omega | exact Nat.le_refl _)) 3 rfl rfl rfl rfl rfl ⟨by decide, by decide⟩ ⟨by decide, by decide⟩ (Nat.le_of_ble_eq_true rfl) d_S_addToOpenPack_5 (fun x9 ws9 h9 => ?_)
  obtain ⟨rfl, h9e⟩ := h9
  rw [h9e]
  try dsimp only
  refine bV.istore_n G (lv' := [(0, .ref (ad 0)), (1, .int (nI (j))), (2, .int (nI (bl j)))]) d_S_addToOpenPack_8 (by decide) rfl rfl ?_
  refine bV.aload_n G d_S_addToOpenPack_9 rfl ?_
  refine bV.getf G cl_S 0 7 rfl (by decide) bw_80 rfl d_S_addToOpenPack_10 ?_
  refine bV.iload_n G d_S_addToOpenPack_13 rfl ?_
  refine bV.callVo G m_P_add bw_193 bw_194 bw_192 (cS_q_add (x := j) hRq (by omega) (by dsimp only; omega)) 17 rfl rfl rfl rfl rfl ⟨by decide, by decide⟩ ⟨by decide, by decide⟩ (Nat.le_of_ble_eq_true rfl) d_S_addToOpenPack_14 (fun ws9 h9 => ?_)
  obtain ⟨Pq1, hRq2, h9e⟩ := h9
  rw [h9e]
  try dsimp only at hRq2
  refine bV.aload_n G d_S_addToOpenPack_17 rfl ?_
  refine bV.getf G cl_S 0 7 rfl (by decide) bw_80 rfl d_S_addToOpenPack_18 ?_
  refine bV.iload_n G d_S_addToOpenPack_21 rfl ?_
  refine bV.callVo G m_P_add bw_193 bw_194 bw_192 (cS_q_add (x := bl j) hRq2 (by omega) (by dsimp only; rw [pcS_put]; omega)) 17 rfl rfl rfl rfl rfl ⟨by decide, by decide⟩ ⟨by decide, by decide⟩ (Nat.le_of_ble_eq_true rfl) d_S_addToOpenPack_22 (fun ws9 h9 => ?_)
  obtain ⟨Pq3, hRq4, h9e⟩ := h9
  rw [h9e]
  try dsimp only at hRq4
  refine bV.iconst (v := nI 0) G d_S_addToOpenPack_25 (by decide) ?_
  refine bV.istore_n G (lv' := [(0, .ref (ad 0)), (1, .int (nI (j))), (2, .int (nI (bl j))), (3, .int (nI (0)))]) d_S_addToOpenPack_26 (by decide) rfl rfl ?_
  exact loop (bl j) 0 Pq3 (by omega) hRq4
theorem d_S_closePack_0 : decode b_S_closePack 0 = .ok (.aload_n 0, 1) := by decide +kernel
theorem d_S_closePack_1 : decode b_S_closePack 1 = .ok (.getfield 55, 3) := by decide +kernel
theorem d_S_closePack_4 : decode b_S_closePack 4 = .ok (.iconst 1, 1) := by decide +kernel
theorem d_S_closePack_5 : decode b_S_closePack 5 = .ok (.aload_n 0, 1) := by decide +kernel
theorem d_S_closePack_6 : decode b_S_closePack 6 = .ok (.getfield 55, 3) := by decide +kernel
theorem d_S_closePack_9 : decode b_S_closePack 9 = .ok (.invokevirtual 123, 3) := by decide +kernel
theorem d_S_closePack_12 : decode b_S_closePack 12 = .ok (.aload_n 0, 1) := by decide +kernel
theorem d_S_closePack_13 : decode b_S_closePack 13 = .ok (.getfield 55, 3) := by decide +kernel
theorem d_S_closePack_16 : decode b_S_closePack 16 = .ok (.invokevirtual 65, 3) := by decide +kernel
theorem d_S_closePack_19 : decode b_S_closePack 19 = .ok (.invokevirtual 113, 3) := by decide +kernel
theorem d_S_closePack_22 : decode b_S_closePack 22 = .ok (.istore_n 1, 1) := by decide +kernel
theorem d_S_closePack_23 : decode b_S_closePack 23 = .ok (.iconst 0, 1) := by decide +kernel
theorem d_S_closePack_24 : decode b_S_closePack 24 = .ok (.istore_n 2, 1) := by decide +kernel
theorem d_S_closePack_25 : decode b_S_closePack 25 = .ok (.iload_n 2, 1) := by decide +kernel
theorem d_S_closePack_26 : decode b_S_closePack 26 = .ok (.iconst 4, 1) := by decide +kernel
theorem d_S_closePack_27 : decode b_S_closePack 27 = .ok (.if_icmp .ge 21, 3) := by decide +kernel
theorem d_S_closePack_30 : decode b_S_closePack 30 = .ok (.aload_n 0, 1) := by decide +kernel
theorem d_S_closePack_31 : decode b_S_closePack 31 = .ok (.getfield 55, 3) := by decide +kernel
theorem d_S_closePack_34 : decode b_S_closePack 34 = .ok (.iload_n 1, 1) := by decide +kernel
theorem d_S_closePack_35 : decode b_S_closePack 35 = .ok (.iload_n 2, 1) := by decide +kernel
theorem d_S_closePack_36 : decode b_S_closePack 36 = .ok (.invokestatic 177, 3) := by decide +kernel
theorem d_S_closePack_39 : decode b_S_closePack 39 = .ok (.invokevirtual 69, 3) := by decide +kernel
theorem d_S_closePack_42 : decode b_S_closePack 42 = .ok (.iinc 2 1, 3) := by decide +kernel
theorem d_S_closePack_45 : decode b_S_closePack 45 = .ok (.goto (-20), 3) := by decide +kernel
theorem d_S_closePack_48 : decode b_S_closePack 48 = .ok (.aload_n 0, 1) := by decide +kernel
theorem d_S_closePack_49 : decode b_S_closePack 49 = .ok (.getfield 55, 3) := by decide +kernel
theorem d_S_closePack_52 : decode b_S_closePack 52 = .ok (.invokevirtual 91, 3) := by decide +kernel
theorem d_S_closePack_55 : decode b_S_closePack 55 = .ok (.pop, 1) := by decide +kernel
theorem d_S_closePack_56 : decode b_S_closePack 56 = .ok (.return_, 1) := by decide +kernel
set_option maxRecDepth 20000 in
set_option maxHeartbeats 4000000 in
theorem c_S_closePack {D : va_G} {cI cZ cJ : ClassId} {ad : Nat → Nat} {mp : Nat} {lf : Nat → Int32} {n : Nat} {Pb : pc_C} {gt gp gh : Nat → Int32} {Pv : pc_C} {gd : Nat → Int32} {Pq : pc_C} {cr : Bool} {rest : va_W} {np : Nat} {ql : Nat → Nat} {qa : Nat → Nat → Nat} (hRq : pc_R 664 (mp + 1) Pq (np, ql, qa)) (hm : mp ≤ 8) (hn : np < mp) (hr : pcS ql (np + 1) + 4 ≤ 664) : bC D bcl (tys3 cI cZ cJ) y_S_closePack ({ frames := 3, cells := 0, slots := 0, locals := 71 }) (wS ad cI cZ mp lf n Pb gt gp gh Pv gd Pq cr rest) [.ref (ad 0)] (bO (fun ws9 => ∃ Pq1 : pc_C, pc_R 664 (mp + 1) Pq1 (np + 1, fup ((putN np (byteN (sumS (((ql, qa)).2 np) (nI 1) (((ql, qa)).1 np))) ((ql, qa)) 4)).1 (np + 1) 0, ((putN np (byteN (sumS (((ql, qa)).2 np) (nI 1) (((ql, qa)).1 np))) ((ql, qa)) 4)).2) ∧ ws9 = wS ad cI cZ mp lf n Pb gt gp gh Pv gd Pq1 cr rest) bno) := by
  have fq : np < mp + 1 := hRq.2.1
  refine bC.of (by decide) m_S_closePack.1 (Nat.le_of_ble_eq_true rfl) ?_
  intro Γ G E0
  show bV D bcl Γ 3 (wS ad cI cZ mp lf n Pb gt gp gh Pv gd Pq cr rest) 0 0 0 [(0, .ref (ad 0))] []
  have loop : ∀ (d : Nat) (k : Nat) (Pz : pc_C), d + k = 4 → pc_R 664 (mp + 1) Pz (np, (putN np (byteN (sumS (qa np) (nI 1) (ql np))) (ql, qa) k).1, (putN np (byteN (sumS (qa np) (nI 1) (ql np))) (ql, qa) k).2) → bV D bcl Γ 3 (wS ad cI cZ mp lf n Pb gt gp gh Pv gd Pz cr rest) 0 0 25 [(0, .ref (ad 0)), (1, .int (sumS (qa np) (nI 1) (ql np))), (2, .int (nI (k)))] [] := by
    intro d
    induction d with
    | zero =>
      intro k Pz hd hRz
      refine bV.iload_n G d_S_closePack_25 rfl ?_
      refine bV.iconst (v := nI 4) G d_S_closePack_26 (by decide) ?_
      refine bV.icmp_geN (tgt := 48) G d_S_closePack_27 (by decide) (by omega) (by omega) (fun c27 => ?_) (fun c27 => ?_)
      · refine bV.aload_n G d_S_closePack_48 rfl ?_
        refine bV.getf G cl_S 0 7 rfl (by decide) bw_80 rfl d_S_closePack_49 ?_
        refine bV.callVi G m_P_close bw_254 bw_255 bw_253 (cS_q_close hRz (by dsimp only; omega)) 17 rfl rfl rfl rfl rfl ⟨by decide, by decide⟩ ⟨by decide, by decide⟩ (Nat.le_of_ble_eq_true rfl) d_S_closePack_52 (fun x9 ws9 h9 => ?_)
        obtain ⟨rfl, Pq101, hRq102, h9e⟩ := h9
        rw [h9e]
        try dsimp only at hRq102
        try dsimp only
        refine bV.pop G d_S_closePack_55 rfl ?_
        exact bV.vretO G E0 rfl (by decide) (by decide) d_S_closePack_56 ⟨Pq101, by obtain rfl : k = 4 := (by omega); exact hRq102, rfl⟩
      · exfalso; omega
    | succ d ih =>
      intro k Pz hd hRz
      refine bV.iload_n G d_S_closePack_25 rfl ?_
      refine bV.iconst (v := nI 4) G d_S_closePack_26 (by decide) ?_
      refine bV.icmp_geN (tgt := 48) G d_S_closePack_27 (by decide) (by omega) (by omega) (fun c27 => ?_) (fun c27 => ?_)
      · exfalso; omega
      · refine bV.aload_n G d_S_closePack_30 rfl ?_
        refine bV.getf G cl_S 0 7 rfl (by decide) bw_80 rfl d_S_closePack_31 ?_
        refine bV.iload_n G d_S_closePack_34 rfl ?_
        refine bV.iload_n G d_S_closePack_35 rfl ?_
        refine bV.callSi G m_S_byteOfSum bw_386 bw_385 (c_S_byteOfSum (s := sumS (qa np) (nI 1) (ql np)) (i := k) (by omega)) rfl rfl ⟨by decide, by decide⟩ ⟨by decide, by decide⟩ (Nat.le_of_ble_eq_true rfl) d_S_closePack_36 (fun x9 ws9 h9 => ?_)
        obtain ⟨rfl, h9e⟩ := h9
        rw [h9e]
        try dsimp only
        rw [byteS_N]
        have hbyn := byteN_lt (sumS (qa np) (nI 1) (ql np)) k
        refine bV.callVo G m_P_add bw_193 bw_194 bw_192 (cS_q_add (x := byteN (sumS (qa np) (nI 1) (ql np)) k) hRz (by omega) (by dsimp only; rw [pcS_putN]; dsimp only; omega)) 17 rfl rfl rfl rfl rfl ⟨by decide, by decide⟩ ⟨by decide, by decide⟩ (Nat.le_of_ble_eq_true rfl) d_S_closePack_39 (fun ws9 h9 => ?_)
        obtain ⟨Pq101, hRq102, h9e⟩ := h9
        rw [h9e]
        try dsimp only at hRq102
        refine bV.iincN G (lv' := [(0, .ref (ad 0)), (1, .int (sumS (qa np) (nI 1) (ql np))), (2, .int (nI (k + 1)))]) d_S_closePack_42 rfl (by decide) rfl rfl ?_
        refine bV.goto (tgt := 25) G d_S_closePack_45 (by decide) ?_
        exact ih (k + 1) Pq101 (by omega) hRq102
  refine bV.aload_n G d_S_closePack_0 rfl ?_
  refine bV.getf G cl_S 0 7 rfl (by decide) bw_80 rfl d_S_closePack_1 ?_
  refine bV.iconst (v := nI 1) G d_S_closePack_4 (by decide) ?_
  refine bV.aload_n G d_S_closePack_5 rfl ?_
  refine bV.getf G cl_S 0 7 rfl (by decide) bw_80 rfl d_S_closePack_6 ?_
  refine bV.callVi G m_P_count bw_208 bw_209 bw_207 (c_P_count wS_q hRq) 17 rfl rfl rfl rfl rfl ⟨by decide, by decide⟩ ⟨by decide, by decide⟩ (Nat.le_of_ble_eq_true rfl) d_S_closePack_9 (fun x9 ws9 h9 => ?_)
  obtain ⟨rfl, h9e⟩ := h9
  rw [h9e]
  try dsimp only
  refine bV.aload_n G d_S_closePack_12 rfl ?_
  refine bV.getf G cl_S 0 7 rfl (by decide) bw_80 rfl d_S_closePack_13 ?_
  refine bV.callVi G m_P_openLength bw_185 bw_186 bw_184 (c_P_openLength wS_q hRq) 17 rfl rfl rfl rfl rfl ⟨by decide, by decide⟩ ⟨by decide, by decide⟩ (Nat.le_of_ble_eq_true rfl) d_S_closePack_16 (fun x9 ws9 h9 => ?_)
  obtain ⟨rfl, h9e⟩ := h9
  rw [h9e]
  try dsimp only
  have hl9 : ql np ≤ 664 := pc_R_len (A := (np, ql, qa)) hRq (Nat.le_refl _)
  refine bV.callVi G m_P_sum bw_331 bw_332 bw_330 (c_P_sum wS_q hRq (s0 := nI 1) (j := np) (len := ql np) (by first | omega | exact Nat.le_refl _) (by first | omega | exact Nat.le_refl _ | (dsimp only; omega))) 17 rfl rfl rfl rfl rfl ⟨by decide, by decide⟩ ⟨by decide, by decide⟩ (Nat.le_of_ble_eq_true rfl) d_S_closePack_19 (fun x9 ws9 h9 => ?_)
  obtain ⟨rfl, h9e⟩ := h9
  rw [h9e]
  try dsimp only
  refine bV.istore_n G (lv' := [(0, .ref (ad 0)), (1, .int (sumS (qa np) (nI 1) (ql np)))]) d_S_closePack_22 (by decide) rfl rfl ?_
  refine bV.iconst (v := nI 0) G d_S_closePack_23 (by decide) ?_
  refine bV.istore_n G (lv' := [(0, .ref (ad 0)), (1, .int (sumS (qa np) (nI 1) (ql np))), (2, .int (nI (0)))]) d_S_closePack_24 (by decide) rfl rfl ?_
  exact loop 4 0 Pq (by omega) hRq
theorem d_S_pack_0 : decode b_S_pack 0 = .ok (.aload_n 0, 1) := by decide +kernel
theorem d_S_pack_1 : decode b_S_pack 1 = .ok (.invokevirtual 62, 3) := by decide +kernel
theorem d_S_pack_4 : decode b_S_pack 4 = .ok (.aload_n 0, 1) := by decide +kernel
theorem d_S_pack_5 : decode b_S_pack 5 = .ok (.invokevirtual 120, 3) := by decide +kernel
theorem d_S_pack_8 : decode b_S_pack 8 = .ok (.istore_n 1, 1) := by decide +kernel
theorem d_S_pack_9 : decode b_S_pack 9 = .ok (.iload_n 1, 1) := by decide +kernel
theorem d_S_pack_10 : decode b_S_pack 10 = .ok (.ifCond .eq 13, 3) := by decide +kernel
theorem d_S_pack_13 : decode b_S_pack 13 = .ok (.aload_n 0, 1) := by decide +kernel
theorem d_S_pack_14 : decode b_S_pack 14 = .ok (.getfield 55, 3) := by decide +kernel
theorem d_S_pack_17 : decode b_S_pack 17 = .ok (.invokevirtual 82, 3) := by decide +kernel
theorem d_S_pack_20 : decode b_S_pack 20 = .ok (.ifCond .eq 5, 3) := by decide +kernel
theorem d_S_pack_23 : decode b_S_pack 23 = .ok (.iconst (-1), 1) := by decide +kernel
theorem d_S_pack_24 : decode b_S_pack 24 = .ok (.ireturn, 1) := by decide +kernel
theorem d_S_pack_25 : decode b_S_pack 25 = .ok (.aload_n 0, 1) := by decide +kernel
theorem d_S_pack_26 : decode b_S_pack 26 = .ok (.getfield 55, 3) := by decide +kernel
theorem d_S_pack_29 : decode b_S_pack 29 = .ok (.iload_n 1, 1) := by decide +kernel
theorem d_S_pack_30 : decode b_S_pack 30 = .ok (.invokevirtual 69, 3) := by decide +kernel
theorem d_S_pack_33 : decode b_S_pack 33 = .ok (.iconst 0, 1) := by decide +kernel
theorem d_S_pack_34 : decode b_S_pack 34 = .ok (.istore_n 2, 1) := by decide +kernel
theorem d_S_pack_35 : decode b_S_pack 35 = .ok (.iload_n 2, 1) := by decide +kernel
theorem d_S_pack_36 : decode b_S_pack 36 = .ok (.aload_n 0, 1) := by decide +kernel
theorem d_S_pack_37 : decode b_S_pack 37 = .ok (.getfield 21, 3) := by decide +kernel
theorem d_S_pack_40 : decode b_S_pack 40 = .ok (.invokevirtual 123, 3) := by decide +kernel
theorem d_S_pack_43 : decode b_S_pack 43 = .ok (.if_icmp .ge 22, 3) := by decide +kernel
theorem d_S_pack_46 : decode b_S_pack 46 = .ok (.aload_n 0, 1) := by decide +kernel
theorem d_S_pack_47 : decode b_S_pack 47 = .ok (.iload_n 2, 1) := by decide +kernel
theorem d_S_pack_48 : decode b_S_pack 48 = .ok (.invokevirtual 126, 3) := by decide +kernel
theorem d_S_pack_51 : decode b_S_pack 51 = .ok (.ifCond .eq 8, 3) := by decide +kernel
theorem d_S_pack_54 : decode b_S_pack 54 = .ok (.aload_n 0, 1) := by decide +kernel
theorem d_S_pack_55 : decode b_S_pack 55 = .ok (.iload_n 2, 1) := by decide +kernel
theorem d_S_pack_56 : decode b_S_pack 56 = .ok (.invokevirtual 129, 3) := by decide +kernel
theorem d_S_pack_59 : decode b_S_pack 59 = .ok (.iinc 2 1, 3) := by decide +kernel
theorem d_S_pack_62 : decode b_S_pack 62 = .ok (.goto (-27), 3) := by decide +kernel
theorem d_S_pack_65 : decode b_S_pack 65 = .ok (.aload_n 0, 1) := by decide +kernel
theorem d_S_pack_66 : decode b_S_pack 66 = .ok (.invokevirtual 132, 3) := by decide +kernel
theorem d_S_pack_69 : decode b_S_pack 69 = .ok (.aload_n 0, 1) := by decide +kernel
theorem d_S_pack_70 : decode b_S_pack 70 = .ok (.getfield 55, 3) := by decide +kernel
theorem d_S_pack_73 : decode b_S_pack 73 = .ok (.invokevirtual 135, 3) := by decide +kernel
theorem d_S_pack_76 : decode b_S_pack 76 = .ok (.ireturn, 1) := by decide +kernel
set_option maxRecDepth 20000 in
set_option maxHeartbeats 4000000 in
theorem c_S_pack {D : va_G} {cI cZ cJ : ClassId} {ad : Nat → Nat} {mp : Nat} {lf : Nat → Int32} {n : Nat} {Pb : pc_C} {gt gp gh : Nat → Int32} {Pv : pc_C} {gd : Nat → Int32} {Pq : pc_C} {cr : Bool} {rest : va_W} {nb : Nat} {bl : Nat → Nat} {ba : Nat → Nat → Nat} {mt : Nat → Bool} {mk : Nat → Bool} {np : Nat} {ql : Nat → Nat} {qa : Nat → Nat → Nat} (hRb : pc_R 600 25 Pb (nb, bl, ba)) (hRt : mk_R 24 gt mt) (hRp : mk_R 24 gp mk) (hRq : pc_R 664 (mp + 1) Pq (np, ql, qa)) (hm : mp ≤ 8) (hb24 : ∀ j, j < nb → bl j ≤ 24) (hcap : np < mp → pcS ql (np + 1) + 5 + 26 * cntU (fun b => !mk b) 24 ≤ 664) : bC D bcl (tys3 cI cZ cJ) y_S_pack ({ frames := 7, cells := 1, slots := 6, locals := 104 }) (wS ad cI cZ mp lf n Pb gt gp gh Pv gd Pq cr rest) [.ref (ad 0)] (bI (fun x ws9 => cr = false ∧ (((cntU (unp mt mk) nb = 0 ∨ np = mp) ∧ x = -1 ∧ ws9 = wS ad cI cZ mp lf n Pb gt gp gh Pv gd Pq cr rest) ∨ ((cntU (unp mt mk) nb ≠ 0 ∧ np < mp) ∧ x = nI (mp - (np + 1)) ∧ ∃ (gp1 : Nat → Int32) (Pq1 : pc_C), mk_R 24 gp1 (pkM mt mk nb) ∧ pc_R 664 (mp + 1) Pq1 (np + 1, fup ((putN np (byteN (sumS (((pkA mt mk bl ba np (putS np (cntU (unp mt mk) nb) (ql, qa)) nb)).2 np) (nI 1) (((pkA mt mk bl ba np (putS np (cntU (unp mt mk) nb) (ql, qa)) nb)).1 np))) ((pkA mt mk bl ba np (putS np (cntU (unp mt mk) nb) (ql, qa)) nb)) 4)).1 (np + 1) 0, ((putN np (byteN (sumS (((pkA mt mk bl ba np (putS np (cntU (unp mt mk) nb) (ql, qa)) nb)).2 np) (nI 1) (((pkA mt mk bl ba np (putS np (cntU (unp mt mk) nb) (ql, qa)) nb)).1 np))) ((pkA mt mk bl ba np (putS np (cntU (unp mt mk) nb) (ql, qa)) nb)) 4)).2) ∧ ws9 = wS ad cI cZ mp lf n Pb gt gp1 gh Pv gd Pq1 cr rest))) (fun E ws9 => cr = true ∧ E = "java/lang/IllegalStateException" ∧ ws9 = wS ad cI cZ mp lf n Pb gt gp gh Pv gd Pq cr rest)) := by
  have fb : nb < 25 := hRb.2.1
  have fq : np < mp + 1 := hRq.2.1
  have hcu := cntU_le (f := unp mt mk) nb
  refine bC.of (by decide) m_S_pack.1 (Nat.le_of_ble_eq_true rfl) ?_
  intro Γ G E0
  show bV D bcl Γ 3 (wS ad cI cZ mp lf n Pb gt gp gh Pv gd Pq cr rest) 0 0 0 [(0, .ref (ad 0))] []
  have loop : ∀ (d : Nat) (j : Nat) (Pz : pc_C) (gz : Nat → Int32), cr = false → cntU (unp mt mk) nb ≠ 0 → ¬ np + 1 = mp + 1 → d + j = nb → pc_R 664 (mp + 1) Pz (np, (pkA mt mk bl ba np (putS np (cntU (unp mt mk) nb) (ql, qa)) j).1, (pkA mt mk bl ba np (putS np (cntU (unp mt mk) nb) (ql, qa)) j).2) → mk_R 24 gz (pkM mt mk j) → pcS (pkA mt mk bl ba np (putS np (cntU (unp mt mk) nb) (ql, qa)) j).1 (np + 1) + 4 + 26 * cntU (fun b => !pkM mt mk j b) 24 ≤ 664 → bV D bcl Γ 3 (wS ad cI cZ mp lf n Pb gt gz gh Pv gd Pz cr rest) 1 6 35 [(0, .ref (ad 0)), (1, .int (nI (cntU (unp mt mk) nb))), (2, .int (nI (j)))] [] := by
    intro d
    induction d with
    | zero =>
      intro j Pz gz hg1 c10 c20 hd hRz hRy hcp
      refine bV.iload_n G d_S_pack_35 rfl ?_
      refine bV.aload_n G d_S_pack_36 rfl ?_
      refine bV.getf G cl_S 0 1 rfl (by decide) bw_74 rfl d_S_pack_37 ?_
      refine bV.callVi G m_P_count bw_208 bw_209 bw_207 (c_P_count wS_b hRb) 3 rfl rfl rfl rfl rfl ⟨by decide, by decide⟩ ⟨by decide, by decide⟩ (Nat.le_of_ble_eq_true rfl) d_S_pack_40 (fun x9 ws9 h9 => ?_)
      obtain ⟨rfl, h9e⟩ := h9
      rw [h9e]
      try dsimp only
      refine bV.icmp_geN (tgt := 65) G d_S_pack_43 (by decide) (by omega) (by omega) (fun c43 => ?_) (fun c43 => ?_)
      · obtain rfl : nb = j := by omega
        have hroom4 : pcS (pkA mt mk bl ba np (putS np (cntU (unp mt mk) nb) (ql, qa)) nb).1 (np + 1) + 4 ≤ 664 := by omega
        refine bV.aload_n G d_S_pack_65 rfl ?_
        refine bV.callVo G m_S_closePack bw_383 bw_s15 bw_381 (c_S_closePack hRz hm (by omega) hroom4) 0 rfl rfl rfl rfl rfl ⟨by decide, by decide⟩ ⟨by decide, by decide⟩ (Nat.le_of_ble_eq_true rfl) d_S_pack_66 (fun ws9 h9 => ?_)
        obtain ⟨Pq2, hRq2, h9e⟩ := h9
        rw [h9e]
        refine bV.aload_n G d_S_pack_69 rfl ?_
        refine bV.getf G cl_S 0 7 rfl (by decide) bw_80 rfl d_S_pack_70 ?_
        refine bV.callVi G m_P_stillFree bw_237 bw_238 bw_388 (c_P_stillFree wS_q hRq2) 17 rfl rfl rfl rfl rfl ⟨by decide, by decide⟩ ⟨by decide, by decide⟩ (Nat.le_of_ble_eq_true rfl) d_S_pack_73 (fun x9 ws9 h9 => ?_)
        obtain ⟨rfl, h9e⟩ := h9
        rw [h9e]
        try dsimp only
        exact bV.iretI G E0 rfl rfl (by decide) (by decide) d_S_pack_76 ⟨hg1, Or.inr ⟨⟨c10, by omega⟩, congrArg nI (by omega), gz, Pq2, hRy, hRq2, rfl⟩⟩
      · exfalso; omega
    | succ d ih =>
      intro j Pz gz hg1 c10 c20 hd hRz hRy hcp
      refine bV.iload_n G d_S_pack_35 rfl ?_
      refine bV.aload_n G d_S_pack_36 rfl ?_
      refine bV.getf G cl_S 0 1 rfl (by decide) bw_74 rfl d_S_pack_37 ?_
      refine bV.callVi G m_P_count bw_208 bw_209 bw_207 (c_P_count wS_b hRb) 3 rfl rfl rfl rfl rfl ⟨by decide, by decide⟩ ⟨by decide, by decide⟩ (Nat.le_of_ble_eq_true rfl) d_S_pack_40 (fun x9 ws9 h9 => ?_)
      obtain ⟨rfl, h9e⟩ := h9
      rw [h9e]
      try dsimp only
      refine bV.icmp_geN (tgt := 65) G d_S_pack_43 (by decide) (by omega) (by omega) (fun c43 => ?_) (fun c43 => ?_)
      · exfalso; omega
      · refine bV.aload_n G d_S_pack_46 rfl ?_
        refine bV.iload_n G d_S_pack_47 rfl ?_
        refine bV.callVi G m_S_isUnpacked bw_375 bw_s13 bw_373 (c_S_isUnpacked hRt hRy (j := j) (by omega)) 0 rfl rfl rfl rfl rfl ⟨by decide, by decide⟩ ⟨by decide, by decide⟩ (Nat.le_of_ble_eq_true rfl) d_S_pack_48 (fun x9 ws9 h9 => ?_)
        obtain ⟨rfl, h9e⟩ := h9
        rw [h9e]
        try dsimp only
        refine bV.if_eqB (tgt := 59) G d_S_pack_51 (by decide) (fun c51 => ?_) (fun c51 => ?_)
        · have hcj : (mt j && !mk j) = false := by rw [pkM_j] at c51; exact c51
          refine bV.iincN G (lv' := [(0, .ref (ad 0)), (1, .int (nI (cntU (unp mt mk) nb))), (2, .int (nI (j + 1)))]) d_S_pack_59 rfl (by decide) rfl rfl ?_
          refine bV.goto (tgt := 35) G d_S_pack_62 (by decide) ?_
          exact ih (j + 1) Pz gz hg1 c10 c20 (by omega) (by rw [pkA_f hcj]; exact hRz) (by rw [← pkM_f hcj]; exact hRy) (by rw [pkA_f hcj, ← pkM_f hcj]; exact hcp)
        · have hcj : (mt j && !mk j) = true := by rw [pkM_j] at c51; exact c51
          have hb8 := hb24 j (by omega)
          have hpos := pkM_cnt (show j < 24 by omega) hcj
          have hroom : pcS (pkA mt mk bl ba np (putS np (cntU (unp mt mk) nb) (ql, qa)) j).1 (np + 1) + 2 + bl j ≤ 664 := by omega
          refine bV.aload_n G d_S_pack_54 rfl ?_
          refine bV.iload_n G d_S_pack_55 rfl ?_
          refine bV.callVo G m_S_addToOpenPack bw_379 bw_s14 bw_377 (c_S_addToOpenPack hRb hRy hRz (j := j) (by omega) hroom) 0 rfl rfl rfl rfl rfl ⟨by decide, by decide⟩ ⟨by decide, by decide⟩ (Nat.le_of_ble_eq_true rfl) d_S_pack_56 (fun ws9 h9 => ?_)
          obtain ⟨Pq1, gp1, hRq1, hRp1, h9e⟩ := h9
          rw [h9e]
          refine bV.iincN G (lv' := [(0, .ref (ad 0)), (1, .int (nI (cntU (unp mt mk) nb))), (2, .int (nI (j + 1)))]) d_S_pack_59 rfl (by decide) rfl rfl ?_
          refine bV.goto (tgt := 35) G d_S_pack_62 (by decide) ?_
          exact ih (j + 1) Pq1 gp1 hg1 c10 c20 (by omega) (by rw [pkA_t hcj]; exact hRq1) (by rw [← pkM_t hcj]; exact hRp1) (by rw [pkA_t hcj, pcS_putB]; have z := pkM_cnt (show j < 24 by omega) hcj; omega)
  refine bV.aload_n G d_S_pack_0 rfl ?_
  refine bV.callVot G m_S_requireRunning bw_114 bw_s0 bw_112 (c_S_requireRunning ) 0 rfl rfl rfl rfl rfl ⟨by decide, by decide⟩ ⟨by decide, by decide⟩ (Nat.le_of_ble_eq_true rfl) d_S_pack_1 (fun ws9 h9 => ?_) (fun E9 ws9 h9 => ?_)
  · obtain ⟨hg1, h9e⟩ := h9
    rw [h9e]
    refine bV.aload_n G d_S_pack_4 rfl ?_
    refine bV.callVi G m_S_countUnpacked bw_371 bw_s12 bw_369 (c_S_countUnpacked hRb hRt hRp ) 0 rfl rfl rfl rfl rfl ⟨by decide, by decide⟩ ⟨by decide, by decide⟩ (Nat.le_of_ble_eq_true rfl) d_S_pack_5 (fun x9 ws9 h9 => ?_)
    obtain ⟨rfl, h9e⟩ := h9
    rw [h9e]
    try dsimp only
    refine bV.istore_n G (lv' := [(0, .ref (ad 0)), (1, .int (nI (cntU (unp mt mk) nb)))]) d_S_pack_8 (by decide) rfl rfl ?_
    refine bV.iload_n G d_S_pack_9 rfl ?_
    refine bV.if_eqN (tgt := 23) G d_S_pack_10 (by decide) (by omega) (fun c10 => ?_) (fun c10 => ?_)
    · refine bV.iconst (v := (-1)) G d_S_pack_23 (by decide) ?_
      exact bV.iretI G E0 rfl rfl (by decide) (by decide) d_S_pack_24 ⟨hg1, Or.inl ⟨by omega, rfl, rfl⟩⟩
    · have hcu := cntU_le (f := unp mt mk) nb
      refine bV.aload_n G d_S_pack_13 rfl ?_
      refine bV.getf G cl_S 0 7 rfl (by decide) bw_80 rfl d_S_pack_14 ?_
      refine bV.callVi G m_P_isFull bw_233 bw_234 bw_232 (c_P_isFull wS_q hRq) 17 rfl rfl rfl rfl rfl ⟨by decide, by decide⟩ ⟨by decide, by decide⟩ (Nat.le_of_ble_eq_true rfl) d_S_pack_17 (fun x9 ws9 h9 => ?_)
      obtain ⟨rfl, h9e⟩ := h9
      rw [h9e]
      try dsimp only
      refine bV.if_eqB (tgt := 25) G d_S_pack_20 (by decide) (fun c20 => ?_) (fun c20 => ?_)
      · have c20 := of_decide_eq_false c20
        refine bV.aload_n G d_S_pack_25 rfl ?_
        refine bV.getf G cl_S 0 7 rfl (by decide) bw_80 rfl d_S_pack_26 ?_
        refine bV.iload_n G d_S_pack_29 rfl ?_
        refine bV.callVo G m_P_add bw_193 bw_194 bw_192 (cS_q_add (x := cntU (unp mt mk) nb) hRq (by omega) (by dsimp only; have z := hcap (by omega); omega)) 17 rfl rfl rfl rfl rfl ⟨by decide, by decide⟩ ⟨by decide, by decide⟩ (Nat.le_of_ble_eq_true rfl) d_S_pack_30 (fun ws9 h9 => ?_)
        obtain ⟨Pq1, hRq2, h9e⟩ := h9
        rw [h9e]
        try dsimp only at hRq2
        refine bV.iconst (v := nI 0) G d_S_pack_33 (by decide) ?_
        refine bV.istore_n G (lv' := [(0, .ref (ad 0)), (1, .int (nI (cntU (unp mt mk) nb))), (2, .int (nI (0)))]) d_S_pack_34 (by decide) rfl rfl ?_
        exact loop nb 0 Pq1 gp hg1 c10 c20 (by omega) hRq2 (by rw [pkM_0]; exact hRp) (by have z := hcap (by omega); rw [pkM_0]; show pcS (fup ql np (ql np + 1)) (np + 1) + 4 + 26 * cntU (fun b => !mk b) 24 ≤ 664; rw [pcS_put]; omega)
      · have c20 := of_decide_eq_true c20
        refine bV.iconst (v := (-1)) G d_S_pack_23 (by decide) ?_
        exact bV.iretI G E0 rfl rfl (by decide) (by decide) d_S_pack_24 ⟨hg1, Or.inl ⟨by omega, rfl, rfl⟩⟩
  · obtain ⟨hz, rfl, h9e⟩ := h9
    rw [h9e]
    exact bT.leaveI G E0 rfl (by decide) (by decide) ⟨hz, rfl, rfl⟩
theorem d_S_feed_0 : decode b_S_feed 0 = .ok (.aload_n 0, 1) := by decide +kernel
theorem d_S_feed_1 : decode b_S_feed 1 = .ok (.invokevirtual 62, 3) := by decide +kernel
theorem d_S_feed_4 : decode b_S_feed 4 = .ok (.iload_n 1, 1) := by decide +kernel
theorem d_S_feed_5 : decode b_S_feed 5 = .ok (.ifCond .lt 22, 3) := by decide +kernel
theorem d_S_feed_8 : decode b_S_feed 8 = .ok (.iload_n 1, 1) := by decide +kernel
theorem d_S_feed_9 : decode b_S_feed 9 = .ok (.sipush 255, 3) := by decide +kernel
theorem d_S_feed_12 : decode b_S_feed 12 = .ok (.if_icmp .gt 15, 3) := by decide +kernel
theorem d_S_feed_15 : decode b_S_feed 15 = .ok (.aload_n 0, 1) := by decide +kernel
theorem d_S_feed_16 : decode b_S_feed 16 = .ok (.getfield 21, 3) := by decide +kernel
theorem d_S_feed_19 : decode b_S_feed 19 = .ok (.invokevirtual 65, 3) := by decide +kernel
theorem d_S_feed_22 : decode b_S_feed 22 = .ok (.bipush 24, 2) := by decide +kernel
theorem d_S_feed_24 : decode b_S_feed 24 = .ok (.if_icmp .lt 5, 3) := by decide +kernel
theorem d_S_feed_27 : decode b_S_feed 27 = .ok (.iconst 0, 1) := by decide +kernel
theorem d_S_feed_28 : decode b_S_feed 28 = .ok (.ireturn, 1) := by decide +kernel
theorem d_S_feed_29 : decode b_S_feed 29 = .ok (.aload_n 0, 1) := by decide +kernel
theorem d_S_feed_30 : decode b_S_feed 30 = .ok (.getfield 21, 3) := by decide +kernel
theorem d_S_feed_33 : decode b_S_feed 33 = .ok (.iload_n 1, 1) := by decide +kernel
theorem d_S_feed_34 : decode b_S_feed 34 = .ok (.invokevirtual 69, 3) := by decide +kernel
theorem d_S_feed_37 : decode b_S_feed 37 = .ok (.iconst 1, 1) := by decide +kernel
theorem d_S_feed_38 : decode b_S_feed 38 = .ok (.ireturn, 1) := by decide +kernel
set_option maxRecDepth 20000 in
set_option maxHeartbeats 4000000 in
theorem c_S_feed {D : va_G} {cI cZ cJ : ClassId} {ad : Nat → Nat} {mp : Nat} {lf : Nat → Int32} {n : Nat} {Pb : pc_C} {gt gp gh : Nat → Int32} {Pv : pc_C} {gd : Nat → Int32} {Pq : pc_C} {cr : Bool} {rest : va_W} {nb : Nat} {bl : Nat → Nat} {ba : Nat → Nat → Nat} (hRb : pc_R 600 25 Pb (nb, bl, ba)) {v : Int32} (hb24 : ∀ j, j ≤ nb → bl j ≤ 24) : bC D bcl (tys3 cI cZ cJ) y_S_feed ({ frames := 7, cells := 1, slots := 6, locals := 104 }) (wS ad cI cZ mp lf n Pb gt gp gh Pv gd Pq cr rest) [.ref (ad 0), .int (v)] (bI (fun x ws9 => cr = false ∧ ((¬ ((0 ≤ v ∧ v < nI 256) ∧ bl nb < 24) ∧ x = bB false ∧ ws9 = wS ad cI cZ mp lf n Pb gt gp gh Pv gd Pq cr rest) ∨ (((0 ≤ v ∧ v < nI 256) ∧ bl nb < 24) ∧ x = bB true ∧ ∃ Pb1 : pc_C, pc_R 600 25 Pb1 (nb, fup bl nb (bl nb + 1), fup2 ba nb (bl nb) v.toNatClampNeg) ∧ ws9 = wS ad cI cZ mp lf n Pb1 gt gp gh Pv gd Pq cr rest))) (fun E ws9 => cr = true ∧ E = "java/lang/IllegalStateException" ∧ ws9 = wS ad cI cZ mp lf n Pb gt gp gh Pv gd Pq cr rest)) := by
  have fb : nb < 25 := hRb.2.1
  refine bC.of (by decide) m_S_feed.1 (Nat.le_of_ble_eq_true rfl) ?_
  intro Γ G E0
  show bV D bcl Γ 2 (wS ad cI cZ mp lf n Pb gt gp gh Pv gd Pq cr rest) 0 0 0 [(0, .ref (ad 0)), (1, .int (v))] []
  refine bV.aload_n G d_S_feed_0 rfl ?_
  refine bV.callVot G m_S_requireRunning bw_114 bw_s0 bw_112 (c_S_requireRunning ) 0 rfl rfl rfl rfl rfl ⟨by decide, by decide⟩ ⟨by decide, by decide⟩ (Nat.le_of_ble_eq_true rfl) d_S_feed_1 (fun ws9 h9 => ?_) (fun E9 ws9 h9 => ?_)
  · obtain ⟨hg1, h9e⟩ := h9
    rw [h9e]
    refine bV.iload_n G d_S_feed_4 rfl ?_
    refine bV.if_lt (tgt := 27) G d_S_feed_5 (by decide) (fun c5 => ?_) (fun c5 => ?_)
    · refine bV.iconst (v := nI 0) G d_S_feed_27 (by decide) ?_
      refine bV.topi (x := nI 0) (y := bB false) (by decide) ?_
      exact bV.iretI G E0 rfl (bB_n _) (by decide) (by decide) d_S_feed_28 ⟨hg1, Or.inl ⟨fun z => by first | exact absurd c5 (Int32.not_lt.mpr z.1.1) | (have z2 := z.2; omega) | (obtain ⟨x, h1, rfl⟩ := nI_btw z.1 (by decide); exact absurd ((nI_ltI (by decide) (by omega)).mp c12) (by omega)), rfl, rfl⟩⟩
    · refine bV.iload_n G d_S_feed_8 rfl ?_
      refine bV.sipush (v := nI 255) G d_S_feed_9 (by decide) ?_
      refine bV.icmp_gt (tgt := 27) G d_S_feed_12 (by decide) (fun c12 => ?_) (fun c12 => ?_)
      · refine bV.iconst (v := nI 0) G d_S_feed_27 (by decide) ?_
        refine bV.topi (x := nI 0) (y := bB false) (by decide) ?_
        exact bV.iretI G E0 rfl (bB_n _) (by decide) (by decide) d_S_feed_28 ⟨hg1, Or.inl ⟨fun z => by first | exact absurd c5 (Int32.not_lt.mpr z.1.1) | (have z2 := z.2; omega) | (obtain ⟨x, h1, rfl⟩ := nI_btw z.1 (by decide); exact absurd ((nI_ltI (by decide) (by omega)).mp c12) (by omega)), rfl, rfl⟩⟩
      · obtain ⟨x, hx, rfl⟩ : ∃ x : Nat, x < 256 ∧ v = nI x := by obtain ⟨x, h1, rfl⟩ := nI_of c5; exact ⟨x, by have z := (nI_leI h1 (show 255 < 2 ^ 31 by decide)).mp (Int32.not_lt.mp c12); omega, rfl⟩
        refine bV.aload_n G d_S_feed_15 rfl ?_
        refine bV.getf G cl_S 0 1 rfl (by decide) bw_74 rfl d_S_feed_16 ?_
        refine bV.callVi G m_P_openLength bw_185 bw_186 bw_184 (c_P_openLength wS_b hRb) 3 rfl rfl rfl rfl rfl ⟨by decide, by decide⟩ ⟨by decide, by decide⟩ (Nat.le_of_ble_eq_true rfl) d_S_feed_19 (fun x9 ws9 h9 => ?_)
        obtain ⟨rfl, h9e⟩ := h9
        rw [h9e]
        try dsimp only
        have hl9 : bl nb ≤ 24 := hb24 nb (Nat.le_refl _)
        refine bV.bipush (v := nI 24) G d_S_feed_22 (by decide) ?_
        refine bV.icmp_ltN (tgt := 29) G d_S_feed_24 (by decide) (by omega) (by omega) (fun c24 => ?_) (fun c24 => ?_)
        · refine bV.aload_n G d_S_feed_29 rfl ?_
          refine bV.getf G cl_S 0 1 rfl (by decide) bw_74 rfl d_S_feed_30 ?_
          refine bV.iload_n G d_S_feed_33 rfl ?_
          refine bV.callVo G m_P_add bw_193 bw_194 bw_192 (cS_b_add (x := x) hRb (by omega) (by dsimp only; have z := pcS_le (pl := bl) (c := 24) nb (fun j hj => hb24 j (by omega)); show pcS bl nb + bl nb < 600; omega)) 3 rfl rfl rfl rfl rfl ⟨by decide, by decide⟩ ⟨by decide, by decide⟩ (Nat.le_of_ble_eq_true rfl) d_S_feed_34 (fun ws9 h9 => ?_)
          obtain ⟨Pb1, hRb2, h9e⟩ := h9
          rw [h9e]
          try dsimp only at hRb2
          refine bV.iconst (v := nI 1) G d_S_feed_37 (by decide) ?_
          refine bV.topi (x := nI 1) (y := bB true) (by decide) ?_
          exact bV.iretI G E0 rfl (bB_n _) (by decide) (by decide) d_S_feed_38 ⟨hg1, Or.inr ⟨⟨⟨nI_pos' (by omega), nI_lt (by omega) (by decide)⟩, by omega⟩, rfl, Pb1, by rw [nI_clamp (by omega)]; exact hRb2, rfl⟩⟩
        · refine bV.iconst (v := nI 0) G d_S_feed_27 (by decide) ?_
          refine bV.topi (x := nI 0) (y := bB false) (by decide) ?_
          exact bV.iretI G E0 rfl (bB_n _) (by decide) (by decide) d_S_feed_28 ⟨hg1, Or.inl ⟨fun z => by first | exact absurd c5 (Int32.not_lt.mpr z.1.1) | (have z2 := z.2; omega) | (obtain ⟨x, h1, rfl⟩ := nI_btw z.1 (by decide); exact absurd ((nI_ltI (by decide) (by omega)).mp c12) (by omega)), rfl, rfl⟩⟩
  · obtain ⟨hz, rfl, h9e⟩ := h9
    rw [h9e]
    exact bT.leaveI G E0 rfl (by decide) (by decide) ⟨hz, rfl, rfl⟩
theorem d_S_block_0 : decode b_S_block 0 = .ok (.aload_n 0, 1) := by decide +kernel
theorem d_S_block_1 : decode b_S_block 1 = .ok (.invokevirtual 62, 3) := by decide +kernel
theorem d_S_block_4 : decode b_S_block 4 = .ok (.aload_n 0, 1) := by decide +kernel
theorem d_S_block_5 : decode b_S_block 5 = .ok (.getfield 40, 3) := by decide +kernel
theorem d_S_block_8 : decode b_S_block 8 = .ok (.invokevirtual 65, 3) := by decide +kernel
theorem d_S_block_11 : decode b_S_block 11 = .ok (.bipush 8, 2) := by decide +kernel
theorem d_S_block_13 : decode b_S_block 13 = .ok (.if_icmp .lt 5, 3) := by decide +kernel
theorem d_S_block_16 : decode b_S_block 16 = .ok (.iconst (-1), 1) := by decide +kernel
theorem d_S_block_17 : decode b_S_block 17 = .ok (.ireturn, 1) := by decide +kernel
theorem d_S_block_18 : decode b_S_block 18 = .ok (.aload_n 0, 1) := by decide +kernel
theorem d_S_block_19 : decode b_S_block 19 = .ok (.invokevirtual 72, 3) := by decide +kernel
theorem d_S_block_22 : decode b_S_block 22 = .ok (.istore_n 1, 1) := by decide +kernel
theorem d_S_block_23 : decode b_S_block 23 = .ok (.iload_n 1, 1) := by decide +kernel
theorem d_S_block_24 : decode b_S_block 24 = .ok (.iconst (-1), 1) := by decide +kernel
theorem d_S_block_25 : decode b_S_block 25 = .ok (.if_icmp .ne 10, 3) := by decide +kernel
theorem d_S_block_28 : decode b_S_block 28 = .ok (.aload_n 0, 1) := by decide +kernel
theorem d_S_block_29 : decode b_S_block 29 = .ok (.invokevirtual 75, 3) := by decide +kernel
theorem d_S_block_32 : decode b_S_block 32 = .ok (.goto 8, 3) := by decide +kernel
theorem d_S_block_35 : decode b_S_block 35 = .ok (.aload_n 0, 1) := by decide +kernel
theorem d_S_block_36 : decode b_S_block 36 = .ok (.iload_n 1, 1) := by decide +kernel
theorem d_S_block_37 : decode b_S_block 37 = .ok (.invokevirtual 78, 3) := by decide +kernel
theorem d_S_block_40 : decode b_S_block 40 = .ok (.ireturn, 1) := by decide +kernel
set_option maxRecDepth 20000 in
set_option maxHeartbeats 4000000 in
theorem c_S_block {D : va_G} {cI cZ cJ : ClassId} {ad : Nat → Nat} {mp : Nat} {lf : Nat → Int32} {n : Nat} {Pb : pc_C} {gt gp gh : Nat → Int32} {Pv : pc_C} {gd : Nat → Int32} {Pq : pc_C} {cr : Bool} {rest : va_W} {lg : Nat → Nat} {nb : Nat} {bl : Nat → Nat} {ba : Nat → Nat → Nat} {mt : Nat → Bool} {nv : Nat} {vl : Nat → Nat} {va : Nat → Nat → Nat} (hRl : lg_R lf n lg) (hRb : pc_R 600 25 Pb (nb, bl, ba)) (hRt : mk_R 24 gt mt) (hRv : pc_R 104 13 Pv (nv, vl, va)) (hbl : bl nb ≤ 24) (hby : ∀ i, i < bl nb → ba nb i < 256) (hv8 : ∀ v, v ≤ nv → vl v ≤ 8) : bC D bcl (tys3 cI cZ cJ) y_S_block ({ frames := 7, cells := 1, slots := 6, locals := 115 }) (wS ad cI cZ mp lf n Pb gt gp gh Pv gd Pq cr rest) [.ref (ad 0)] (bI (fun x ws9 => cr = false ∧ ((8 ≤ vl nv ∧ x = -1 ∧ ws9 = wS ad cI cZ mp lf n Pb gt gp gh Pv gd Pq cr rest) ∨ (vl nv < 8 ∧ ((∃ j, j < nb ∧ eqF mt bl ba nb j ∧ (∀ j0, j0 < j → ¬ eqF mt bl ba nb j0) ∧ ((400 < n + 2 ∧ x = -1 ∧ ws9 = wS ad cI cZ mp lf n Pb gt gp gh Pv gd Pq cr rest) ∨ (n + 2 ≤ 400 ∧ x = nI j ∧ ∃ (lf1 : Nat → Int32) (Pb1 Pv1 : pc_C), lg_R lf1 (n + 2) (rec2 lg n 2 j) ∧ pc_R 600 25 Pb1 (nb, fup bl nb 0, ba) ∧ pc_R 104 13 Pv1 (nv, fup vl nv (vl nv + 1), fup2 va nv (vl nv) j) ∧ ws9 = wS ad cI cZ mp lf1 (n + 2) Pb1 gt gp gh Pv1 gd Pq cr rest))) ∨ ((∀ j, j < nb → ¬ eqF mt bl ba nb j) ∧ (((nb = 24 ∨ 400 < n + 2 + bl nb) ∧ x = -1 ∧ ws9 = wS ad cI cZ mp lf n Pb gt gp gh Pv gd Pq cr rest) ∨ ((nb < 24 ∧ n + 2 + bl nb ≤ 400) ∧ x = nI nb ∧ ∃ lf1, lg_R lf1 (n + 2 + bl nb) (rec1 lg n (bl nb) (ba nb)) ∧ ∃ (Pb1 : pc_C) (gt1 : Nat → Int32) (Pv1 : pc_C), pc_R 600 25 Pb1 (nb + 1, fup bl (nb + 1) 0, ba) ∧ mk_R 24 gt1 (mk_up mt nb true) ∧ pc_R 104 13 Pv1 (nv, fup vl nv (vl nv + 1), fup2 va nv (vl nv) nb) ∧ ws9 = wS ad cI cZ mp lf1 (n + 2 + bl nb) Pb1 gt1 gp gh Pv1 gd Pq cr rest))))))) (fun E ws9 => cr = true ∧ E = "java/lang/IllegalStateException" ∧ ws9 = wS ad cI cZ mp lf n Pb gt gp gh Pv gd Pq cr rest)) := by
  have fl : n ≤ 400 := hRl.1
  have fb : nb < 25 := hRb.2.1
  have fv : nv < 13 := hRv.2.1
  refine bC.of (by decide) m_S_block.1 (Nat.le_of_ble_eq_true rfl) ?_
  intro Γ G E0
  show bV D bcl Γ 2 (wS ad cI cZ mp lf n Pb gt gp gh Pv gd Pq cr rest) 0 0 0 [(0, .ref (ad 0))] []
  refine bV.aload_n G d_S_block_0 rfl ?_
  refine bV.callVot G m_S_requireRunning bw_114 bw_s0 bw_112 (c_S_requireRunning ) 0 rfl rfl rfl rfl rfl ⟨by decide, by decide⟩ ⟨by decide, by decide⟩ (Nat.le_of_ble_eq_true rfl) d_S_block_1 (fun ws9 h9 => ?_) (fun E9 ws9 h9 => ?_)
  · obtain ⟨hg1, h9e⟩ := h9
    rw [h9e]
    refine bV.aload_n G d_S_block_4 rfl ?_
    refine bV.getf G cl_S 0 5 rfl (by decide) bw_78 rfl d_S_block_5 ?_
    refine bV.callVi G m_P_openLength bw_185 bw_186 bw_184 (c_P_openLength wS_v hRv) 12 rfl rfl rfl rfl rfl ⟨by decide, by decide⟩ ⟨by decide, by decide⟩ (Nat.le_of_ble_eq_true rfl) d_S_block_8 (fun x9 ws9 h9 => ?_)
    obtain ⟨rfl, h9e⟩ := h9
    rw [h9e]
    try dsimp only
    have hl9 : vl nv ≤ 8 := hv8 nv (Nat.le_refl _)
    refine bV.bipush (v := nI 8) G d_S_block_11 (by decide) ?_
    refine bV.icmp_ltN (tgt := 18) G d_S_block_13 (by decide) (by omega) (by omega) (fun c13 => ?_) (fun c13 => ?_)
    · have hr : pcS vl (nv + 1) < 104 := by have z := pcS_le (pl := vl) (c := 8) nv (fun j hj => hv8 j (by omega)); show pcS vl nv + vl nv < 104; omega
      refine bV.aload_n G d_S_block_18 rfl ?_
      refine bV.callVi G m_S_equalOfFed bw_205 bw_s2 bw_203 (c_S_equalOfFed hRb hRt ) 0 rfl rfl rfl rfl rfl ⟨by decide, by decide⟩ ⟨by decide, by decide⟩ (Nat.le_of_ble_eq_true rfl) d_S_block_19 (fun x9 ws9 h9 => ?_)
      obtain ⟨h9d, h9e⟩ := h9
      rw [h9e]
      refine bV.istore_n G (lv' := [(0, .ref (ad 0)), (1, .int (x9))]) d_S_block_22 (by decide) rfl rfl ?_
      refine bV.iload_n G d_S_block_23 rfl ?_
      refine bV.iconst (v := (-1)) G d_S_block_24 (by decide) ?_
      refine bV.icmp_ne (tgt := 35) G d_S_block_25 (by decide) (fun c25 => ?_) (fun c25 => ?_)
      · obtain ⟨j, hj, rfl, hje, hjm⟩ : ∃ j, j < nb ∧ x9 = nI j ∧ eqF mt bl ba nb j ∧ ∀ j0, j0 < j → ¬ eqF mt bl ba nb j0 := h9d.resolve_right (fun z => c25 z.1)
        refine bV.aload_n G d_S_block_35 rfl ?_
        refine bV.iload_n G d_S_block_36 rfl ?_
        refine bV.callVi G m_S_takeOldBlock bw_263 bw_s5 bw_261 (c_S_takeOldBlock hRl hRb hRv (j := j) hj hr) 0 rfl rfl rfl rfl rfl ⟨by decide, by decide⟩ ⟨by decide, by decide⟩ (Nat.le_of_ble_eq_true rfl) d_S_block_37 (fun x9 ws9 h9 => ?_)
        have hTO := h9
        exact bV.iretI G E0 rfl rfl (by decide) (by decide) d_S_block_40 ⟨hg1, Or.inr ⟨by omega, Or.inl ⟨j, hj, hje, hjm, hTO⟩⟩⟩
      · have hno : ∀ j, j < nb → ¬ eqF mt bl ba nb j := (h9d.resolve_left (fun ⟨j, h1, h2, _⟩ => nI_nm1 (by omega) (h2.symm.trans c25))).2
        refine bV.aload_n G d_S_block_28 rfl ?_
        refine bV.callVi G m_S_takeNewBlock bw_230 bw_s3 bw_228 (c_S_takeNewBlock hRl hRb hRt hRv hbl hby hr) 0 rfl rfl rfl rfl rfl ⟨by decide, by decide⟩ ⟨by decide, by decide⟩ (Nat.le_of_ble_eq_true rfl) d_S_block_29 (fun x9 ws9 h9 => ?_)
        have hTN := h9
        refine bV.goto (tgt := 40) G d_S_block_32 (by decide) ?_
        exact bV.iretI G E0 rfl rfl (by decide) (by decide) d_S_block_40 ⟨hg1, Or.inr ⟨by omega, Or.inr ⟨hno, hTN⟩⟩⟩
    · refine bV.iconst (v := (-1)) G d_S_block_16 (by decide) ?_
      exact bV.iretI G E0 rfl rfl (by decide) (by decide) d_S_block_17 ⟨hg1, Or.inl ⟨by omega, rfl, rfl⟩⟩
  · obtain ⟨hz, rfl, h9e⟩ := h9
    rw [h9e]
    exact bT.leaveI G E0 rfl (by decide) (by decide) ⟨hz, rfl, rfl⟩
theorem d_S_version_0 : decode b_S_version 0 = .ok (.aload_n 0, 1) := by decide +kernel
theorem d_S_version_1 : decode b_S_version 1 = .ok (.invokevirtual 62, 3) := by decide +kernel
theorem d_S_version_4 : decode b_S_version 4 = .ok (.aload_n 0, 1) := by decide +kernel
theorem d_S_version_5 : decode b_S_version 5 = .ok (.getfield 40, 3) := by decide +kernel
theorem d_S_version_8 : decode b_S_version 8 = .ok (.invokevirtual 82, 3) := by decide +kernel
theorem d_S_version_11 : decode b_S_version 11 = .ok (.ifCond .ne 14, 3) := by decide +kernel
theorem d_S_version_14 : decode b_S_version 14 = .ok (.aload_n 0, 1) := by decide +kernel
theorem d_S_version_15 : decode b_S_version 15 = .ok (.getfield 12, 3) := by decide +kernel
theorem d_S_version_18 : decode b_S_version 18 = .ok (.iconst 1, 1) := by decide +kernel
theorem d_S_version_19 : decode b_S_version 19 = .ok (.invokevirtual 86, 3) := by decide +kernel
theorem d_S_version_22 : decode b_S_version 22 = .ok (.ifCond .ne 5, 3) := by decide +kernel
theorem d_S_version_25 : decode b_S_version 25 = .ok (.iconst (-1), 1) := by decide +kernel
theorem d_S_version_26 : decode b_S_version 26 = .ok (.ireturn, 1) := by decide +kernel
theorem d_S_version_27 : decode b_S_version 27 = .ok (.aload_n 0, 1) := by decide +kernel
theorem d_S_version_28 : decode b_S_version 28 = .ok (.getfield 12, 3) := by decide +kernel
theorem d_S_version_31 : decode b_S_version 31 = .ok (.iconst 3, 1) := by decide +kernel
theorem d_S_version_32 : decode b_S_version 32 = .ok (.invokevirtual 90, 3) := by decide +kernel
theorem d_S_version_35 : decode b_S_version 35 = .ok (.aload_n 0, 1) := by decide +kernel
theorem d_S_version_36 : decode b_S_version 36 = .ok (.getfield 40, 3) := by decide +kernel
theorem d_S_version_39 : decode b_S_version 39 = .ok (.invokevirtual 91, 3) := by decide +kernel
theorem d_S_version_42 : decode b_S_version 42 = .ok (.ireturn, 1) := by decide +kernel
set_option maxRecDepth 20000 in
set_option maxHeartbeats 4000000 in
theorem c_S_version {D : va_G} {cI cZ cJ : ClassId} {ad : Nat → Nat} {mp : Nat} {lf : Nat → Int32} {n : Nat} {Pb : pc_C} {gt gp gh : Nat → Int32} {Pv : pc_C} {gd : Nat → Int32} {Pq : pc_C} {cr : Bool} {rest : va_W} {lg : Nat → Nat} {nv : Nat} {vl : Nat → Nat} {va : Nat → Nat → Nat} (hRl : lg_R lf n lg) (hRv : pc_R 104 13 Pv (nv, vl, va))  : bC D bcl (tys3 cI cZ cJ) y_S_version ({ frames := 7, cells := 1, slots := 6, locals := 104 }) (wS ad cI cZ mp lf n Pb gt gp gh Pv gd Pq cr rest) [.ref (ad 0)] (bI (fun x ws9 => cr = false ∧ (((nv = 12 ∨ n = 400) ∧ x = -1 ∧ ws9 = wS ad cI cZ mp lf n Pb gt gp gh Pv gd Pq cr rest) ∨ ((nv < 12 ∧ n < 400) ∧ x = nI nv ∧ ∃ (lf1 : Nat → Int32) (Pv1 : pc_C), lg_R lf1 (n + 1) (fup lg n 3) ∧ pc_R 104 13 Pv1 (nv + 1, fup vl (nv + 1) 0, va) ∧ ws9 = wS ad cI cZ mp lf1 (n + 1) Pb gt gp gh Pv1 gd Pq cr rest))) (fun E ws9 => cr = true ∧ E = "java/lang/IllegalStateException" ∧ ws9 = wS ad cI cZ mp lf n Pb gt gp gh Pv gd Pq cr rest)) := by
  have fl : n ≤ 400 := hRl.1
  have fv : nv < 13 := hRv.2.1
  refine bC.of (by decide) m_S_version.1 (Nat.le_of_ble_eq_true rfl) ?_
  intro Γ G E0
  show bV D bcl Γ 1 (wS ad cI cZ mp lf n Pb gt gp gh Pv gd Pq cr rest) 0 0 0 [(0, .ref (ad 0))] []
  refine bV.aload_n G d_S_version_0 rfl ?_
  refine bV.callVot G m_S_requireRunning bw_114 bw_s0 bw_112 (c_S_requireRunning ) 0 rfl rfl rfl rfl rfl ⟨by decide, by decide⟩ ⟨by decide, by decide⟩ (Nat.le_of_ble_eq_true rfl) d_S_version_1 (fun ws9 h9 => ?_) (fun E9 ws9 h9 => ?_)
  · obtain ⟨hg1, h9e⟩ := h9
    rw [h9e]
    refine bV.aload_n G d_S_version_4 rfl ?_
    refine bV.getf G cl_S 0 5 rfl (by decide) bw_78 rfl d_S_version_5 ?_
    refine bV.callVi G m_P_isFull bw_233 bw_234 bw_232 (c_P_isFull wS_v hRv) 12 rfl rfl rfl rfl rfl ⟨by decide, by decide⟩ ⟨by decide, by decide⟩ (Nat.le_of_ble_eq_true rfl) d_S_version_8 (fun x9 ws9 h9 => ?_)
    obtain ⟨rfl, h9e⟩ := h9
    rw [h9e]
    try dsimp only
    refine bV.if_neB (tgt := 25) G d_S_version_11 (by decide) (fun c11 => ?_) (fun c11 => ?_)
    · have h11 := of_decide_eq_true c11
      refine bV.iconst (v := (-1)) G d_S_version_25 (by decide) ?_
      exact bV.iretI G E0 rfl rfl (by decide) (by decide) d_S_version_26 ⟨hg1, Or.inl ⟨by omega, rfl, rfl⟩⟩
    · have h11 := of_decide_eq_false c11
      refine bV.aload_n G d_S_version_14 rfl ?_
      refine bV.getf G cl_S 0 0 rfl (by decide) bw_73 rfl d_S_version_15 ?_
      refine bV.iconst (v := nI 1) G d_S_version_18 (by decide) ?_
      refine bV.callVi G m_L_hasRoom bw_241 bw_242 bw_240 (c_L_hasRoom wS_l hRl (y := 1) (by omega)) 1 rfl rfl rfl rfl rfl ⟨by decide, by decide⟩ ⟨by decide, by decide⟩ (Nat.le_of_ble_eq_true rfl) d_S_version_19 (fun x9 ws9 h9 => ?_)
      obtain ⟨rfl, h9e⟩ := h9
      rw [h9e]
      try dsimp only
      refine bV.if_neB (tgt := 27) G d_S_version_22 (by decide) (fun c22 => ?_) (fun c22 => ?_)
      · have h22 := of_decide_eq_true c22
        refine bV.aload_n G d_S_version_27 rfl ?_
        refine bV.getf G cl_S 0 0 rfl (by decide) bw_73 rfl d_S_version_28 ?_
        refine bV.iconst (v := nI 3) G d_S_version_31 (by decide) ?_
        refine bV.callVo G m_L_add bw_245 bw_246 bw_244 (cS_l_add (x := 3) hRl (by omega) (by omega)) 1 rfl rfl rfl rfl rfl ⟨by decide, by decide⟩ ⟨by decide, by decide⟩ (Nat.le_of_ble_eq_true rfl) d_S_version_32 (fun ws9 h9 => ?_)
        obtain ⟨lf1, hRl2, h9e⟩ := h9
        rw [h9e]
        refine bV.aload_n G d_S_version_35 rfl ?_
        refine bV.getf G cl_S 0 5 rfl (by decide) bw_78 rfl d_S_version_36 ?_
        refine bV.callVi G m_P_close bw_254 bw_255 bw_253 (cS_v_close hRv (by dsimp only; omega)) 12 rfl rfl rfl rfl rfl ⟨by decide, by decide⟩ ⟨by decide, by decide⟩ (Nat.le_of_ble_eq_true rfl) d_S_version_39 (fun x9 ws9 h9 => ?_)
        obtain ⟨rfl, Pv3, hRv4, h9e⟩ := h9
        rw [h9e]
        try dsimp only at hRv4
        try dsimp only
        exact bV.iretI G E0 rfl rfl (by decide) (by decide) d_S_version_42 ⟨hg1, Or.inr ⟨⟨by omega, by omega⟩, rfl, lf1, Pv3, hRl2, hRv4, rfl⟩⟩
      · have h22 := of_decide_eq_false c22
        refine bV.iconst (v := (-1)) G d_S_version_25 (by decide) ?_
        exact bV.iretI G E0 rfl rfl (by decide) (by decide) d_S_version_26 ⟨hg1, Or.inl ⟨by omega, rfl, rfl⟩⟩
  · obtain ⟨hz, rfl, h9e⟩ := h9
    rw [h9e]
    exact bT.leaveI G E0 rfl (by decide) (by decide) ⟨hz, rfl, rfl⟩
theorem d_S_sweep_0 : decode b_S_sweep 0 = .ok (.aload_n 0, 1) := by decide +kernel
theorem d_S_sweep_1 : decode b_S_sweep 1 = .ok (.invokevirtual 62, 3) := by decide +kernel
theorem d_S_sweep_4 : decode b_S_sweep 4 = .ok (.aload_n 0, 1) := by decide +kernel
theorem d_S_sweep_5 : decode b_S_sweep 5 = .ok (.getfield 12, 3) := by decide +kernel
theorem d_S_sweep_8 : decode b_S_sweep 8 = .ok (.iconst 1, 1) := by decide +kernel
theorem d_S_sweep_9 : decode b_S_sweep 9 = .ok (.invokevirtual 86, 3) := by decide +kernel
theorem d_S_sweep_12 : decode b_S_sweep 12 = .ok (.ifCond .ne 5, 3) := by decide +kernel
theorem d_S_sweep_15 : decode b_S_sweep 15 = .ok (.iconst 0, 1) := by decide +kernel
theorem d_S_sweep_16 : decode b_S_sweep 16 = .ok (.ireturn, 1) := by decide +kernel
theorem d_S_sweep_17 : decode b_S_sweep 17 = .ok (.aload_n 0, 1) := by decide +kernel
theorem d_S_sweep_18 : decode b_S_sweep 18 = .ok (.getfield 12, 3) := by decide +kernel
theorem d_S_sweep_21 : decode b_S_sweep 21 = .ok (.iconst 5, 1) := by decide +kernel
theorem d_S_sweep_22 : decode b_S_sweep 22 = .ok (.invokevirtual 90, 3) := by decide +kernel
theorem d_S_sweep_25 : decode b_S_sweep 25 = .ok (.aload_n 0, 1) := by decide +kernel
theorem d_S_sweep_26 : decode b_S_sweep 26 = .ok (.invokevirtual 117, 3) := by decide +kernel
theorem d_S_sweep_29 : decode b_S_sweep 29 = .ok (.ireturn, 1) := by decide +kernel
set_option maxRecDepth 20000 in
set_option maxHeartbeats 4000000 in
theorem c_S_sweep {D : va_G} {cI cZ cJ : ClassId} {ad : Nat → Nat} {mp : Nat} {lf : Nat → Int32} {n : Nat} {Pb : pc_C} {gt gp gh : Nat → Int32} {Pv : pc_C} {gd : Nat → Int32} {Pq : pc_C} {cr : Bool} {rest : va_W} {lg : Nat → Nat} {nb : Nat} {bl : Nat → Nat} {ba : Nat → Nat → Nat} {mt : Nat → Bool} {nv : Nat} {vl : Nat → Nat} {va : Nat → Nat → Nat} {md : Nat → Bool} {mh : Nat → Bool} (hRl : lg_R lf n lg) (hRb : pc_R 600 25 Pb (nb, bl, ba)) (hRt : mk_R 24 gt mt) (hRv : pc_R 104 13 Pv (nv, vl, va)) (hRd : mk_R 12 gd md) (hRh : mk_R 24 gh mh) (hvb : ∀ v k, v ≤ nv → k < vl v → va v k < nb) : bC D bcl (tys3 cI cZ cJ) y_S_sweep ({ frames := 7, cells := 1, slots := 6, locals := 104 }) (wS ad cI cZ mp lf n Pb gt gp gh Pv gd Pq cr rest) [.ref (ad 0)] (bI (fun x ws9 => cr = false ∧ ((n = 400 ∧ x = nI 0 ∧ ws9 = wS ad cI cZ mp lf n Pb gt gp gh Pv gd Pq cr rest) ∨ (n < 400 ∧ x = nI (cntU (fun b => mt b && !hlB md vl va nv b) nb) ∧ ∃ (lf1 gt1 gh1 : Nat → Int32), lg_R lf1 (n + 1) (fup lg n 5) ∧ mk_R 24 gt1 (swS mt (hlB md vl va nv) nb) ∧ mk_R 24 gh1 (hlB md vl va nv) ∧ ws9 = wS ad cI cZ mp lf1 (n + 1) Pb gt1 gp gh1 Pv gd Pq cr rest))) (fun E ws9 => cr = true ∧ E = "java/lang/IllegalStateException" ∧ ws9 = wS ad cI cZ mp lf n Pb gt gp gh Pv gd Pq cr rest)) := by
  have fl : n ≤ 400 := hRl.1
  have fb : nb < 25 := hRb.2.1
  have fv : nv < 13 := hRv.2.1
  refine bC.of (by decide) m_S_sweep.1 (Nat.le_of_ble_eq_true rfl) ?_
  intro Γ G E0
  show bV D bcl Γ 1 (wS ad cI cZ mp lf n Pb gt gp gh Pv gd Pq cr rest) 0 0 0 [(0, .ref (ad 0))] []
  refine bV.aload_n G d_S_sweep_0 rfl ?_
  refine bV.callVot G m_S_requireRunning bw_114 bw_s0 bw_112 (c_S_requireRunning ) 0 rfl rfl rfl rfl rfl ⟨by decide, by decide⟩ ⟨by decide, by decide⟩ (Nat.le_of_ble_eq_true rfl) d_S_sweep_1 (fun ws9 h9 => ?_) (fun E9 ws9 h9 => ?_)
  · obtain ⟨hg1, h9e⟩ := h9
    rw [h9e]
    refine bV.aload_n G d_S_sweep_4 rfl ?_
    refine bV.getf G cl_S 0 0 rfl (by decide) bw_73 rfl d_S_sweep_5 ?_
    refine bV.iconst (v := nI 1) G d_S_sweep_8 (by decide) ?_
    refine bV.callVi G m_L_hasRoom bw_241 bw_242 bw_240 (c_L_hasRoom wS_l hRl (y := 1) (by omega)) 1 rfl rfl rfl rfl rfl ⟨by decide, by decide⟩ ⟨by decide, by decide⟩ (Nat.le_of_ble_eq_true rfl) d_S_sweep_9 (fun x9 ws9 h9 => ?_)
    obtain ⟨rfl, h9e⟩ := h9
    rw [h9e]
    try dsimp only
    refine bV.if_neB (tgt := 17) G d_S_sweep_12 (by decide) (fun c12 => ?_) (fun c12 => ?_)
    · have h12 := of_decide_eq_true c12
      refine bV.aload_n G d_S_sweep_17 rfl ?_
      refine bV.getf G cl_S 0 0 rfl (by decide) bw_73 rfl d_S_sweep_18 ?_
      refine bV.iconst (v := nI 5) G d_S_sweep_21 (by decide) ?_
      refine bV.callVo G m_L_add bw_245 bw_246 bw_244 (cS_l_add (x := 5) hRl (by omega) (by omega)) 1 rfl rfl rfl rfl rfl ⟨by decide, by decide⟩ ⟨by decide, by decide⟩ (Nat.le_of_ble_eq_true rfl) d_S_sweep_22 (fun ws9 h9 => ?_)
      obtain ⟨lf1, hRl2, h9e⟩ := h9
      rw [h9e]
      refine bV.aload_n G d_S_sweep_25 rfl ?_
      refine bV.callVi G m_S_removeUnheldBlocks bw_348 bw_s10 bw_346 (c_S_removeUnheldBlocks hRb hRt hRv hRd hRh hvb) 0 rfl rfl rfl rfl rfl ⟨by decide, by decide⟩ ⟨by decide, by decide⟩ (Nat.le_of_ble_eq_true rfl) d_S_sweep_26 (fun x9 ws9 h9 => ?_)
      obtain ⟨rfl, gt1, gh1, hRt1, hRh1, h9e⟩ := h9
      rw [h9e]
      try dsimp only
      exact bV.iretI G E0 rfl rfl (by decide) (by decide) d_S_sweep_29 ⟨hg1, Or.inr ⟨by omega, rfl, lf1, gt1, gh1, hRl2, hRt1, hRh1, rfl⟩⟩
    · have h12 := of_decide_eq_false c12
      refine bV.iconst (v := nI 0) G d_S_sweep_15 (by decide) ?_
      exact bV.iretI G E0 rfl rfl (by decide) (by decide) d_S_sweep_16 ⟨hg1, Or.inl ⟨by omega, rfl, rfl⟩⟩
  · obtain ⟨hz, rfl, h9e⟩ := h9
    rw [h9e]
    exact bT.leaveI G E0 rfl (by decide) (by decide) ⟨hz, rfl, rfl⟩
theorem d_S_drop_0 : decode b_S_drop 0 = .ok (.aload_n 0, 1) := by decide +kernel
theorem d_S_drop_1 : decode b_S_drop 1 = .ok (.invokevirtual 62, 3) := by decide +kernel
theorem d_S_drop_4 : decode b_S_drop 4 = .ok (.aload_n 0, 1) := by decide +kernel
theorem d_S_drop_5 : decode b_S_drop 5 = .ok (.iload_n 1, 1) := by decide +kernel
theorem d_S_drop_6 : decode b_S_drop 6 = .ok (.invokevirtual 94, 3) := by decide +kernel
theorem d_S_drop_9 : decode b_S_drop 9 = .ok (.aload_n 0, 1) := by decide +kernel
theorem d_S_drop_10 : decode b_S_drop 10 = .ok (.getfield 43, 3) := by decide +kernel
theorem d_S_drop_13 : decode b_S_drop 13 = .ok (.iload_n 1, 1) := by decide +kernel
theorem d_S_drop_14 : decode b_S_drop 14 = .ok (.invokevirtual 141, 3) := by decide +kernel
theorem d_S_drop_17 : decode b_S_drop 17 = .ok (.ifCond .ne 14, 3) := by decide +kernel
theorem d_S_drop_20 : decode b_S_drop 20 = .ok (.aload_n 0, 1) := by decide +kernel
theorem d_S_drop_21 : decode b_S_drop 21 = .ok (.getfield 12, 3) := by decide +kernel
theorem d_S_drop_24 : decode b_S_drop 24 = .ok (.iconst 2, 1) := by decide +kernel
theorem d_S_drop_25 : decode b_S_drop 25 = .ok (.invokevirtual 86, 3) := by decide +kernel
theorem d_S_drop_28 : decode b_S_drop 28 = .ok (.ifCond .ne 5, 3) := by decide +kernel
theorem d_S_drop_31 : decode b_S_drop 31 = .ok (.iconst 0, 1) := by decide +kernel
theorem d_S_drop_32 : decode b_S_drop 32 = .ok (.ireturn, 1) := by decide +kernel
theorem d_S_drop_33 : decode b_S_drop 33 = .ok (.aload_n 0, 1) := by decide +kernel
theorem d_S_drop_34 : decode b_S_drop 34 = .ok (.getfield 12, 3) := by decide +kernel
theorem d_S_drop_37 : decode b_S_drop 37 = .ok (.iconst 4, 1) := by decide +kernel
theorem d_S_drop_38 : decode b_S_drop 38 = .ok (.invokevirtual 90, 3) := by decide +kernel
theorem d_S_drop_41 : decode b_S_drop 41 = .ok (.aload_n 0, 1) := by decide +kernel
theorem d_S_drop_42 : decode b_S_drop 42 = .ok (.getfield 12, 3) := by decide +kernel
theorem d_S_drop_45 : decode b_S_drop 45 = .ok (.iload_n 1, 1) := by decide +kernel
theorem d_S_drop_46 : decode b_S_drop 46 = .ok (.invokevirtual 90, 3) := by decide +kernel
theorem d_S_drop_49 : decode b_S_drop 49 = .ok (.aload_n 0, 1) := by decide +kernel
theorem d_S_drop_50 : decode b_S_drop 50 = .ok (.getfield 43, 3) := by decide +kernel
theorem d_S_drop_53 : decode b_S_drop 53 = .ok (.iload_n 1, 1) := by decide +kernel
theorem d_S_drop_54 : decode b_S_drop 54 = .ok (.invokevirtual 180, 3) := by decide +kernel
theorem d_S_drop_57 : decode b_S_drop 57 = .ok (.iconst 1, 1) := by decide +kernel
theorem d_S_drop_58 : decode b_S_drop 58 = .ok (.ireturn, 1) := by decide +kernel
set_option maxRecDepth 20000 in
set_option maxHeartbeats 4000000 in
theorem c_S_drop {D : va_G} {cI cZ cJ : ClassId} {ad : Nat → Nat} {mp : Nat} {lf : Nat → Int32} {n : Nat} {Pb : pc_C} {gt gp gh : Nat → Int32} {Pv : pc_C} {gd : Nat → Int32} {Pq : pc_C} {cr : Bool} {rest : va_W} {lg : Nat → Nat} {nv : Nat} {vl : Nat → Nat} {va : Nat → Nat → Nat} {md : Nat → Bool} (hRl : lg_R lf n lg) (hRv : pc_R 104 13 Pv (nv, vl, va)) (hRd : mk_R 12 gd md) {v : Int32} : bC D bcl (tys3 cI cZ cJ) y_S_drop ({ frames := 7, cells := 2, slots := 12, locals := 105 }) (wS ad cI cZ mp lf n Pb gt gp gh Pv gd Pq cr rest) [.ref (ad 0), .int (v)] (bI (fun x ws9 => cr = false ∧ (0 ≤ v ∧ v < nI nv) ∧ (((md v.toNatClampNeg = true ∨ 400 < n + 2) ∧ x = bB false ∧ ws9 = wS ad cI cZ mp lf n Pb gt gp gh Pv gd Pq cr rest) ∨ ((md v.toNatClampNeg = false ∧ n + 2 ≤ 400) ∧ x = bB true ∧ ∃ (lf1 gd1 : Nat → Int32), lg_R lf1 (n + 2) (rec2 lg n 4 v.toNatClampNeg) ∧ mk_R 12 gd1 (mk_up md v.toNatClampNeg true) ∧ ws9 = wS ad cI cZ mp lf1 (n + 2) Pb gt gp gh Pv gd1 Pq cr rest))) (fun E ws9 => (cr = true ∧ E = "java/lang/IllegalStateException" ∧ ws9 = wS ad cI cZ mp lf n Pb gt gp gh Pv gd Pq cr rest) ∨ (cr = false ∧ ¬ (0 ≤ v ∧ v < nI nv) ∧ E = "java/lang/IndexOutOfBoundsException" ∧ ws9 = wS ad cI cZ mp lf n Pb gt gp gh Pv gd Pq cr rest))) := by
  have fl : n ≤ 400 := hRl.1
  have fv : nv < 13 := hRv.2.1
  refine bC.of (by decide) m_S_drop.1 (Nat.le_of_ble_eq_true rfl) ?_
  intro Γ G E0
  show bV D bcl Γ 2 (wS ad cI cZ mp lf n Pb gt gp gh Pv gd Pq cr rest) 0 0 0 [(0, .ref (ad 0)), (1, .int (v))] []
  refine bV.aload_n G d_S_drop_0 rfl ?_
  refine bV.callVot G m_S_requireRunning bw_114 bw_s0 bw_112 (c_S_requireRunning ) 0 rfl rfl rfl rfl rfl ⟨by decide, by decide⟩ ⟨by decide, by decide⟩ (Nat.le_of_ble_eq_true rfl) d_S_drop_1 (fun ws9 h9 => ?_) (fun E9 ws9 h9 => ?_)
  · obtain ⟨hg1, h9e⟩ := h9
    rw [h9e]
    refine bV.aload_n G d_S_drop_4 rfl ?_
    refine bV.iload_n G d_S_drop_5 rfl ?_
    refine bV.callVot G m_S_requireVersion bw_286 bw_s6 bw_284 (c_S_requireVersion hRv (v := v)) 0 rfl rfl rfl rfl rfl ⟨by decide, by decide⟩ ⟨by decide, by decide⟩ (Nat.le_of_ble_eq_true rfl) d_S_drop_6 (fun ws9 h9 => ?_) (fun E9 ws9 h9 => ?_)
    · obtain ⟨hg6, h9e⟩ := h9
      rw [h9e]
      have hg6b := hg6
      obtain ⟨j, hj, rfl⟩ := nI_btw hg6 (by omega)
      refine bV.aload_n G d_S_drop_9 rfl ?_
      refine bV.getf G cl_S 0 6 rfl (by decide) bw_79 rfl d_S_drop_10 ?_
      refine bV.iload_n G d_S_drop_13 rfl ?_
      refine bV.callVi G m_K_isOn bw_212 bw_213 bw_211 (c_K_isOn wS_d hRd (j := j) (by omega)) 15 rfl rfl rfl rfl rfl ⟨by decide, by decide⟩ ⟨by decide, by decide⟩ (Nat.le_of_ble_eq_true rfl) d_S_drop_14 (fun x9 ws9 h9 => ?_)
      obtain ⟨rfl, h9e⟩ := h9
      rw [h9e]
      try dsimp only
      rw [decide_eq_true (show j < 12 by omega), Bool.true_and]
      refine bV.if_neB (tgt := 31) G d_S_drop_17 (by decide) (fun c17 => ?_) (fun c17 => ?_)
      · refine bV.iconst (v := nI 0) G d_S_drop_31 (by decide) ?_
        refine bV.topi (x := nI 0) (y := bB false) (by decide) ?_
        exact bV.iretI G E0 rfl (bB_n _) (by decide) (by decide) d_S_drop_32 ⟨hg1, hg6b, by rw [nI_clamp (by omega)]; exact Or.inl ⟨by first | exact Or.inl c17 | exact Or.inr (by omega), rfl, rfl⟩⟩
      · refine bV.aload_n G d_S_drop_20 rfl ?_
        refine bV.getf G cl_S 0 0 rfl (by decide) bw_73 rfl d_S_drop_21 ?_
        refine bV.iconst (v := nI 2) G d_S_drop_24 (by decide) ?_
        refine bV.callVi G m_L_hasRoom bw_241 bw_242 bw_240 (c_L_hasRoom wS_l hRl (y := 2) (by omega)) 1 rfl rfl rfl rfl rfl ⟨by decide, by decide⟩ ⟨by decide, by decide⟩ (Nat.le_of_ble_eq_true rfl) d_S_drop_25 (fun x9 ws9 h9 => ?_)
        obtain ⟨rfl, h9e⟩ := h9
        rw [h9e]
        try dsimp only
        refine bV.if_neB (tgt := 33) G d_S_drop_28 (by decide) (fun c28 => ?_) (fun c28 => ?_)
        · have h28 := of_decide_eq_true c28
          refine bV.aload_n G d_S_drop_33 rfl ?_
          refine bV.getf G cl_S 0 0 rfl (by decide) bw_73 rfl d_S_drop_34 ?_
          refine bV.iconst (v := nI 4) G d_S_drop_37 (by decide) ?_
          refine bV.callVo G m_L_add bw_245 bw_246 bw_244 (cS_l_add (x := 4) hRl (by omega) (by omega)) 1 rfl rfl rfl rfl rfl ⟨by decide, by decide⟩ ⟨by decide, by decide⟩ (Nat.le_of_ble_eq_true rfl) d_S_drop_38 (fun ws9 h9 => ?_)
          obtain ⟨lf1, hRl2, h9e⟩ := h9
          rw [h9e]
          refine bV.aload_n G d_S_drop_41 rfl ?_
          refine bV.getf G cl_S 0 0 rfl (by decide) bw_73 rfl d_S_drop_42 ?_
          refine bV.iload_n G d_S_drop_45 rfl ?_
          refine bV.callVo G m_L_add bw_245 bw_246 bw_244 (cS_l_add (x := j) hRl2 (by omega) (by omega)) 1 rfl rfl rfl rfl rfl ⟨by decide, by decide⟩ ⟨by decide, by decide⟩ (Nat.le_of_ble_eq_true rfl) d_S_drop_46 (fun ws9 h9 => ?_)
          obtain ⟨lf3, hRl4, h9e⟩ := h9
          rw [h9e]
          refine bV.aload_n G d_S_drop_49 rfl ?_
          refine bV.getf G cl_S 0 6 rfl (by decide) bw_79 rfl d_S_drop_50 ?_
          refine bV.iload_n G d_S_drop_53 rfl ?_
          refine bV.callVo G m_K_turnOn bw_258 bw_259 bw_257 (cS_d_turnOn (j := j) hRd (by omega)) 15 rfl rfl rfl rfl rfl ⟨by decide, by decide⟩ ⟨by decide, by decide⟩ (Nat.le_of_ble_eq_true rfl) d_S_drop_54 (fun ws9 h9 => ?_)
          obtain ⟨gd5, hRd6, h9e⟩ := h9
          rw [h9e]
          refine bV.iconst (v := nI 1) G d_S_drop_57 (by decide) ?_
          refine bV.topi (x := nI 1) (y := bB true) (by decide) ?_
          exact bV.iretI G E0 rfl (bB_n _) (by decide) (by decide) d_S_drop_58 ⟨hg1, hg6b, by rw [nI_clamp (by omega)]; exact Or.inr ⟨⟨c17, by omega⟩, rfl, lf3, gd5, hRl4, hRd6, rfl⟩⟩
        · have h28 := of_decide_eq_false c28
          refine bV.iconst (v := nI 0) G d_S_drop_31 (by decide) ?_
          refine bV.topi (x := nI 0) (y := bB false) (by decide) ?_
          exact bV.iretI G E0 rfl (bB_n _) (by decide) (by decide) d_S_drop_32 ⟨hg1, hg6b, by rw [nI_clamp (by omega)]; exact Or.inl ⟨by first | exact Or.inl c17 | exact Or.inr (by omega), rfl, rfl⟩⟩
    · obtain ⟨hz, rfl, h9e⟩ := h9
      rw [h9e]
      exact bT.leaveI G E0 rfl (by decide) (by decide) (Or.inr ⟨hg1, hz, rfl, rfl⟩)
  · obtain ⟨hz, rfl, h9e⟩ := h9
    rw [h9e]
    exact bT.leaveI G E0 rfl (by decide) (by decide) (Or.inl ⟨hz, rfl, rfl⟩)
theorem d_S_poke_0 : decode b_S_poke 0 = .ok (.aload_n 0, 1) := by decide +kernel
theorem d_S_poke_1 : decode b_S_poke 1 = .ok (.invokevirtual 62, 3) := by decide +kernel
theorem d_S_poke_4 : decode b_S_poke 4 = .ok (.aload_n 0, 1) := by decide +kernel
theorem d_S_poke_5 : decode b_S_poke 5 = .ok (.iload_n 1, 1) := by decide +kernel
theorem d_S_poke_6 : decode b_S_poke 6 = .ok (.iload_n 2, 1) := by decide +kernel
theorem d_S_poke_7 : decode b_S_poke 7 = .ok (.invokevirtual 164, 3) := by decide +kernel
theorem d_S_poke_10 : decode b_S_poke 10 = .ok (.aload_n 0, 1) := by decide +kernel
theorem d_S_poke_11 : decode b_S_poke 11 = .ok (.getfield 55, 3) := by decide +kernel
theorem d_S_poke_14 : decode b_S_poke 14 = .ok (.iload_n 1, 1) := by decide +kernel
theorem d_S_poke_15 : decode b_S_poke 15 = .ok (.iload_n 2, 1) := by decide +kernel
theorem d_S_poke_16 : decode b_S_poke 16 = .ok (.invokevirtual 107, 3) := by decide +kernel
theorem d_S_poke_19 : decode b_S_poke 19 = .ok (.istore 4, 2) := by decide +kernel
theorem d_S_poke_21 : decode b_S_poke 21 = .ok (.iload 4, 2) := by decide +kernel
theorem d_S_poke_23 : decode b_S_poke 23 = .ok (.iload_n 3, 1) := by decide +kernel
theorem d_S_poke_24 : decode b_S_poke 24 = .ok (.sipush 255, 3) := by decide +kernel
theorem d_S_poke_27 : decode b_S_poke 27 = .ok (.iand, 1) := by decide +kernel
theorem d_S_poke_28 : decode b_S_poke 28 = .ok (.ixor, 1) := by decide +kernel
theorem d_S_poke_29 : decode b_S_poke 29 = .ok (.istore 5, 2) := by decide +kernel
theorem d_S_poke_31 : decode b_S_poke 31 = .ok (.aload_n 0, 1) := by decide +kernel
theorem d_S_poke_32 : decode b_S_poke 32 = .ok (.getfield 55, 3) := by decide +kernel
theorem d_S_poke_35 : decode b_S_poke 35 = .ok (.iload_n 1, 1) := by decide +kernel
theorem d_S_poke_36 : decode b_S_poke 36 = .ok (.iload_n 2, 1) := by decide +kernel
theorem d_S_poke_37 : decode b_S_poke 37 = .ok (.iload 5, 2) := by decide +kernel
theorem d_S_poke_39 : decode b_S_poke 39 = .ok (.invokevirtual 167, 3) := by decide +kernel
theorem d_S_poke_42 : decode b_S_poke 42 = .ok (.iload 5, 2) := by decide +kernel
theorem d_S_poke_44 : decode b_S_poke 44 = .ok (.iload 4, 2) := by decide +kernel
theorem d_S_poke_46 : decode b_S_poke 46 = .ok (.if_icmp .eq 7, 3) := by decide +kernel
theorem d_S_poke_49 : decode b_S_poke 49 = .ok (.iconst 1, 1) := by decide +kernel
theorem d_S_poke_50 : decode b_S_poke 50 = .ok (.goto 4, 3) := by decide +kernel
theorem d_S_poke_53 : decode b_S_poke 53 = .ok (.iconst 0, 1) := by decide +kernel
theorem d_S_poke_54 : decode b_S_poke 54 = .ok (.ireturn, 1) := by decide +kernel
set_option maxRecDepth 20000 in
set_option maxHeartbeats 4000000 in
theorem c_S_poke {D : va_G} {cI cZ cJ : ClassId} {ad : Nat → Nat} {mp : Nat} {lf : Nat → Int32} {n : Nat} {Pb : pc_C} {gt gp gh : Nat → Int32} {Pv : pc_C} {gd : Nat → Int32} {Pq : pc_C} {cr : Bool} {rest : va_W} {np : Nat} {ql : Nat → Nat} {qa : Nat → Nat → Nat} (hRq : pc_R 664 (mp + 1) Pq (np, ql, qa)) {v u mm : Int32} (hm : mp ≤ 8) (hq256 : ∀ p i, p < np → i < ql p → qa p i < 256) : bC D bcl (tys3 cI cZ cJ) y_S_poke ({ frames := 7, cells := 2, slots := 12, locals := 106 }) (wS ad cI cZ mp lf n Pb gt gp gh Pv gd Pq cr rest) [.ref (ad 0), .int (v), .int (u), .int (mm)] (bI (fun x ws9 => cr = false ∧ ((0 ≤ v ∧ v < nI np) ∧ 0 ≤ u ∧ u < nI (ql v.toNatClampNeg)) ∧ x = bB (decide (mkN mm ≠ 0)) ∧ ∃ Pq1 : pc_C, pc_R 664 (mp + 1) Pq1 (np, ql, fup2 qa v.toNatClampNeg u.toNatClampNeg (pkX (qa v.toNatClampNeg u.toNatClampNeg) mm)) ∧ ws9 = wS ad cI cZ mp lf n Pb gt gp gh Pv gd Pq1 cr rest) (fun E ws9 => (cr = true ∧ E = "java/lang/IllegalStateException" ∧ ws9 = wS ad cI cZ mp lf n Pb gt gp gh Pv gd Pq cr rest) ∨ (cr = false ∧ ¬ ((0 ≤ v ∧ v < nI np) ∧ 0 ≤ u ∧ u < nI (ql v.toNatClampNeg)) ∧ E = "java/lang/IndexOutOfBoundsException" ∧ ws9 = wS ad cI cZ mp lf n Pb gt gp gh Pv gd Pq cr rest))) := by
  have fq : np < mp + 1 := hRq.2.1
  refine bC.of (by decide) m_S_poke.1 (Nat.le_of_ble_eq_true rfl) ?_
  intro Γ G E0
  show bV D bcl Γ 6 (wS ad cI cZ mp lf n Pb gt gp gh Pv gd Pq cr rest) 0 0 0 [(0, .ref (ad 0)), (1, .int (v)), (2, .int (u)), (3, .int (mm))] []
  refine bV.aload_n G d_S_poke_0 rfl ?_
  refine bV.callVot G m_S_requireRunning bw_114 bw_s0 bw_112 (c_S_requireRunning ) 0 rfl rfl rfl rfl rfl ⟨by decide, by decide⟩ ⟨by decide, by decide⟩ (Nat.le_of_ble_eq_true rfl) d_S_poke_1 (fun ws9 h9 => ?_) (fun E9 ws9 h9 => ?_)
  · obtain ⟨hg1, h9e⟩ := h9
    rw [h9e]
    refine bV.aload_n G d_S_poke_4 rfl ?_
    refine bV.iload_n G d_S_poke_5 rfl ?_
    refine bV.iload_n G d_S_poke_6 rfl ?_
    refine bV.callVot G m_S_requireByteOfPack bw_488 bw_s23 bw_486 (c_S_requireByteOfPack hRq (v := v) (u := u) hm) 0 rfl rfl rfl rfl rfl ⟨by decide, by decide⟩ ⟨by decide, by decide⟩ (Nat.le_of_ble_eq_true rfl) d_S_poke_7 (fun ws9 h9 => ?_) (fun E9 ws9 h9 => ?_)
    · obtain ⟨hg7, h9e⟩ := h9
      rw [h9e]
      have hg7b := hg7
      obtain ⟨j, hj, rfl⟩ := nI_btw hg7.1 (by omega)
      have hl9 : ql j ≤ 664 := pc_R_len (A := (np, ql, qa)) hRq (Nat.le_of_lt hj)
      have hg8 : 0 ≤ u ∧ u < nI (ql j) := ⟨hg7.2.1, by have z3 := hg7.2.2; rw [nI_clamp (by omega)] at z3; exact z3⟩
      obtain ⟨i, hi, rfl⟩ := nI_btw hg8 (by omega)
      have hq8 := hq256 j i hj hi
      have hq9 := pkX_lt hq8 mm
      refine bV.aload_n G d_S_poke_10 rfl ?_
      refine bV.getf G cl_S 0 7 rfl (by decide) bw_80 rfl d_S_poke_11 ?_
      refine bV.iload_n G d_S_poke_14 rfl ?_
      refine bV.iload_n G d_S_poke_15 rfl ?_
      refine bV.callVi G m_P_at bw_221 bw_222 bw_322 (c_P_at wS_q hRq (j := j) (i := i) (by first | omega | exact Nat.le_refl _) (by omega)) 17 rfl rfl rfl rfl rfl ⟨by decide, by decide⟩ ⟨by decide, by decide⟩ (Nat.le_of_ble_eq_true rfl) d_S_poke_16 (fun x9 ws9 h9 => ?_)
      obtain ⟨rfl, h9e⟩ := h9
      rw [h9e]
      try dsimp only
      rw [if_pos (by show i < ql j; omega)]
      refine bV.istore G (lv' := [(0, .ref (ad 0)), (1, .int (nI (j))), (2, .int (nI (i))), (3, .int (mm)), (4, .int (nI (qa j i)))]) d_S_poke_19 (by decide) rfl rfl ?_
      refine bV.iload G d_S_poke_21 rfl ?_
      refine bV.iload_n G d_S_poke_23 rfl ?_
      refine bV.sipush (v := nI 255) G d_S_poke_24 (by decide) ?_
      refine bV.iand G d_S_poke_27 ?_
      refine bV.ixor G d_S_poke_28 ?_
      refine bV.topi (y := (nI (pkX (qa j i) mm))) (pkX_e _ _) ?_
      refine bV.istore G (lv' := [(0, .ref (ad 0)), (1, .int (nI (j))), (2, .int (nI (i))), (3, .int (mm)), (4, .int (nI (qa j i))), (5, .int (nI (pkX (qa j i) mm)))]) d_S_poke_29 (by decide) rfl rfl ?_
      refine bV.aload_n G d_S_poke_31 rfl ?_
      refine bV.getf G cl_S 0 7 rfl (by decide) bw_80 rfl d_S_poke_32 ?_
      refine bV.iload_n G d_S_poke_35 rfl ?_
      refine bV.iload_n G d_S_poke_36 rfl ?_
      refine bV.iload G d_S_poke_37 rfl ?_
      refine bV.callVo G m_P_put bw_492 bw_493 bw_491 (cS_q_put (j := j) (i := i) (x := pkX (qa j i) mm) hRq (by show j ≤ np; omega) (by show i < ql j; omega) (by omega)) 17 rfl rfl rfl rfl rfl ⟨by decide, by decide⟩ ⟨by decide, by decide⟩ (Nat.le_of_ble_eq_true rfl) d_S_poke_39 (fun ws9 h9 => ?_)
      obtain ⟨Pq1, hRq2, h9e⟩ := h9
      rw [h9e]
      try dsimp only at hRq2
      refine bV.iload G d_S_poke_42 rfl ?_
      refine bV.iload G d_S_poke_44 rfl ?_
      refine bV.icmp_eqN (tgt := 53) G d_S_poke_46 (by decide) (by omega) (by omega) (fun c46 => ?_) (fun c46 => ?_)
      · refine bV.iconst (v := nI 0) G d_S_poke_53 (by decide) ?_
        refine bV.topi (x := nI 0) (y := bB false) (by decide) ?_
        exact bV.iretI G E0 rfl (bB_n _) (by decide) (by decide) d_S_poke_54 ⟨hg1, hg7b, by rw [decide_eq_false (p := mkN mm ≠ 0) (fun z => z ((pkX_eq _ _).mp c46))], Pq1, by rw [nI_clamp (by omega), nI_clamp (by omega)]; exact hRq2, rfl⟩
      · refine bV.iconst (v := nI 1) G d_S_poke_49 (by decide) ?_
        refine bV.goto (tgt := 54) G d_S_poke_50 (by decide) ?_
        refine bV.topi (x := nI 1) (y := bB true) (by decide) ?_
        exact bV.iretI G E0 rfl (bB_n _) (by decide) (by decide) d_S_poke_54 ⟨hg1, hg7b, by rw [decide_eq_true (p := mkN mm ≠ 0) (fun z => c46 ((pkX_eq _ _).mpr z))], Pq1, by rw [nI_clamp (by omega), nI_clamp (by omega)]; exact hRq2, rfl⟩
    · obtain ⟨hz, rfl, h9e⟩ := h9
      rw [h9e]
      exact bT.leaveI G E0 rfl (by decide) (by decide) (Or.inr ⟨hg1, hz, rfl, rfl⟩)
  · obtain ⟨hz, rfl, h9e⟩ := h9
    rw [h9e]
    exact bT.leaveI G E0 rfl (by decide) (by decide) (Or.inl ⟨hz, rfl, rfl⟩)
theorem d_S_crash_0 : decode b_S_crash 0 = .ok (.aload_n 0, 1) := by decide +kernel
theorem d_S_crash_1 : decode b_S_crash 1 = .ok (.invokevirtual 62, 3) := by decide +kernel
theorem d_S_crash_4 : decode b_S_crash 4 = .ok (.aload_n 0, 1) := by decide +kernel
theorem d_S_crash_5 : decode b_S_crash 5 = .ok (.iload_n 1, 1) := by decide +kernel
theorem d_S_crash_6 : decode b_S_crash 6 = .ok (.invokevirtual 144, 3) := by decide +kernel
theorem d_S_crash_9 : decode b_S_crash 9 = .ok (.aload_n 0, 1) := by decide +kernel
theorem d_S_crash_10 : decode b_S_crash 10 = .ok (.getfield 12, 3) := by decide +kernel
theorem d_S_crash_13 : decode b_S_crash 13 = .ok (.invokevirtual 147, 3) := by decide +kernel
theorem d_S_crash_16 : decode b_S_crash 16 = .ok (.iload_n 1, 1) := by decide +kernel
theorem d_S_crash_17 : decode b_S_crash 17 = .ok (.if_icmp .le 7, 3) := by decide +kernel
theorem d_S_crash_20 : decode b_S_crash 20 = .ok (.iconst 1, 1) := by decide +kernel
theorem d_S_crash_21 : decode b_S_crash 21 = .ok (.goto 4, 3) := by decide +kernel
theorem d_S_crash_24 : decode b_S_crash 24 = .ok (.iconst 0, 1) := by decide +kernel
theorem d_S_crash_25 : decode b_S_crash 25 = .ok (.istore_n 2, 1) := by decide +kernel
theorem d_S_crash_26 : decode b_S_crash 26 = .ok (.aload_n 0, 1) := by decide +kernel
theorem d_S_crash_27 : decode b_S_crash 27 = .ok (.getfield 12, 3) := by decide +kernel
theorem d_S_crash_30 : decode b_S_crash 30 = .ok (.iload_n 1, 1) := by decide +kernel
theorem d_S_crash_31 : decode b_S_crash 31 = .ok (.invokevirtual 149, 3) := by decide +kernel
theorem d_S_crash_34 : decode b_S_crash 34 = .ok (.aload_n 0, 1) := by decide +kernel
theorem d_S_crash_35 : decode b_S_crash 35 = .ok (.invokevirtual 152, 3) := by decide +kernel
theorem d_S_crash_38 : decode b_S_crash 38 = .ok (.aload_n 0, 1) := by decide +kernel
theorem d_S_crash_39 : decode b_S_crash 39 = .ok (.iconst 1, 1) := by decide +kernel
theorem d_S_crash_40 : decode b_S_crash 40 = .ok (.putfield 58, 3) := by decide +kernel
theorem d_S_crash_43 : decode b_S_crash 43 = .ok (.iload_n 2, 1) := by decide +kernel
theorem d_S_crash_44 : decode b_S_crash 44 = .ok (.ireturn, 1) := by decide +kernel
set_option maxRecDepth 20000 in
set_option maxHeartbeats 4000000 in
theorem c_S_crash {D : va_G} {cI cZ cJ : ClassId} {ad : Nat → Nat} {mp : Nat} {lf : Nat → Int32} {n : Nat} {Pb : pc_C} {gt gp gh : Nat → Int32} {Pv : pc_C} {gd : Nat → Int32} {Pq : pc_C} {cr : Bool} {rest : va_W} {lg : Nat → Nat} {nb : Nat} {bl : Nat → Nat} {ba : Nat → Nat → Nat} {mt : Nat → Bool} {mk : Nat → Bool} {nv : Nat} {vl : Nat → Nat} {va : Nat → Nat → Nat} {md : Nat → Bool} {np : Nat} {ql : Nat → Nat} {qa : Nat → Nat → Nat} (hRl : lg_R lf n lg) (hRb : pc_R 600 25 Pb (nb, bl, ba)) (hRt : mk_R 24 gt mt) (hRp : mk_R 24 gp mk) (hRv : pc_R 104 13 Pv (nv, vl, va)) (hRd : mk_R 12 gd md) (hRq : pc_R 664 (mp + 1) Pq (np, ql, qa)) {v : Int32} : bC D bcl (tys3 cI cZ cJ) y_S_crash ({ frames := 7, cells := 2, slots := 12, locals := 105 }) (wS ad cI cZ mp lf n Pb gt gp gh Pv gd Pq cr rest) [.ref (ad 0), .int (v)] (bI (fun x ws9 => cr = false ∧ (0 ≤ v ∧ v ≤ nI n) ∧ x = bB (decide (v.toNatClampNeg < n)) ∧ lg_R lf v.toNatClampNeg lg ∧ ∃ (Pb1 : pc_C) (gt1 gp1 : Nat → Int32) (Pv1 : pc_C) (gd1 : Nat → Int32) (Pq1 : pc_C), pc_R 600 25 Pb1 (0, (fun _ => 0), ba) ∧ mk_R 24 gt1 (fun _ => false) ∧ mk_R 24 gp1 (fun _ => false) ∧ pc_R 104 13 Pv1 (0, (fun _ => 0), va) ∧ mk_R 12 gd1 (fun _ => false) ∧ pc_R 664 (mp + 1) Pq1 (0, (fun _ => 0), qa) ∧ ws9 = wS ad cI cZ mp lf v.toNatClampNeg Pb1 gt1 gp1 gh Pv1 gd1 Pq1 true rest) (fun E ws9 => (cr = true ∧ E = "java/lang/IllegalStateException" ∧ ws9 = wS ad cI cZ mp lf n Pb gt gp gh Pv gd Pq cr rest) ∨ (cr = false ∧ ¬ (0 ≤ v ∧ v ≤ nI n) ∧ E = "java/lang/IllegalArgumentException" ∧ ws9 = wS ad cI cZ mp lf n Pb gt gp gh Pv gd Pq cr rest))) := by
  have fl : n ≤ 400 := hRl.1
  have fb : nb < 25 := hRb.2.1
  have fv : nv < 13 := hRv.2.1
  have fq : np < mp + 1 := hRq.2.1
  refine bC.of (by decide) m_S_crash.1 (Nat.le_of_ble_eq_true rfl) ?_
  intro Γ G E0
  show bV D bcl Γ 3 (wS ad cI cZ mp lf n Pb gt gp gh Pv gd Pq cr rest) 0 0 0 [(0, .ref (ad 0)), (1, .int (v))] []
  refine bV.aload_n G d_S_crash_0 rfl ?_
  refine bV.callVot G m_S_requireRunning bw_114 bw_s0 bw_112 (c_S_requireRunning ) 0 rfl rfl rfl rfl rfl ⟨by decide, by decide⟩ ⟨by decide, by decide⟩ (Nat.le_of_ble_eq_true rfl) d_S_crash_1 (fun ws9 h9 => ?_) (fun E9 ws9 h9 => ?_)
  · obtain ⟨hg1, h9e⟩ := h9
    rw [h9e]
    refine bV.aload_n G d_S_crash_4 rfl ?_
    refine bV.iload_n G d_S_crash_5 rfl ?_
    refine bV.callVot G m_S_requireKeepable bw_411 bw_s17 bw_409 (c_S_requireKeepable hRl (v := v)) 0 rfl rfl rfl rfl rfl ⟨by decide, by decide⟩ ⟨by decide, by decide⟩ (Nat.le_of_ble_eq_true rfl) d_S_crash_6 (fun ws9 h9 => ?_) (fun E9 ws9 h9 => ?_)
    · obtain ⟨hg6, h9e⟩ := h9
      rw [h9e]
      have hg6b := hg6
      obtain ⟨j, hj, rfl⟩ := kp_btw hg6 (by omega)
      refine bV.aload_n G d_S_crash_9 rfl ?_
      refine bV.getf G cl_S 0 0 rfl (by decide) bw_73 rfl d_S_crash_10 ?_
      refine bV.callVi G m_L_length bw_414 bw_415 bw_413 (c_L_length wS_l hRl) 1 rfl rfl rfl rfl rfl ⟨by decide, by decide⟩ ⟨by decide, by decide⟩ (Nat.le_of_ble_eq_true rfl) d_S_crash_13 (fun x9 ws9 h9 => ?_)
      obtain ⟨rfl, h9e⟩ := h9
      rw [h9e]
      try dsimp only
      refine bV.iload_n G d_S_crash_16 rfl ?_
      refine bV.icmp_leN (tgt := 24) G d_S_crash_17 (by decide) (by omega) (by omega) (fun c17 => ?_) (fun c17 => ?_)
      · refine bV.iconst (v := nI 0) G d_S_crash_24 (by decide) ?_
        refine bV.istore_n G (lv' := [(0, .ref (ad 0)), (1, .int (nI (j))), (2, .int (nI (0)))]) d_S_crash_25 (by decide) rfl rfl ?_
        refine bV.aload_n G d_S_crash_26 rfl ?_
        refine bV.getf G cl_S 0 0 rfl (by decide) bw_73 rfl d_S_crash_27 ?_
        refine bV.iload_n G d_S_crash_30 rfl ?_
        refine bV.callVo G m_L_cutTo bw_434 bw_435 bw_433 (cS_l_cutTo (i := j) hRl (by omega)) 1 rfl rfl rfl rfl rfl ⟨by decide, by decide⟩ ⟨by decide, by decide⟩ (Nat.le_of_ble_eq_true rfl) d_S_crash_31 (fun ws9 h9 => ?_)
        rw [h9]
        have hRl1 := lg_R_cut hRl (k := j) (by omega)
        refine bV.aload_n G d_S_crash_34 rfl ?_
        refine bV.callVo G m_S_forgetAllButLog bw_439 bw_s18 bw_437 (c_S_forgetAllButLog hRb hRt hRp hRv hRd hRq ) 0 rfl rfl rfl rfl rfl ⟨by decide, by decide⟩ ⟨by decide, by decide⟩ (Nat.le_of_ble_eq_true rfl) d_S_crash_35 (fun ws9 h9 => ?_)
        obtain ⟨Pb1, gt1, gp1, Pv1, gd1, Pq1, hRb1, hRt1, hRp1, hRv1, hRd1, hRq1, h9e⟩ := h9
        rw [h9e]
        refine bV.aload_n G d_S_crash_38 rfl ?_
        refine bV.iconst (v := nI 1) G d_S_crash_39 (by decide) ?_
        refine bV.topi (x := nI 1) (y := bB true) (by decide) ?_
        refine bV.putf G (ws' := (wS ad cI cZ mp lf j Pb1 gt1 gp1 gh Pv1 gd1 Pq1 true rest)) cl_S 0 8 rfl (by decide) bw_81 rfl (bB_n _) (bB_f _) (Nat.le_of_ble_eq_true rfl) d_S_crash_40 rfl ?_
        refine bV.iload_n G d_S_crash_43 rfl ?_
        refine bV.topi (x := nI 0) (y := bB false) (by decide) ?_
        exact bV.iretI G E0 rfl (bB_n _) (by decide) (by decide) d_S_crash_44 ⟨hg1, hg6b, by rw [nI_clamp (by omega)]; first | rw [decide_eq_true (show j < n by omega)] | rw [decide_eq_false (show ¬ j < n by omega)], by rw [nI_clamp (by omega)]; exact hRl1, Pb1, gt1, gp1, Pv1, gd1, Pq1, hRb1, hRt1, hRp1, hRv1, hRd1, hRq1, by rw [nI_clamp (by omega)]⟩
      · refine bV.iconst (v := nI 1) G d_S_crash_20 (by decide) ?_
        refine bV.goto (tgt := 25) G d_S_crash_21 (by decide) ?_
        refine bV.istore_n G (lv' := [(0, .ref (ad 0)), (1, .int (nI (j))), (2, .int (nI (1)))]) d_S_crash_25 (by decide) rfl rfl ?_
        refine bV.aload_n G d_S_crash_26 rfl ?_
        refine bV.getf G cl_S 0 0 rfl (by decide) bw_73 rfl d_S_crash_27 ?_
        refine bV.iload_n G d_S_crash_30 rfl ?_
        refine bV.callVo G m_L_cutTo bw_434 bw_435 bw_433 (cS_l_cutTo (i := j) hRl (by omega)) 1 rfl rfl rfl rfl rfl ⟨by decide, by decide⟩ ⟨by decide, by decide⟩ (Nat.le_of_ble_eq_true rfl) d_S_crash_31 (fun ws9 h9 => ?_)
        rw [h9]
        have hRl2 := lg_R_cut hRl (k := j) (by omega)
        refine bV.aload_n G d_S_crash_34 rfl ?_
        refine bV.callVo G m_S_forgetAllButLog bw_439 bw_s18 bw_437 (c_S_forgetAllButLog hRb hRt hRp hRv hRd hRq ) 0 rfl rfl rfl rfl rfl ⟨by decide, by decide⟩ ⟨by decide, by decide⟩ (Nat.le_of_ble_eq_true rfl) d_S_crash_35 (fun ws9 h9 => ?_)
        obtain ⟨Pb1, gt1, gp1, Pv1, gd1, Pq1, hRb1, hRt1, hRp1, hRv1, hRd1, hRq1, h9e⟩ := h9
        rw [h9e]
        refine bV.aload_n G d_S_crash_38 rfl ?_
        refine bV.iconst (v := nI 1) G d_S_crash_39 (by decide) ?_
        refine bV.topi (x := nI 1) (y := bB true) (by decide) ?_
        refine bV.putf G (ws' := (wS ad cI cZ mp lf j Pb1 gt1 gp1 gh Pv1 gd1 Pq1 true rest)) cl_S 0 8 rfl (by decide) bw_81 rfl (bB_n _) (bB_f _) (Nat.le_of_ble_eq_true rfl) d_S_crash_40 rfl ?_
        refine bV.iload_n G d_S_crash_43 rfl ?_
        refine bV.topi (x := nI 1) (y := bB true) (by decide) ?_
        exact bV.iretI G E0 rfl (bB_n _) (by decide) (by decide) d_S_crash_44 ⟨hg1, hg6b, by rw [nI_clamp (by omega)]; first | rw [decide_eq_true (show j < n by omega)] | rw [decide_eq_false (show ¬ j < n by omega)], by rw [nI_clamp (by omega)]; exact hRl2, Pb1, gt1, gp1, Pv1, gd1, Pq1, hRb1, hRt1, hRp1, hRv1, hRd1, hRq1, by rw [nI_clamp (by omega)]⟩
    · obtain ⟨hz, rfl, h9e⟩ := h9
      rw [h9e]
      exact bT.leaveI G E0 rfl (by decide) (by decide) (Or.inr ⟨hg1, hz, rfl, rfl⟩)
  · obtain ⟨hz, rfl, h9e⟩ := h9
    rw [h9e]
    exact bT.leaveI G E0 rfl (by decide) (by decide) (Or.inl ⟨hz, rfl, rfl⟩)
end
section
/-! ===== what a log stands for: records, the state that they make, chains of them ===== -/
abbrev aS := Nat × (Nat → Nat) × (Nat → Nat) × (Nat → Bool) × Nat × (Nat → Nat) × (Nat → Nat → Nat) × (Nat → Bool)
def aS0 : aS := (0, fun _ => 0, fun _ => 0, fun _ => false, 0, fun _ => 0, fun _ _ => 0, fun _ => false)
abbrev sNb (S : aS) : Nat := S.1
abbrev sFr (S : aS) : Nat → Nat := S.2.1
abbrev sLn (S : aS) : Nat → Nat := S.2.2.1
abbrev sTh (S : aS) : Nat → Bool := S.2.2.2.1
abbrev sNv (S : aS) : Nat := S.2.2.2.2.1
abbrev sCt (S : aS) : Nat → Nat := S.2.2.2.2.2.1
abbrev sRw (S : aS) : Nat → Nat → Nat := S.2.2.2.2.2.2.1
abbrev sDr (S : aS) : Nat → Bool := S.2.2.2.2.2.2.2
def ac1 (p len : Nat) (S : aS) : aS := (sNb S + 1, fup (sFr S) (sNb S) (p + 2), fup (sLn S) (sNb S) len, mk_up (sTh S) (sNb S) true, sNv S, fup (sCt S) (sNv S) (sCt S (sNv S) + 1), fup2 (sRw S) (sNv S) (sCt S (sNv S)) (sNb S), sDr S)
def ac2 (j : Nat) (S : aS) : aS := (sNb S, sFr S, sLn S, sTh S, sNv S, fup (sCt S) (sNv S) (sCt S (sNv S) + 1), fup2 (sRw S) (sNv S) (sCt S (sNv S)) j, sDr S)
def ac3 (S : aS) : aS := (sNb S, sFr S, sLn S, sTh S, sNv S + 1, fup (sCt S) (sNv S + 1) 0, sRw S, sDr S)
def ac4 (v : Nat) (S : aS) : aS := (sNb S, sFr S, sLn S, sTh S, sNv S, sCt S, sRw S, mk_up (sDr S) v true)
noncomputable def ac5 (S : aS) : aS := (sNb S, sFr S, sLn S, swS (sTh S) (hlB (sDr S) (sCt S) (sRw S) (sNv S)) (sNb S), sNv S, sCt S, sRw S, sDr S)
noncomputable def actS (lg : Nat → Nat) (p : Nat) (S : aS) : aS := if lg p = 1 then ac1 p (lg (p + 1)) S else if lg p = 2 then ac2 (lg (p + 1)) S else if lg p = 3 then ac3 S else if lg p = 4 then ac4 (lg (p + 1)) S else ac5 S
def rlen (lg : Nat → Nat) (p : Nat) : Nat := if lg p = 1 then 2 + lg (p + 1) else if lg p = 2 ∨ lg p = 4 then 2 else 1
def okS (a : Nat) (S : aS) : Prop := sNb S ≤ 24 ∧ sNv S ≤ 12 ∧ (∀ v, v ≤ sNv S → sCt S v ≤ 8) ∧ (∀ v k, v ≤ sNv S → k < sCt S v → sRw S v k < sNb S) ∧ (∀ b, b < sNb S → sLn S b ≤ 24 ∧ sFr S b + sLn S b ≤ a) ∧ (∀ v, sDr S v = true → v < sNv S)
def okR (lg : Nat → Nat) (p : Nat) (S : aS) : Prop := (lg p = 1 ∧ sNb S < 24 ∧ lg (p + 1) ≤ 24 ∧ sCt S (sNv S) < 8) ∨ (lg p = 2 ∧ lg (p + 1) < sNb S ∧ sCt S (sNv S) < 8) ∨ (lg p = 3 ∧ sNv S < 12) ∨ (lg p = 4 ∧ lg (p + 1) < sNv S) ∨ lg p = 5
theorem act_1 {lg : Nat → Nat} {p : Nat} {S : aS} (h : lg p = 1) : actS lg p S = ac1 p (lg (p + 1)) S ∧ rlen lg p = 2 + lg (p + 1) := ⟨if_pos h, if_pos h⟩
theorem act_2 {lg : Nat → Nat} {p : Nat} {S : aS} (h : lg p = 2) : actS lg p S = ac2 (lg (p + 1)) S ∧ rlen lg p = 2 := by
  unfold actS rlen; rw [h]; exact ⟨rfl, rfl⟩
theorem act_3 {lg : Nat → Nat} {p : Nat} {S : aS} (h : lg p = 3) : actS lg p S = ac3 S ∧ rlen lg p = 1 := by
  unfold actS rlen; rw [h]; exact ⟨rfl, rfl⟩
theorem act_4 {lg : Nat → Nat} {p : Nat} {S : aS} (h : lg p = 4) : actS lg p S = ac4 (lg (p + 1)) S ∧ rlen lg p = 2 := by
  unfold actS rlen; rw [h]; exact ⟨rfl, rfl⟩
theorem act_5 {lg : Nat → Nat} {p : Nat} {S : aS} (h : lg p = 5) : actS lg p S = ac5 S ∧ rlen lg p = 1 := by
  unfold actS rlen; rw [h]; exact ⟨rfl, rfl⟩
theorem rlen_pos {lg : Nat → Nat} {p : Nat} : 1 ≤ rlen lg p := by
  unfold rlen
  split
  · omega
  · split <;> omega
theorem okS_mono {a b : Nat} {S : aS} (h : okS a S) (hab : a ≤ b) : okS b S := ⟨h.1, h.2.1, h.2.2.1, h.2.2.2.1, fun j hj => ⟨(h.2.2.2.2.1 j hj).1, Nat.le_trans (h.2.2.2.2.1 j hj).2 hab⟩, h.2.2.2.2.2⟩
theorem fup_le {f : Nat → Nat} {k v c j : Nat} (h : j ≠ k → f j ≤ c) (hv : v ≤ c) : fup f k v j ≤ c := by
  unfold fup
  split
  · exact hv
  · rename_i z; exact h z
theorem okS_act {lg : Nat → Nat} {p : Nat} {S : aS} (h : okS p S) (hr : okR lg p S) : okS (p + rlen lg p) (actS lg p S) := by
  obtain ⟨h1, h2, h3, h4, h5, h6⟩ := h
  rcases hr with ⟨k, a, b, c⟩ | ⟨k, a, c⟩ | ⟨k, a⟩ | ⟨k, a⟩ | k
  · rw [(act_1 k).1, (act_1 (S := S) k).2]
    refine ⟨?_, h2, fun v hv => fup_le (fun _ => h3 v hv) (by omega), fun v i hv hi => ?_, fun j hj => ?_, h6⟩
    · show sNb S + 1 ≤ 24; omega
    · show fup2 (sRw S) (sNv S) (sCt S (sNv S)) (sNb S) v i < sNb S + 1
      unfold fup2
      split
      · omega
      · rename_i z
        have hi' : i < fup (sCt S) (sNv S) (sCt S (sNv S) + 1) v := hi
        have : i < sCt S v := by
          by_cases e : v = sNv S
          · subst e; rw [fup_s] at hi'; omega
          · rw [fup_n e] at hi'; exact hi'
        have := h4 v i hv this
        omega
    · show fup (sLn S) (sNb S) (lg (p + 1)) j ≤ 24 ∧ fup (sFr S) (sNb S) (p + 2) j + fup (sLn S) (sNb S) (lg (p + 1)) j ≤ p + (2 + lg (p + 1))
      by_cases e : j = sNb S
      · subst e; rw [fup_s, fup_s]; omega
      · have hj' : j < sNb S + 1 := hj
        rw [fup_n e, fup_n e]
        have := h5 j (by omega)
        omega
  · rw [(act_2 k).1, (act_2 (S := S) k).2]
    refine ⟨h1, h2, fun v hv => fup_le (fun _ => h3 v hv) (by omega), fun v i hv hi => ?_, fun j hj => ⟨(h5 j hj).1, Nat.le_trans (h5 j hj).2 (Nat.le_add_right _ _)⟩, h6⟩
    show fup2 (sRw S) (sNv S) (sCt S (sNv S)) (lg (p + 1)) v i < sNb S
    unfold fup2
    split
    · omega
    · rename_i z
      have hi' : i < fup (sCt S) (sNv S) (sCt S (sNv S) + 1) v := hi
      have : i < sCt S v := by
        by_cases e : v = sNv S
        · subst e; rw [fup_s] at hi'; omega
        · rw [fup_n e] at hi'; exact hi'
      exact h4 v i hv this
  · rw [(act_3 k).1, (act_3 (S := S) k).2]
    refine ⟨h1, ?_, fun v hv => fup_le (fun e => ?_) (by omega), fun v i hv hi => ?_, fun j hj => ⟨(h5 j hj).1, Nat.le_trans (h5 j hj).2 (Nat.le_add_right _ _)⟩, fun v hv => Nat.lt_succ_of_lt (h6 v hv)⟩
    · show sNv S + 1 ≤ 12; omega
    · have hv' : v ≤ sNv S + 1 := hv
      exact h3 v (by omega)
    · have hv' : v ≤ sNv S + 1 := hv
      have hi' : i < fup (sCt S) (sNv S + 1) 0 v := hi
      by_cases e : v = sNv S + 1
      · subst e; rw [fup_s] at hi'; exact absurd hi' (Nat.not_lt_zero _)
      · rw [fup_n e] at hi'; exact h4 v i (by omega) hi'
  · rw [(act_4 k).1, (act_4 (S := S) k).2]
    refine ⟨h1, h2, h3, h4, fun j hj => ⟨(h5 j hj).1, Nat.le_trans (h5 j hj).2 (Nat.le_add_right _ _)⟩, fun v hv => ?_⟩
    have hv' : mk_up (sDr S) (lg (p + 1)) true v = true := hv
    unfold mk_up at hv'
    by_cases e : v = lg (p + 1)
    · show v < sNv S; omega
    · rw [if_neg e] at hv'; exact h6 v hv'
  · rw [(act_5 k).1, (act_5 (S := S) k).2]
    exact ⟨h1, h2, h3, h4, fun j hj => ⟨(h5 j hj).1, Nat.le_trans (h5 j hj).2 (Nat.le_add_right _ _)⟩, h6⟩
noncomputable def chS (lg : Nat → Nat) : Nat → Nat × aS
  | 0 => (0, aS0)
  | r + 1 => ((chS lg r).1 + rlen lg (chS lg r).1, actS lg (chS lg r).1 (chS lg r).2)
def okC (lg : Nat → Nat) (r : Nat) : Prop := ∀ q, q < r → okR lg (chS lg q).1 (chS lg q).2
theorem okS_0 : okS 0 aS0 := ⟨by decide, by decide, fun v _ => Nat.zero_le _, fun v k _ hk => absurd hk (Nat.not_lt_zero _), fun b hb => absurd hb (Nat.not_lt_zero _), fun v hv => by cases hv⟩
theorem okS_ch {lg : Nat → Nat} : ∀ r, okC lg r → okS (chS lg r).1 (chS lg r).2 := by
  intro r
  induction r with
  | zero => intro _; exact okS_0
  | succ r ih => intro h; exact okS_act (ih (fun q hq => h q (by omega))) (h r (Nat.lt_succ_self _))
theorem chS_le {lg : Nat → Nat} {q : Nat} : ∀ r, q ≤ r → (chS lg q).1 + (r - q) ≤ (chS lg r).1 := by
  intro r
  induction r with
  | zero => intro h; obtain rfl : q = 0 := Nat.le_zero.mp h; exact Nat.le_refl _
  | succ r ih =>
    intro h
    rcases Nat.lt_or_ge q (r + 1) with z | z
    · have h1 := ih (by omega)
      have h2 := rlen_pos (lg := lg) (p := (chS lg r).1)
      show (chS lg q).1 + (r + 1 - q) ≤ (chS lg r).1 + rlen lg (chS lg r).1
      omega
    · obtain rfl : q = r + 1 := by omega
      omega
theorem chS_r {lg : Nat → Nat} (r : Nat) : r ≤ (chS lg r).1 := by
  have h := chS_le (lg := lg) (q := 0) r (Nat.zero_le _)
  omega
theorem act_congr {lg lg' : Nat → Nat} {p : Nat} {S : aS} (h : ∀ i, p ≤ i → i < p + rlen lg p → lg' i = lg i) : rlen lg' p = rlen lg p ∧ actS lg' p S = actS lg p S ∧ (okR lg p S → okR lg' p S) := by
  have h0 : lg' p = lg p := h p (Nat.le_refl _) (by have := rlen_pos (lg := lg) (p := p); omega)
  by_cases k1 : lg p = 1
  · have e := (act_1 (S := S) k1).2
    have h1 : lg' (p + 1) = lg (p + 1) := h (p + 1) (by omega) (by omega)
    unfold rlen actS okR
    rw [h0, h1]
    exact ⟨rfl, rfl, id⟩
  by_cases k2 : lg p = 2
  · have e := (act_2 (S := S) k2).2
    have h1 : lg' (p + 1) = lg (p + 1) := h (p + 1) (by omega) (by omega)
    unfold rlen actS okR
    rw [h0, h1]
    exact ⟨rfl, rfl, id⟩
  by_cases k4 : lg p = 4
  · have e := (act_4 (S := S) k4).2
    have h1 : lg' (p + 1) = lg (p + 1) := h (p + 1) (by omega) (by omega)
    unfold rlen actS okR
    rw [h0, h1]
    exact ⟨rfl, rfl, id⟩
  · unfold rlen actS okR
    rw [h0, if_neg k1, if_neg k1, if_neg k1, if_neg k1, if_neg k2, if_neg k2, if_neg k4, if_neg k4]
    exact ⟨rfl, rfl, fun z => by
      rcases z with z | z | z | z | z
      · exact absurd z.1 k1
      · exact absurd z.1 k2
      · exact Or.inr (Or.inr (Or.inl z))
      · exact absurd z.1 k4
      · exact Or.inr (Or.inr (Or.inr (Or.inr z)))⟩
theorem chS_congr {lg lg' : Nat → Nat} {r : Nat} (h : ∀ i, i < (chS lg r).1 → lg' i = lg i) : ∀ q, q ≤ r → chS lg' q = chS lg q := by
  intro q
  induction q with
  | zero => intro _; rfl
  | succ q ih =>
    intro hq
    have h1 := chS_le (lg := lg) (q := q + 1) r hq
    have h2 : (chS lg (q + 1)).1 = (chS lg q).1 + rlen lg (chS lg q).1 := rfl
    have e := act_congr (lg := lg) (lg' := lg') (p := (chS lg q).1) (S := (chS lg q).2) (fun i _ hi => h i (by omega))
    show ((chS lg' q).1 + rlen lg' (chS lg' q).1, actS lg' (chS lg' q).1 (chS lg' q).2) = ((chS lg q).1 + rlen lg (chS lg q).1, actS lg (chS lg q).1 (chS lg q).2)
    rw [ih (by omega), e.1, e.2.1]
theorem okC_congr {lg lg' : Nat → Nat} {r : Nat} (h : ∀ i, i < (chS lg r).1 → lg' i = lg i) (hc : okC lg r) : okC lg' r := by
  intro q hq
  rw [chS_congr h q (Nat.le_of_lt hq)]
  have h1 := chS_le (lg := lg) (q := q + 1) r hq
  have h2 : (chS lg (q + 1)).1 = (chS lg q).1 + rlen lg (chS lg q).1 := rfl
  exact (act_congr (fun i _ hi => h i (by omega))).2.2 (hc q hq)
/-- a log whose records end at n, and the state there -/
def logOk (lg : Nat → Nat) (n : Nat) (S : aS) : Prop := ∃ r, okC lg r ∧ chS lg r = (n, S)
theorem logOk.s {lg : Nat → Nat} {n : Nat} {S : aS} (h : logOk lg n S) : okS n S := by
  obtain ⟨r, h1, h2⟩ := h
  have h3 := okS_ch r h1
  rw [h2] at h3
  exact h3
theorem logOk.ext {lg lg' : Nat → Nat} {n n' : Nat} {S S' : aS} (h : logOk lg n S) (he : ∀ i, i < n → lg' i = lg i) (hr : okR lg' n S) (hn : n' = n + rlen lg' n) (hS : S' = actS lg' n S) : logOk lg' n' S' := by
  obtain ⟨r, h1, h2⟩ := h
  have he' : ∀ i, i < (chS lg r).1 → lg' i = lg i := by rw [h2]; exact he
  have e : chS lg' r = (n, S) := (chS_congr he' r (Nat.le_refl _)).trans h2
  refine ⟨r + 1, fun q hq => ?_, ?_⟩
  · rcases Nat.lt_or_ge q r with z | z
    · exact okC_congr he' h1 q z
    · obtain rfl : q = r := by omega
      rw [e]; exact hr
  · show ((chS lg' r).1 + rlen lg' (chS lg' r).1, actS lg' (chS lg' r).1 (chS lg' r).2) = (n', S')
    rw [e, hn, hS]
/-- a log of n bytes, cut anywhere: its whole records are r -/
def cutOk (lg : Nat → Nat) (n r : Nat) : Prop := okC lg r ∧ (chS lg r).1 ≤ n ∧ ((chS lg r).1 = n ∨ n < (chS lg r).1 + rlen lg (chS lg r).1)
theorem ch_cut {lg : Nat → Nat} {k : Nat} : ∀ r, okC lg r → k ≤ (chS lg r).1 → ∃ q, cutOk lg k q := by
  intro r
  induction r with
  | zero => intro h hk; exact ⟨0, h, Nat.zero_le _, Or.inl (Nat.le_zero.mp hk).symm⟩
  | succ r ih =>
    intro h hk
    rcases Nat.lt_or_ge k (chS lg r).1 with z | z
    · exact ih (fun q hq => h q (by omega)) (Nat.le_of_lt z)
    · rcases Nat.lt_or_ge k (chS lg (r + 1)).1 with y | y
      · exact ⟨r, fun q hq => h q (by omega), z, Or.inr y⟩
      · exact ⟨r + 1, h, y, Or.inl (Nat.le_antisymm y hk)⟩
theorem recLen_full {lg : Nat → Nat} {n p : Nat} {S : aS} (hr : okR lg p S) (h : p + rlen lg p ≤ n) : (if recLen lg n p ≤ n - p then recLen lg n p else 0) = rlen lg p ∧ p < n := by
  have hp : p < n := by have := rlen_pos (lg := lg) (p := p); omega
  have e : recLen lg n p = rlen lg p := by
    unfold recLen
    rw [if_pos hp]
    rcases hr with ⟨k, _⟩ | ⟨k, _⟩ | ⟨k, _⟩ | ⟨k, _⟩ | k
    · have z := (act_1 (S := S) k).2
      rw [if_pos k, if_pos (by omega), z]
    · rw [(act_2 (S := S) k).2, k]; rfl
    · rw [(act_3 (S := S) k).2, k]; rfl
    · rw [(act_4 (S := S) k).2, k]; rfl
    · rw [(act_5 (S := S) k).2, k]; rfl
  rw [e, if_pos (by omega)]
  exact ⟨rfl, hp⟩
theorem recLen_cut {lg : Nat → Nat} {n p : Nat} (hp : p ≤ n) (h : p = n ∨ n < p + rlen lg p) : (if recLen lg n p ≤ n - p then recLen lg n p else 0) = 0 := by
  have key : recLen lg n p = 0 ∨ ¬ recLen lg n p ≤ n - p := by
    unfold recLen
    by_cases hlt : p < n
    · rw [if_pos hlt]
      have h' : n < p + rlen lg p := by omega
      unfold rlen at h'
      by_cases k1 : lg p = 1
      · rw [if_pos k1] at h' ⊢
        by_cases k2 : p + 1 < n
        · rw [if_pos k2]; exact Or.inr (by omega)
        · rw [if_neg k2]; exact Or.inr (by omega)
      · rw [if_neg k1] at h' ⊢
        by_cases k2 : lg p = 2 ∨ lg p = 4
        · rw [if_pos k2] at h' ⊢; exact Or.inr (by omega)
        · rw [if_neg k2] at h' ; exact absurd h' (by omega)
    · rw [if_neg hlt]; exact Or.inl rfl
  rcases key with z | z
  · rw [z]; split <;> rfl
  · rw [if_neg z]
/-! ===== the class's parts beside such a state ===== -/
def baS (lg : Nat → Nat) (S : aS) (fo : Nat → Nat) : Nat → Nat → Nat := fun j i => if j = sNb S then fo i else lg (sFr S j + i)
def clR (lg : Nat → Nat) (S : aS) (fd : Nat) (fo : Nat → Nat) (Pb : pc_C) (gt : Nat → Int32) (Pv : pc_C) (gd : Nat → Int32) : Prop := pc_R 600 25 Pb (sNb S, fup (sLn S) (sNb S) fd, baS lg S fo) ∧ mk_R 24 gt (sTh S) ∧ pc_R 104 13 Pv (sNv S, sCt S, sRw S) ∧ mk_R 12 gd (sDr S)
theorem baS_o {lg : Nat → Nat} {S : aS} {fo : Nat → Nat} {i : Nat} : baS lg S fo (sNb S) i = fo i := if_pos rfl
theorem baS_j {lg : Nat → Nat} {S : aS} {fo : Nat → Nat} {j i : Nat} (h : j < sNb S) : baS lg S fo j i = lg (sFr S j + i) := if_neg (by omega)
theorem clR_0 {lg : Nat → Nat} {fo : Nat → Nat} {Pb : pc_C} {gt : Nat → Int32} {Pv : pc_C} {gd : Nat → Int32} {ba va : Nat → Nat → Nat} (hb : pc_R 600 25 Pb (0, (fun _ => 0), ba)) (ht : mk_R 24 gt (fun _ => false)) (hv : pc_R 104 13 Pv (0, (fun _ => 0), va)) (hd : mk_R 12 gd (fun _ => false)) : clR lg aS0 0 fo Pb gt Pv gd :=
  ⟨pc_R_congr hb (fun j hj => by unfold fup; split <;> rfl) (fun j i _ hi => absurd hi (Nat.not_lt_zero _)), ht, pc_R_congr hv (fun j hj => rfl) (fun j i _ hi => absurd hi (Nat.not_lt_zero _)), hd⟩
end
section
/-! ===== the store: what comes back of a log ===== -/
def baN (lg : Nat → Nat) (p nb : Nat) (ba : Nat → Nat → Nat) : Nat → Nat → Nat := fun j i => if j = nb then lg (p + 2 + i) else ba j i
theorem pcS_fup {b : Nat → Nat} {a k : Nat} : pcS (fup b a k) (a + 1) = pcS b a + k := by
  show pcS (fup b a k) a + fup b a k a = pcS b a + k
  rw [fup_s, pcS_congr (pl' := b) a (fun j hj => fup_n (by omega))]
theorem nb_start {Pb : pc_C} {nb : Nat} {bl : Nat → Nat} {ba : Nat → Nat → Nat} {lg : Nat → Nat} {p : Nat} (h : pc_R 600 25 Pb (nb, bl, ba)) (h0 : bl nb = 0) : pc_R 600 25 Pb (nb, fup bl nb 0, baN lg p nb ba) := by
  refine pc_R_congr h (fun j hj => ?_) (fun j i hj hi => ?_)
  · unfold fup; split
    · rename_i z; rw [z, h0]
    · rfl
  · unfold baN; split
    · rename_i z; rw [z, h0] at hi; exact absurd hi (Nat.not_lt_zero _)
    · rfl
theorem nb_step {Pb : pc_C} {nb k : Nat} {bl : Nat → Nat} {ba : Nat → Nat → Nat} {lg : Nat → Nat} {p : Nat} (h : pc_R 600 25 Pb (nb, fup (fup bl nb k) nb (fup bl nb k nb + 1), fup2 (baN lg p nb ba) nb (fup bl nb k nb) (lg (p + 2 + k)))) : pc_R 600 25 Pb (nb, fup bl nb (k + 1), baN lg p nb ba) := by
  refine pc_R_congr h (fun j hj => ?_) (fun j i hj hi => ?_)
  · by_cases z : j = nb
    · subst z; rw [fup_s, fup_s, fup_s]
    · rw [fup_n z, fup_n z, fup_n z]
  · unfold fup2; split
    · rename_i z; rw [z.1, z.2, fup_s]; exact if_pos rfl
    · rfl
theorem d_S_redoNewBlock_0 : decode b_S_redoNewBlock 0 = .ok (.aload_n 0, 1) := by decide +kernel
theorem d_S_redoNewBlock_1 : decode b_S_redoNewBlock 1 = .ok (.getfield 12, 3) := by decide +kernel
theorem d_S_redoNewBlock_4 : decode b_S_redoNewBlock 4 = .ok (.iload_n 1, 1) := by decide +kernel
theorem d_S_redoNewBlock_5 : decode b_S_redoNewBlock 5 = .ok (.iconst 1, 1) := by decide +kernel
theorem d_S_redoNewBlock_6 : decode b_S_redoNewBlock 6 = .ok (.iadd, 1) := by decide +kernel
theorem d_S_redoNewBlock_7 : decode b_S_redoNewBlock 7 = .ok (.invokevirtual 235, 3) := by decide +kernel
theorem d_S_redoNewBlock_10 : decode b_S_redoNewBlock 10 = .ok (.istore_n 2, 1) := by decide +kernel
theorem d_S_redoNewBlock_11 : decode b_S_redoNewBlock 11 = .ok (.iconst 0, 1) := by decide +kernel
theorem d_S_redoNewBlock_12 : decode b_S_redoNewBlock 12 = .ok (.istore_n 3, 1) := by decide +kernel
theorem d_S_redoNewBlock_13 : decode b_S_redoNewBlock 13 = .ok (.iload_n 3, 1) := by decide +kernel
theorem d_S_redoNewBlock_14 : decode b_S_redoNewBlock 14 = .ok (.iload_n 2, 1) := by decide +kernel
theorem d_S_redoNewBlock_15 : decode b_S_redoNewBlock 15 = .ok (.if_icmp .ge 28, 3) := by decide +kernel
theorem d_S_redoNewBlock_18 : decode b_S_redoNewBlock 18 = .ok (.aload_n 0, 1) := by decide +kernel
theorem d_S_redoNewBlock_19 : decode b_S_redoNewBlock 19 = .ok (.getfield 21, 3) := by decide +kernel
theorem d_S_redoNewBlock_22 : decode b_S_redoNewBlock 22 = .ok (.aload_n 0, 1) := by decide +kernel
theorem d_S_redoNewBlock_23 : decode b_S_redoNewBlock 23 = .ok (.getfield 12, 3) := by decide +kernel
theorem d_S_redoNewBlock_26 : decode b_S_redoNewBlock 26 = .ok (.iload_n 1, 1) := by decide +kernel
theorem d_S_redoNewBlock_27 : decode b_S_redoNewBlock 27 = .ok (.iconst 2, 1) := by decide +kernel
theorem d_S_redoNewBlock_28 : decode b_S_redoNewBlock 28 = .ok (.iadd, 1) := by decide +kernel
theorem d_S_redoNewBlock_29 : decode b_S_redoNewBlock 29 = .ok (.iload_n 3, 1) := by decide +kernel
theorem d_S_redoNewBlock_30 : decode b_S_redoNewBlock 30 = .ok (.iadd, 1) := by decide +kernel
theorem d_S_redoNewBlock_31 : decode b_S_redoNewBlock 31 = .ok (.invokevirtual 235, 3) := by decide +kernel
theorem d_S_redoNewBlock_34 : decode b_S_redoNewBlock 34 = .ok (.invokevirtual 69, 3) := by decide +kernel
theorem d_S_redoNewBlock_37 : decode b_S_redoNewBlock 37 = .ok (.iinc 3 1, 3) := by decide +kernel
theorem d_S_redoNewBlock_40 : decode b_S_redoNewBlock 40 = .ok (.goto (-27), 3) := by decide +kernel
theorem d_S_redoNewBlock_43 : decode b_S_redoNewBlock 43 = .ok (.aload_n 0, 1) := by decide +kernel
theorem d_S_redoNewBlock_44 : decode b_S_redoNewBlock 44 = .ok (.invokevirtual 219, 3) := by decide +kernel
theorem d_S_redoNewBlock_47 : decode b_S_redoNewBlock 47 = .ok (.pop, 1) := by decide +kernel
theorem d_S_redoNewBlock_48 : decode b_S_redoNewBlock 48 = .ok (.return_, 1) := by decide +kernel
set_option maxRecDepth 20000 in
set_option maxHeartbeats 4000000 in
theorem c_S_redoNewBlock {D : va_G} {cI cZ cJ : ClassId} {ad : Nat → Nat} {mp : Nat} {lf : Nat → Int32} {n : Nat} {Pb : pc_C} {gt gp gh : Nat → Int32} {Pv : pc_C} {gd : Nat → Int32} {Pq : pc_C} {cr : Bool} {rest : va_W} {lg : Nat → Nat} {nb : Nat} {bl : Nat → Nat} {ba : Nat → Nat → Nat} {mt : Nat → Bool} {nv : Nat} {vl : Nat → Nat} {va : Nat → Nat → Nat} (hRl : lg_R lf n lg) (hRb : pc_R 600 25 Pb (nb, bl, ba)) (hRt : mk_R 24 gt mt) (hRv : pc_R 104 13 Pv (nv, vl, va)) {p : Nat} (hp : p + 2 + lg (p + 1) ≤ n) (hl : lg (p + 1) ≤ 24) (hb : nb < 24) (h0 : bl nb = 0) (hb24 : ∀ j, j ≤ nb → bl j ≤ 24) (hr : pcS vl (nv + 1) < 104) : bC D bcl (tys3 cI cZ cJ) y_S_redoNewBlock ({ frames := 2, cells := 0, slots := 0, locals := 42 }) (wS ad cI cZ mp lf n Pb gt gp gh Pv gd Pq cr rest) [.ref (ad 0), .int (nI (p))] (bO (fun ws9 => ∃ (Pb1 : pc_C) (gt1 : Nat → Int32) (Pv1 : pc_C), pc_R 600 25 Pb1 (nb + 1, fup (fup bl nb (lg (p + 1))) (nb + 1) 0, baN lg p nb ba) ∧ mk_R 24 gt1 (mk_up mt nb true) ∧ pc_R 104 13 Pv1 (nv, fup vl nv (vl nv + 1), fup2 va nv (vl nv) nb) ∧ ws9 = wS ad cI cZ mp lf n Pb1 gt1 gp gh Pv1 gd Pq cr rest) bno) := by
  have fl : n ≤ 400 := hRl.1
  have fb : nb < 25 := hRb.2.1
  have fv : nv < 13 := hRv.2.1
  refine bC.of (by decide) m_S_redoNewBlock.1 (Nat.le_of_ble_eq_true rfl) ?_
  intro Γ G E0
  show bV D bcl Γ 4 (wS ad cI cZ mp lf n Pb gt gp gh Pv gd Pq cr rest) 0 0 0 [(0, .ref (ad 0)), (1, .int (nI (p)))] []
  have loop : ∀ (d : Nat) (k : Nat) (Pz : pc_C), d + k = lg (p + 1) → pc_R 600 25 Pz (nb, fup bl nb k, baN lg p nb ba) → bV D bcl Γ 4 (wS ad cI cZ mp lf n Pz gt gp gh Pv gd Pq cr rest) 0 0 13 [(0, .ref (ad 0)), (1, .int (nI (p))), (2, .int (nI (lg (p + 1)))), (3, .int (nI (k)))] [] := by
    intro d
    induction d with
    | zero =>
      intro k Pz hd hRz
      refine bV.iload_n G d_S_redoNewBlock_13 rfl ?_
      refine bV.iload_n G d_S_redoNewBlock_14 rfl ?_
      refine bV.icmp_geN (tgt := 43) G d_S_redoNewBlock_15 (by decide) (by omega) (by omega) (fun c15 => ?_) (fun c15 => ?_)
      · refine bV.aload_n G d_S_redoNewBlock_43 rfl ?_
        refine bV.callVi G m_S_closeFed bw_251 bw_s4 bw_249 (c_S_closeFed hRz hRt hRv (by omega) hr) 0 rfl rfl rfl rfl rfl ⟨by decide, by decide⟩ ⟨by decide, by decide⟩ (Nat.le_of_ble_eq_true rfl) d_S_redoNewBlock_44 (fun x9 ws9 h9 => ?_)
        obtain ⟨rfl, Pb1, gt1, Pv1, hRb1, hRt1, hRv1, h9e⟩ := h9
        rw [h9e]
        try dsimp only
        refine bV.pop G d_S_redoNewBlock_47 rfl ?_
        exact bV.vretO G E0 rfl (by decide) (by decide) d_S_redoNewBlock_48 ⟨Pb1, gt1, Pv1, by obtain rfl : k = lg (p + 1) := (by omega); exact hRb1, hRt1, hRv1, rfl⟩
      · exfalso; omega
    | succ d ih =>
      intro k Pz hd hRz
      refine bV.iload_n G d_S_redoNewBlock_13 rfl ?_
      refine bV.iload_n G d_S_redoNewBlock_14 rfl ?_
      refine bV.icmp_geN (tgt := 43) G d_S_redoNewBlock_15 (by decide) (by omega) (by omega) (fun c15 => ?_) (fun c15 => ?_)
      · exfalso; omega
      · refine bV.aload_n G d_S_redoNewBlock_18 rfl ?_
        refine bV.getf G cl_S 0 1 rfl (by decide) bw_74 rfl d_S_redoNewBlock_19 ?_
        refine bV.aload_n G d_S_redoNewBlock_22 rfl ?_
        refine bV.getf G cl_S 0 0 rfl (by decide) bw_73 rfl d_S_redoNewBlock_23 ?_
        refine bV.iload_n G d_S_redoNewBlock_26 rfl ?_
        refine bV.iconst (v := nI 2) G d_S_redoNewBlock_27 (by decide) ?_
        refine bV.iaddN G d_S_redoNewBlock_28 ?_
        refine bV.iload_n G d_S_redoNewBlock_29 rfl ?_
        refine bV.iaddN G d_S_redoNewBlock_30 ?_
        refine bV.callVi G m_L_at bw_466 bw_467 bw_474 (c_L_at wS_l hRl (i := (p + 2) + k) (by omega)) 1 rfl rfl rfl rfl rfl ⟨by decide, by decide⟩ ⟨by decide, by decide⟩ (Nat.le_of_ble_eq_true rfl) d_S_redoNewBlock_31 (fun x9 ws9 h9 => ?_)
        obtain ⟨rfl, h9e⟩ := h9
        rw [h9e]
        try dsimp only
        rw [if_pos (by omega)]
        have hv2 : lg (p + 2 + k) < 256 := hRl.2.2 _ (by omega)
        refine bV.callVo G m_P_add bw_193 bw_194 bw_192 (cS_b_add (x := lg ((p + 2) + k)) hRz (by omega) (by dsimp only; rw [pcS_fup]; have z := pcS_le (pl := bl) (c := 24) nb (fun j hj => hb24 j (by omega)); omega)) 3 rfl rfl rfl rfl rfl ⟨by decide, by decide⟩ ⟨by decide, by decide⟩ (Nat.le_of_ble_eq_true rfl) d_S_redoNewBlock_34 (fun ws9 h9 => ?_)
        obtain ⟨Pb101, hRb102, h9e⟩ := h9
        rw [h9e]
        try dsimp only at hRb102
        refine bV.iincN G (lv' := [(0, .ref (ad 0)), (1, .int (nI (p))), (2, .int (nI (lg (p + 1)))), (3, .int (nI (k + 1)))]) d_S_redoNewBlock_37 rfl (by decide) rfl rfl ?_
        refine bV.goto (tgt := 13) G d_S_redoNewBlock_40 (by decide) ?_
        exact ih (k + 1) Pb101 (by omega) (nb_step hRb102)
  refine bV.aload_n G d_S_redoNewBlock_0 rfl ?_
  refine bV.getf G cl_S 0 0 rfl (by decide) bw_73 rfl d_S_redoNewBlock_1 ?_
  refine bV.iload_n G d_S_redoNewBlock_4 rfl ?_
  refine bV.iconst (v := nI 1) G d_S_redoNewBlock_5 (by decide) ?_
  refine bV.iaddN G d_S_redoNewBlock_6 ?_
  refine bV.callVi G m_L_at bw_466 bw_467 bw_474 (c_L_at wS_l hRl (i := p + 1) (by omega)) 1 rfl rfl rfl rfl rfl ⟨by decide, by decide⟩ ⟨by decide, by decide⟩ (Nat.le_of_ble_eq_true rfl) d_S_redoNewBlock_7 (fun x9 ws9 h9 => ?_)
  obtain ⟨rfl, h9e⟩ := h9
  rw [h9e]
  try dsimp only
  rw [if_pos (by omega)]
  refine bV.istore_n G (lv' := [(0, .ref (ad 0)), (1, .int (nI (p))), (2, .int (nI (lg (p + 1))))]) d_S_redoNewBlock_10 (by decide) rfl rfl ?_
  refine bV.iconst (v := nI 0) G d_S_redoNewBlock_11 (by decide) ?_
  refine bV.istore_n G (lv' := [(0, .ref (ad 0)), (1, .int (nI (p))), (2, .int (nI (lg (p + 1)))), (3, .int (nI (0)))]) d_S_redoNewBlock_12 (by decide) rfl rfl ?_
  exact loop (lg (p + 1)) 0 Pb (by omega) (nb_start hRb h0)
theorem d_S_redo_0 : decode b_S_redo 0 = .ok (.aload_n 0, 1) := by decide +kernel
theorem d_S_redo_1 : decode b_S_redo 1 = .ok (.getfield 12, 3) := by decide +kernel
theorem d_S_redo_4 : decode b_S_redo 4 = .ok (.iload_n 1, 1) := by decide +kernel
theorem d_S_redo_5 : decode b_S_redo 5 = .ok (.invokevirtual 235, 3) := by decide +kernel
theorem d_S_redo_8 : decode b_S_redo 8 = .ok (.tableswitch 103 1 5 #[36, 44, 64, 75, 95], 36) := by decide +kernel
theorem d_S_redo_44 : decode b_S_redo 44 = .ok (.aload_n 0, 1) := by decide +kernel
theorem d_S_redo_45 : decode b_S_redo 45 = .ok (.iload_n 1, 1) := by decide +kernel
theorem d_S_redo_46 : decode b_S_redo 46 = .ok (.invokevirtual 237, 3) := by decide +kernel
theorem d_S_redo_49 : decode b_S_redo 49 = .ok (.goto 62, 3) := by decide +kernel
theorem d_S_redo_52 : decode b_S_redo 52 = .ok (.aload_n 0, 1) := by decide +kernel
theorem d_S_redo_53 : decode b_S_redo 53 = .ok (.getfield 40, 3) := by decide +kernel
theorem d_S_redo_56 : decode b_S_redo 56 = .ok (.aload_n 0, 1) := by decide +kernel
theorem d_S_redo_57 : decode b_S_redo 57 = .ok (.getfield 12, 3) := by decide +kernel
theorem d_S_redo_60 : decode b_S_redo 60 = .ok (.iload_n 1, 1) := by decide +kernel
theorem d_S_redo_61 : decode b_S_redo 61 = .ok (.iconst 1, 1) := by decide +kernel
theorem d_S_redo_62 : decode b_S_redo 62 = .ok (.iadd, 1) := by decide +kernel
theorem d_S_redo_63 : decode b_S_redo 63 = .ok (.invokevirtual 235, 3) := by decide +kernel
theorem d_S_redo_66 : decode b_S_redo 66 = .ok (.invokevirtual 69, 3) := by decide +kernel
theorem d_S_redo_69 : decode b_S_redo 69 = .ok (.goto 42, 3) := by decide +kernel
theorem d_S_redo_72 : decode b_S_redo 72 = .ok (.aload_n 0, 1) := by decide +kernel
theorem d_S_redo_73 : decode b_S_redo 73 = .ok (.getfield 40, 3) := by decide +kernel
theorem d_S_redo_76 : decode b_S_redo 76 = .ok (.invokevirtual 91, 3) := by decide +kernel
theorem d_S_redo_79 : decode b_S_redo 79 = .ok (.pop, 1) := by decide +kernel
theorem d_S_redo_80 : decode b_S_redo 80 = .ok (.goto 31, 3) := by decide +kernel
theorem d_S_redo_83 : decode b_S_redo 83 = .ok (.aload_n 0, 1) := by decide +kernel
theorem d_S_redo_84 : decode b_S_redo 84 = .ok (.getfield 43, 3) := by decide +kernel
theorem d_S_redo_87 : decode b_S_redo 87 = .ok (.aload_n 0, 1) := by decide +kernel
theorem d_S_redo_88 : decode b_S_redo 88 = .ok (.getfield 12, 3) := by decide +kernel
theorem d_S_redo_91 : decode b_S_redo 91 = .ok (.iload_n 1, 1) := by decide +kernel
theorem d_S_redo_92 : decode b_S_redo 92 = .ok (.iconst 1, 1) := by decide +kernel
theorem d_S_redo_93 : decode b_S_redo 93 = .ok (.iadd, 1) := by decide +kernel
theorem d_S_redo_94 : decode b_S_redo 94 = .ok (.invokevirtual 235, 3) := by decide +kernel
theorem d_S_redo_97 : decode b_S_redo 97 = .ok (.invokevirtual 180, 3) := by decide +kernel
theorem d_S_redo_100 : decode b_S_redo 100 = .ok (.goto 11, 3) := by decide +kernel
theorem d_S_redo_103 : decode b_S_redo 103 = .ok (.aload_n 0, 1) := by decide +kernel
theorem d_S_redo_104 : decode b_S_redo 104 = .ok (.invokevirtual 117, 3) := by decide +kernel
theorem d_S_redo_107 : decode b_S_redo 107 = .ok (.pop, 1) := by decide +kernel
theorem d_S_redo_108 : decode b_S_redo 108 = .ok (.goto 3, 3) := by decide +kernel
theorem d_S_redo_111 : decode b_S_redo 111 = .ok (.return_, 1) := by decide +kernel
set_option maxRecDepth 20000 in
set_option maxHeartbeats 4000000 in
theorem c_S_redo1 {D : va_G} {cI cZ cJ : ClassId} {ad : Nat → Nat} {mp : Nat} {lf : Nat → Int32} {n : Nat} {Pb : pc_C} {gt gp gh : Nat → Int32} {Pv : pc_C} {gd : Nat → Int32} {Pq : pc_C} {cr : Bool} {rest : va_W} {lg : Nat → Nat} {nb : Nat} {bl : Nat → Nat} {ba : Nat → Nat → Nat} {mt : Nat → Bool} {nv : Nat} {vl : Nat → Nat} {va : Nat → Nat → Nat} (hRl : lg_R lf n lg) (hRb : pc_R 600 25 Pb (nb, bl, ba)) (hRt : mk_R 24 gt mt) (hRv : pc_R 104 13 Pv (nv, vl, va)) {p : Nat} (hp : p + 2 + lg (p + 1) ≤ n) (hl : lg (p + 1) ≤ 24) (hb : nb < 24) (h0 : bl nb = 0) (hb24 : ∀ j, j ≤ nb → bl j ≤ 24) (hr : pcS vl (nv + 1) < 104) (hk : lg p = 1) : bC D bcl (tys3 cI cZ cJ) y_S_redo ({ frames := 4, cells := 0, slots := 0, locals := 90 }) (wS ad cI cZ mp lf n Pb gt gp gh Pv gd Pq cr rest) [.ref (ad 0), .int (nI (p))] (bO (fun ws9 => ∃ (Pb1 : pc_C) (gt1 : Nat → Int32) (Pv1 : pc_C), pc_R 600 25 Pb1 (nb + 1, fup (fup bl nb (lg (p + 1))) (nb + 1) 0, baN lg p nb ba) ∧ mk_R 24 gt1 (mk_up mt nb true) ∧ pc_R 104 13 Pv1 (nv, fup vl nv (vl nv + 1), fup2 va nv (vl nv) nb) ∧ ws9 = wS ad cI cZ mp lf n Pb1 gt1 gp gh Pv1 gd Pq cr rest) bno) := by
  have fl : n ≤ 400 := hRl.1
  have fb : nb < 25 := hRb.2.1
  have fv : nv < 13 := hRv.2.1
  refine bC.of (by decide) m_S_redo.1 (Nat.le_of_ble_eq_true rfl) ?_
  intro Γ G E0
  show bV D bcl Γ 2 (wS ad cI cZ mp lf n Pb gt gp gh Pv gd Pq cr rest) 0 0 0 [(0, .ref (ad 0)), (1, .int (nI (p)))] []
  refine bV.aload_n G d_S_redo_0 rfl ?_
  refine bV.getf G cl_S 0 0 rfl (by decide) bw_73 rfl d_S_redo_1 ?_
  refine bV.iload_n G d_S_redo_4 rfl ?_
  refine bV.callVi G m_L_at bw_466 bw_467 bw_474 (c_L_at wS_l hRl (i := p) (by omega)) 1 rfl rfl rfl rfl rfl ⟨by decide, by decide⟩ ⟨by decide, by decide⟩ (Nat.le_of_ble_eq_true rfl) d_S_redo_5 (fun x9 ws9 h9 => ?_)
  obtain ⟨rfl, h9e⟩ := h9
  rw [h9e]
  try dsimp only
  rw [if_pos (by omega)]
  refine bV.tableIn (tgt := 44) (off := 36) G d_S_redo_8 (by rw [hk]; decide) (by rw [hk]; decide) (by rw [hk]; rfl) (by decide) ?_
  refine bV.aload_n G d_S_redo_44 rfl ?_
  refine bV.iload_n G d_S_redo_45 rfl ?_
  refine bV.callVo G m_S_redoNewBlock bw_477 bw_s22 bw_475 (c_S_redoNewBlock hRl hRb hRt hRv (p := p) hp hl hb h0 hb24 hr) 0 rfl rfl rfl rfl rfl ⟨by decide, by decide⟩ ⟨by decide, by decide⟩ (Nat.le_of_ble_eq_true rfl) d_S_redo_46 (fun ws9 h9 => ?_)
  obtain ⟨Pb1, gt1, Pv1, hRb1, hRt1, hRv1, h9e⟩ := h9
  rw [h9e]
  refine bV.goto (tgt := 111) G d_S_redo_49 (by decide) ?_
  exact bV.vretO G E0 rfl (by decide) (by decide) d_S_redo_111 ⟨Pb1, gt1, Pv1, hRb1, hRt1, hRv1, rfl⟩
set_option maxRecDepth 20000 in
set_option maxHeartbeats 4000000 in
theorem c_S_redo2 {D : va_G} {cI cZ cJ : ClassId} {ad : Nat → Nat} {mp : Nat} {lf : Nat → Int32} {n : Nat} {Pb : pc_C} {gt gp gh : Nat → Int32} {Pv : pc_C} {gd : Nat → Int32} {Pq : pc_C} {cr : Bool} {rest : va_W} {lg : Nat → Nat} {nv : Nat} {vl : Nat → Nat} {va : Nat → Nat → Nat} (hRl : lg_R lf n lg) (hRv : pc_R 104 13 Pv (nv, vl, va)) {p : Nat} (hp : p + 2 ≤ n) (hk : lg p = 2) (hr : pcS vl (nv + 1) < 104) : bC D bcl (tys3 cI cZ cJ) y_S_redo ({ frames := 4, cells := 0, slots := 0, locals := 90 }) (wS ad cI cZ mp lf n Pb gt gp gh Pv gd Pq cr rest) [.ref (ad 0), .int (nI (p))] (bO (fun ws9 => ∃ Pv1 : pc_C, pc_R 104 13 Pv1 (nv, fup vl nv (vl nv + 1), fup2 va nv (vl nv) (lg (p + 1))) ∧ ws9 = wS ad cI cZ mp lf n Pb gt gp gh Pv1 gd Pq cr rest) bno) := by
  have fl : n ≤ 400 := hRl.1
  have fv : nv < 13 := hRv.2.1
  refine bC.of (by decide) m_S_redo.1 (Nat.le_of_ble_eq_true rfl) ?_
  intro Γ G E0
  show bV D bcl Γ 2 (wS ad cI cZ mp lf n Pb gt gp gh Pv gd Pq cr rest) 0 0 0 [(0, .ref (ad 0)), (1, .int (nI (p)))] []
  refine bV.aload_n G d_S_redo_0 rfl ?_
  refine bV.getf G cl_S 0 0 rfl (by decide) bw_73 rfl d_S_redo_1 ?_
  refine bV.iload_n G d_S_redo_4 rfl ?_
  refine bV.callVi G m_L_at bw_466 bw_467 bw_474 (c_L_at wS_l hRl (i := p) (by omega)) 1 rfl rfl rfl rfl rfl ⟨by decide, by decide⟩ ⟨by decide, by decide⟩ (Nat.le_of_ble_eq_true rfl) d_S_redo_5 (fun x9 ws9 h9 => ?_)
  obtain ⟨rfl, h9e⟩ := h9
  rw [h9e]
  try dsimp only
  rw [if_pos (by omega)]
  refine bV.tableIn (tgt := 52) (off := 44) G d_S_redo_8 (by rw [hk]; decide) (by rw [hk]; decide) (by rw [hk]; rfl) (by decide) ?_
  refine bV.aload_n G d_S_redo_52 rfl ?_
  refine bV.getf G cl_S 0 5 rfl (by decide) bw_78 rfl d_S_redo_53 ?_
  refine bV.aload_n G d_S_redo_56 rfl ?_
  refine bV.getf G cl_S 0 0 rfl (by decide) bw_73 rfl d_S_redo_57 ?_
  refine bV.iload_n G d_S_redo_60 rfl ?_
  refine bV.iconst (v := nI 1) G d_S_redo_61 (by decide) ?_
  refine bV.iaddN G d_S_redo_62 ?_
  refine bV.callVi G m_L_at bw_466 bw_467 bw_474 (c_L_at wS_l hRl (i := p + 1) (by omega)) 1 rfl rfl rfl rfl rfl ⟨by decide, by decide⟩ ⟨by decide, by decide⟩ (Nat.le_of_ble_eq_true rfl) d_S_redo_63 (fun x9 ws9 h9 => ?_)
  obtain ⟨rfl, h9e⟩ := h9
  rw [h9e]
  try dsimp only
  rw [if_pos (by omega)]
  have hv1 : lg (p + 1) < 256 := hRl.2.2 _ (by omega)
  refine bV.callVo G m_P_add bw_193 bw_194 bw_192 (cS_v_add (x := lg (p + 1)) hRv (by omega) hr) 12 rfl rfl rfl rfl rfl ⟨by decide, by decide⟩ ⟨by decide, by decide⟩ (Nat.le_of_ble_eq_true rfl) d_S_redo_66 (fun ws9 h9 => ?_)
  obtain ⟨Pv1, hRv2, h9e⟩ := h9
  rw [h9e]
  try dsimp only at hRv2
  refine bV.goto (tgt := 111) G d_S_redo_69 (by decide) ?_
  exact bV.vretO G E0 rfl (by decide) (by decide) d_S_redo_111 ⟨Pv1, hRv2, rfl⟩
set_option maxRecDepth 20000 in
set_option maxHeartbeats 4000000 in
theorem c_S_redo3 {D : va_G} {cI cZ cJ : ClassId} {ad : Nat → Nat} {mp : Nat} {lf : Nat → Int32} {n : Nat} {Pb : pc_C} {gt gp gh : Nat → Int32} {Pv : pc_C} {gd : Nat → Int32} {Pq : pc_C} {cr : Bool} {rest : va_W} {lg : Nat → Nat} {nv : Nat} {vl : Nat → Nat} {va : Nat → Nat → Nat} (hRl : lg_R lf n lg) (hRv : pc_R 104 13 Pv (nv, vl, va)) {p : Nat} (hp : p + 1 ≤ n) (hk : lg p = 3) (hn : nv < 12) : bC D bcl (tys3 cI cZ cJ) y_S_redo ({ frames := 4, cells := 0, slots := 0, locals := 90 }) (wS ad cI cZ mp lf n Pb gt gp gh Pv gd Pq cr rest) [.ref (ad 0), .int (nI (p))] (bO (fun ws9 => ∃ Pv1 : pc_C, pc_R 104 13 Pv1 (nv + 1, fup vl (nv + 1) 0, va) ∧ ws9 = wS ad cI cZ mp lf n Pb gt gp gh Pv1 gd Pq cr rest) bno) := by
  have fl : n ≤ 400 := hRl.1
  have fv : nv < 13 := hRv.2.1
  refine bC.of (by decide) m_S_redo.1 (Nat.le_of_ble_eq_true rfl) ?_
  intro Γ G E0
  show bV D bcl Γ 2 (wS ad cI cZ mp lf n Pb gt gp gh Pv gd Pq cr rest) 0 0 0 [(0, .ref (ad 0)), (1, .int (nI (p)))] []
  refine bV.aload_n G d_S_redo_0 rfl ?_
  refine bV.getf G cl_S 0 0 rfl (by decide) bw_73 rfl d_S_redo_1 ?_
  refine bV.iload_n G d_S_redo_4 rfl ?_
  refine bV.callVi G m_L_at bw_466 bw_467 bw_474 (c_L_at wS_l hRl (i := p) (by omega)) 1 rfl rfl rfl rfl rfl ⟨by decide, by decide⟩ ⟨by decide, by decide⟩ (Nat.le_of_ble_eq_true rfl) d_S_redo_5 (fun x9 ws9 h9 => ?_)
  obtain ⟨rfl, h9e⟩ := h9
  rw [h9e]
  try dsimp only
  rw [if_pos (by omega)]
  refine bV.tableIn (tgt := 72) (off := 64) G d_S_redo_8 (by rw [hk]; decide) (by rw [hk]; decide) (by rw [hk]; rfl) (by decide) ?_
  refine bV.aload_n G d_S_redo_72 rfl ?_
  refine bV.getf G cl_S 0 5 rfl (by decide) bw_78 rfl d_S_redo_73 ?_
  refine bV.callVi G m_P_close bw_254 bw_255 bw_253 (cS_v_close hRv (by dsimp only; omega)) 12 rfl rfl rfl rfl rfl ⟨by decide, by decide⟩ ⟨by decide, by decide⟩ (Nat.le_of_ble_eq_true rfl) d_S_redo_76 (fun x9 ws9 h9 => ?_)
  obtain ⟨rfl, Pv1, hRv2, h9e⟩ := h9
  rw [h9e]
  try dsimp only at hRv2
  try dsimp only
  refine bV.pop G d_S_redo_79 rfl ?_
  refine bV.goto (tgt := 111) G d_S_redo_80 (by decide) ?_
  exact bV.vretO G E0 rfl (by decide) (by decide) d_S_redo_111 ⟨Pv1, hRv2, rfl⟩
set_option maxRecDepth 20000 in
set_option maxHeartbeats 4000000 in
theorem c_S_redo4 {D : va_G} {cI cZ cJ : ClassId} {ad : Nat → Nat} {mp : Nat} {lf : Nat → Int32} {n : Nat} {Pb : pc_C} {gt gp gh : Nat → Int32} {Pv : pc_C} {gd : Nat → Int32} {Pq : pc_C} {cr : Bool} {rest : va_W} {lg : Nat → Nat} {md : Nat → Bool} (hRl : lg_R lf n lg) (hRd : mk_R 12 gd md) {p : Nat} (hp : p + 2 ≤ n) (hk : lg p = 4) (hn : lg (p + 1) < 12) : bC D bcl (tys3 cI cZ cJ) y_S_redo ({ frames := 4, cells := 0, slots := 0, locals := 90 }) (wS ad cI cZ mp lf n Pb gt gp gh Pv gd Pq cr rest) [.ref (ad 0), .int (nI (p))] (bO (fun ws9 => ∃ gd1 : Nat → Int32, mk_R 12 gd1 (mk_up md (lg (p + 1)) true) ∧ ws9 = wS ad cI cZ mp lf n Pb gt gp gh Pv gd1 Pq cr rest) bno) := by
  have fl : n ≤ 400 := hRl.1
  refine bC.of (by decide) m_S_redo.1 (Nat.le_of_ble_eq_true rfl) ?_
  intro Γ G E0
  show bV D bcl Γ 2 (wS ad cI cZ mp lf n Pb gt gp gh Pv gd Pq cr rest) 0 0 0 [(0, .ref (ad 0)), (1, .int (nI (p)))] []
  refine bV.aload_n G d_S_redo_0 rfl ?_
  refine bV.getf G cl_S 0 0 rfl (by decide) bw_73 rfl d_S_redo_1 ?_
  refine bV.iload_n G d_S_redo_4 rfl ?_
  refine bV.callVi G m_L_at bw_466 bw_467 bw_474 (c_L_at wS_l hRl (i := p) (by omega)) 1 rfl rfl rfl rfl rfl ⟨by decide, by decide⟩ ⟨by decide, by decide⟩ (Nat.le_of_ble_eq_true rfl) d_S_redo_5 (fun x9 ws9 h9 => ?_)
  obtain ⟨rfl, h9e⟩ := h9
  rw [h9e]
  try dsimp only
  rw [if_pos (by omega)]
  refine bV.tableIn (tgt := 83) (off := 75) G d_S_redo_8 (by rw [hk]; decide) (by rw [hk]; decide) (by rw [hk]; rfl) (by decide) ?_
  refine bV.aload_n G d_S_redo_83 rfl ?_
  refine bV.getf G cl_S 0 6 rfl (by decide) bw_79 rfl d_S_redo_84 ?_
  refine bV.aload_n G d_S_redo_87 rfl ?_
  refine bV.getf G cl_S 0 0 rfl (by decide) bw_73 rfl d_S_redo_88 ?_
  refine bV.iload_n G d_S_redo_91 rfl ?_
  refine bV.iconst (v := nI 1) G d_S_redo_92 (by decide) ?_
  refine bV.iaddN G d_S_redo_93 ?_
  refine bV.callVi G m_L_at bw_466 bw_467 bw_474 (c_L_at wS_l hRl (i := p + 1) (by omega)) 1 rfl rfl rfl rfl rfl ⟨by decide, by decide⟩ ⟨by decide, by decide⟩ (Nat.le_of_ble_eq_true rfl) d_S_redo_94 (fun x9 ws9 h9 => ?_)
  obtain ⟨rfl, h9e⟩ := h9
  rw [h9e]
  try dsimp only
  rw [if_pos (by omega)]
  refine bV.callVo G m_K_turnOn bw_258 bw_259 bw_257 (cS_d_turnOn (j := lg (p + 1)) hRd (by omega)) 15 rfl rfl rfl rfl rfl ⟨by decide, by decide⟩ ⟨by decide, by decide⟩ (Nat.le_of_ble_eq_true rfl) d_S_redo_97 (fun ws9 h9 => ?_)
  obtain ⟨gd1, hRd2, h9e⟩ := h9
  rw [h9e]
  refine bV.goto (tgt := 111) G d_S_redo_100 (by decide) ?_
  exact bV.vretO G E0 rfl (by decide) (by decide) d_S_redo_111 ⟨gd1, hRd2, rfl⟩
set_option maxRecDepth 20000 in
set_option maxHeartbeats 4000000 in
theorem c_S_redo5 {D : va_G} {cI cZ cJ : ClassId} {ad : Nat → Nat} {mp : Nat} {lf : Nat → Int32} {n : Nat} {Pb : pc_C} {gt gp gh : Nat → Int32} {Pv : pc_C} {gd : Nat → Int32} {Pq : pc_C} {cr : Bool} {rest : va_W} {lg : Nat → Nat} {nb : Nat} {bl : Nat → Nat} {ba : Nat → Nat → Nat} {mt : Nat → Bool} {nv : Nat} {vl : Nat → Nat} {va : Nat → Nat → Nat} {md : Nat → Bool} {mh : Nat → Bool} (hRl : lg_R lf n lg) (hRb : pc_R 600 25 Pb (nb, bl, ba)) (hRt : mk_R 24 gt mt) (hRv : pc_R 104 13 Pv (nv, vl, va)) (hRd : mk_R 12 gd md) (hRh : mk_R 24 gh mh) {p : Nat} (hp : p + 1 ≤ n) (hk : lg p = 5) (hvb : ∀ v k, v ≤ nv → k < vl v → va v k < nb) : bC D bcl (tys3 cI cZ cJ) y_S_redo ({ frames := 4, cells := 0, slots := 0, locals := 90 }) (wS ad cI cZ mp lf n Pb gt gp gh Pv gd Pq cr rest) [.ref (ad 0), .int (nI (p))] (bO (fun ws9 => ∃ (gt1 gh1 : Nat → Int32), mk_R 24 gt1 (swS mt (hlB md vl va nv) nb) ∧ mk_R 24 gh1 (hlB md vl va nv) ∧ ws9 =  wS ad cI cZ mp lf n Pb gt1 gp gh1 Pv gd Pq cr rest) bno) := by
  have fl : n ≤ 400 := hRl.1
  have fb : nb < 25 := hRb.2.1
  have fv : nv < 13 := hRv.2.1
  refine bC.of (by decide) m_S_redo.1 (Nat.le_of_ble_eq_true rfl) ?_
  intro Γ G E0
  show bV D bcl Γ 2 (wS ad cI cZ mp lf n Pb gt gp gh Pv gd Pq cr rest) 0 0 0 [(0, .ref (ad 0)), (1, .int (nI (p)))] []
  refine bV.aload_n G d_S_redo_0 rfl ?_
  refine bV.getf G cl_S 0 0 rfl (by decide) bw_73 rfl d_S_redo_1 ?_
  refine bV.iload_n G d_S_redo_4 rfl ?_
  refine bV.callVi G m_L_at bw_466 bw_467 bw_474 (c_L_at wS_l hRl (i := p) (by omega)) 1 rfl rfl rfl rfl rfl ⟨by decide, by decide⟩ ⟨by decide, by decide⟩ (Nat.le_of_ble_eq_true rfl) d_S_redo_5 (fun x9 ws9 h9 => ?_)
  obtain ⟨rfl, h9e⟩ := h9
  rw [h9e]
  try dsimp only
  rw [if_pos (by omega)]
  refine bV.tableIn (tgt := 103) (off := 95) G d_S_redo_8 (by rw [hk]; decide) (by rw [hk]; decide) (by rw [hk]; rfl) (by decide) ?_
  refine bV.aload_n G d_S_redo_103 rfl ?_
  refine bV.callVi G m_S_removeUnheldBlocks bw_348 bw_s10 bw_346 (c_S_removeUnheldBlocks hRb hRt hRv hRd hRh hvb) 0 rfl rfl rfl rfl rfl ⟨by decide, by decide⟩ ⟨by decide, by decide⟩ (Nat.le_of_ble_eq_true rfl) d_S_redo_104 (fun x9 ws9 h9 => ?_)
  obtain ⟨rfl, gt1, gh1, hRt1, hRh1, h9e⟩ := h9
  rw [h9e]
  try dsimp only
  refine bV.pop G d_S_redo_107 rfl ?_
  refine bV.goto (tgt := 111) G d_S_redo_108 (by decide) ?_
  exact bV.vretO G E0 rfl (by decide) (by decide) d_S_redo_111 ⟨gt1, gh1, hRt1, hRh1, rfl⟩
theorem hr_of {S : aS} {a : Nat} (h : okS a S) (h8 : sCt S (sNv S) < 8) : pcS (sCt S) (sNv S + 1) < 104 := by
  have z := pcS_le (pl := sCt S) (c := 8) (sNv S) (fun j hj => h.2.2.1 j (by omega))
  have h2 := h.2.1
  show pcS (sCt S) (sNv S) + sCt S (sNv S) < 104
  omega
theorem hb_of {S : aS} {a fd : Nat} (h : okS a S) (hf : fd ≤ 24) : ∀ j, j ≤ sNb S → fup (sLn S) (sNb S) fd j ≤ 24 := fun j hj => fup_le (fun e => (h.2.2.2.2.1 j (by omega)).1) hf
set_option maxRecDepth 20000 in
set_option maxHeartbeats 4000000 in
theorem c_S_redo {D : va_G} {cI cZ cJ : ClassId} {ad : Nat → Nat} {mp : Nat} {lf : Nat → Int32} {n : Nat} {Pb : pc_C} {gt gp gh : Nat → Int32} {Pv : pc_C} {gd : Nat → Int32} {Pq : pc_C} {cr : Bool} {rest : va_W} {lg : Nat → Nat} {S : aS} {fo : Nat → Nat} {mh : Nat → Bool} {p : Nat} (hRl : lg_R lf n lg) (hC : clR lg S 0 fo Pb gt Pv gd) (hRh : mk_R 24 gh mh) (hs : okS p S) (hk : okR lg p S) (hp : p + rlen lg p ≤ n) :
    bC D bcl (tys3 cI cZ cJ) y_S_redo ({ frames := 4, cells := 0, slots := 0, locals := 90 }) (wS ad cI cZ mp lf n Pb gt gp gh Pv gd Pq cr rest) [.ref (ad 0), .int (nI p)] (bO (fun ws9 => ∃ (Pb1 : pc_C) (gt1 gh1 : Nat → Int32) (Pv1 : pc_C) (gd1 : Nat → Int32) (mh1 : Nat → Bool), clR lg (actS lg p S) 0 fo Pb1 gt1 Pv1 gd1 ∧ mk_R 24 gh1 mh1 ∧ ws9 = wS ad cI cZ mp lf n Pb1 gt1 gp gh1 Pv1 gd1 Pq cr rest) bno) := by
  obtain ⟨hRb, hRt, hRv, hRd⟩ := hC
  have hs5 := hs.2.2.2.2.1
  rcases hk with ⟨k, a, b, c⟩ | ⟨k, a, c⟩ | ⟨k, a⟩ | ⟨k, a⟩ | k
  · have e := act_1 (S := S) k
    rw [e.2] at hp
    refine (c_S_redo1 (p := p) hRl hRb hRt hRv (by omega) b a fup_s (hb_of hs (Nat.zero_le _)) (hr_of hs c) k).mono (bO_mono fun ws' h => ?_)
    obtain ⟨Pb1, gt1, Pv1, h1, h2, h3, h4⟩ := h
    refine ⟨Pb1, gt1, gh, Pv1, gd, mh, ?_, hRh, h4⟩
    rw [e.1]
    refine ⟨pc_R_congr h1 (fun j hj => ?_) (fun j i hj hi => ?_), h2, h3, hRd⟩
    · show fup (fup (sLn S) (sNb S) (lg (p + 1))) (sNb S + 1) 0 j = fup (fup (fup (sLn S) (sNb S) 0) (sNb S) (lg (p + 1))) (sNb S + 1) 0 j
      unfold fup
      split
      · rfl
      · split <;> rfl
    · show (if j = sNb S + 1 then fo i else lg (fup (sFr S) (sNb S) (p + 2) j + i)) = (if j = sNb S then lg (p + 2 + i) else (if j = sNb S then fo i else lg (sFr S j + i)))
      have hj' : j ≤ sNb S + 1 := hj
      have hi' : i < fup (fup (fup (sLn S) (sNb S) 0) (sNb S) (lg (p + 1))) (sNb S + 1) 0 j := hi
      by_cases z : j = sNb S + 1
      · subst z; rw [fup_s] at hi'; exact absurd hi' (Nat.not_lt_zero _)
      · rw [if_neg z]
        by_cases y : j = sNb S
        · subst y; rw [if_pos rfl, fup_s]
        · rw [if_neg y, if_neg y, fup_n y]
  · have e := act_2 (S := S) k
    rw [e.2] at hp
    refine (c_S_redo2 (p := p) hRl hRv hp k (hr_of hs c)).mono (bO_mono fun ws' h => ?_)
    obtain ⟨Pv1, h1, h4⟩ := h
    refine ⟨Pb, gt, gh, Pv1, gd, mh, ?_, hRh, h4⟩
    rw [e.1]
    exact ⟨hRb, hRt, h1, hRd⟩
  · have e := act_3 (S := S) k
    rw [e.2] at hp
    refine (c_S_redo3 (p := p) hRl hRv hp k a).mono (bO_mono fun ws' h => ?_)
    obtain ⟨Pv1, h1, h4⟩ := h
    refine ⟨Pb, gt, gh, Pv1, gd, mh, ?_, hRh, h4⟩
    rw [e.1]
    exact ⟨hRb, hRt, h1, hRd⟩
  · have e := act_4 (S := S) k
    rw [e.2] at hp
    have h2 := hs.2.1
    refine (c_S_redo4 (p := p) hRl hRd hp k (by omega)).mono (bO_mono fun ws' h => ?_)
    obtain ⟨gd1, h1, h4⟩ := h
    refine ⟨Pb, gt, gh, Pv, gd1, mh, ?_, hRh, h4⟩
    rw [e.1]
    exact ⟨hRb, hRt, hRv, h1⟩
  · have e := act_5 (S := S) k
    rw [e.2] at hp
    refine (c_S_redo5 (p := p) hRl hRb hRt hRv hRd hRh hp k hs.2.2.2.1).mono (bO_mono fun ws' h => ?_)
    obtain ⟨gt1, gh1, h1, h2, h4⟩ := h
    refine ⟨Pb, gt1, gh1, Pv, gd, _, ?_, h2, h4⟩
    rw [e.1]
    exact ⟨hRb, h1, hRv, hRd⟩
theorem d_S_reopen_0 : decode b_S_reopen 0 = .ok (.aload_n 0, 1) := by decide +kernel
theorem d_S_reopen_1 : decode b_S_reopen 1 = .ok (.invokevirtual 155, 3) := by decide +kernel
theorem d_S_reopen_4 : decode b_S_reopen 4 = .ok (.iconst 0, 1) := by decide +kernel
theorem d_S_reopen_5 : decode b_S_reopen 5 = .ok (.istore_n 1, 1) := by decide +kernel
theorem d_S_reopen_6 : decode b_S_reopen 6 = .ok (.iconst 0, 1) := by decide +kernel
theorem d_S_reopen_7 : decode b_S_reopen 7 = .ok (.istore_n 2, 1) := by decide +kernel
theorem d_S_reopen_8 : decode b_S_reopen 8 = .ok (.iload_n 2, 1) := by decide +kernel
theorem d_S_reopen_9 : decode b_S_reopen 9 = .ok (.sipush 400, 3) := by decide +kernel
theorem d_S_reopen_12 : decode b_S_reopen 12 = .ok (.if_icmp .ge 34, 3) := by decide +kernel
theorem d_S_reopen_15 : decode b_S_reopen 15 = .ok (.aload_n 0, 1) := by decide +kernel
theorem d_S_reopen_16 : decode b_S_reopen 16 = .ok (.getfield 12, 3) := by decide +kernel
theorem d_S_reopen_19 : decode b_S_reopen 19 = .ok (.iload_n 1, 1) := by decide +kernel
theorem d_S_reopen_20 : decode b_S_reopen 20 = .ok (.invokevirtual 158, 3) := by decide +kernel
theorem d_S_reopen_23 : decode b_S_reopen 23 = .ok (.istore_n 3, 1) := by decide +kernel
theorem d_S_reopen_24 : decode b_S_reopen 24 = .ok (.iload_n 3, 1) := by decide +kernel
theorem d_S_reopen_25 : decode b_S_reopen 25 = .ok (.ifCond .ne 6, 3) := by decide +kernel
theorem d_S_reopen_28 : decode b_S_reopen 28 = .ok (.goto 18, 3) := by decide +kernel
theorem d_S_reopen_31 : decode b_S_reopen 31 = .ok (.aload_n 0, 1) := by decide +kernel
theorem d_S_reopen_32 : decode b_S_reopen 32 = .ok (.iload_n 1, 1) := by decide +kernel
theorem d_S_reopen_33 : decode b_S_reopen 33 = .ok (.invokevirtual 161, 3) := by decide +kernel
theorem d_S_reopen_36 : decode b_S_reopen 36 = .ok (.iload_n 1, 1) := by decide +kernel
theorem d_S_reopen_37 : decode b_S_reopen 37 = .ok (.iload_n 3, 1) := by decide +kernel
theorem d_S_reopen_38 : decode b_S_reopen 38 = .ok (.iadd, 1) := by decide +kernel
theorem d_S_reopen_39 : decode b_S_reopen 39 = .ok (.istore_n 1, 1) := by decide +kernel
theorem d_S_reopen_40 : decode b_S_reopen 40 = .ok (.iinc 2 1, 3) := by decide +kernel
theorem d_S_reopen_43 : decode b_S_reopen 43 = .ok (.goto (-35), 3) := by decide +kernel
theorem d_S_reopen_46 : decode b_S_reopen 46 = .ok (.aload_n 0, 1) := by decide +kernel
theorem d_S_reopen_47 : decode b_S_reopen 47 = .ok (.getfield 12, 3) := by decide +kernel
theorem d_S_reopen_50 : decode b_S_reopen 50 = .ok (.iload_n 1, 1) := by decide +kernel
theorem d_S_reopen_51 : decode b_S_reopen 51 = .ok (.invokevirtual 149, 3) := by decide +kernel
theorem d_S_reopen_54 : decode b_S_reopen 54 = .ok (.aload_n 0, 1) := by decide +kernel
theorem d_S_reopen_55 : decode b_S_reopen 55 = .ok (.iconst 0, 1) := by decide +kernel
theorem d_S_reopen_56 : decode b_S_reopen 56 = .ok (.putfield 58, 3) := by decide +kernel
theorem d_S_reopen_59 : decode b_S_reopen 59 = .ok (.aload_n 0, 1) := by decide +kernel
theorem d_S_reopen_60 : decode b_S_reopen 60 = .ok (.getfield 40, 3) := by decide +kernel
theorem d_S_reopen_63 : decode b_S_reopen 63 = .ok (.invokevirtual 123, 3) := by decide +kernel
theorem d_S_reopen_66 : decode b_S_reopen 66 = .ok (.ireturn, 1) := by decide +kernel
set_option maxRecDepth 20000 in
set_option maxHeartbeats 4000000 in
theorem c_S_reopen {D : va_G} {cI cZ cJ : ClassId} {ad : Nat → Nat} {mp : Nat} {lf : Nat → Int32} {n : Nat} {Pb : pc_C} {gt gp gh : Nat → Int32} {Pv : pc_C} {gd : Nat → Int32} {Pq : pc_C} {cr : Bool} {rest : va_W} {lg : Nat → Nat} (hRl : lg_R lf n lg) {S0 : aS} {fo : Nat → Nat} {mh : Nat → Bool} {r : Nat} (hcut : cutOk lg n r) (hC : clR lg aS0 0 fo Pb gt Pv gd) (hRh : mk_R 24 gh mh) : bC D bcl (tys3 cI cZ cJ) y_S_reopen ({ frames := 7, cells := 1, slots := 6, locals := 111 }) (wS ad cI cZ mp lf n Pb gt gp gh Pv gd Pq cr rest) [.ref (ad 0)] (bI (fun x ws9 => cr = true ∧ x = nI (sNv (chS lg r).2) ∧ ∃ (Pb1 : pc_C) (gt1 gh1 : Nat → Int32) (Pv1 : pc_C) (gd1 : Nat → Int32) (mh1 : Nat → Bool), clR lg (chS lg r).2 0 fo Pb1 gt1 Pv1 gd1 ∧ mk_R 24 gh1 mh1 ∧ lg_R lf (chS lg r).1 lg ∧ ws9 = wS ad cI cZ mp lf ((chS lg r).1) Pb1 gt1 gp gh1 Pv1 gd1 Pq false rest) (fun E ws9 => cr = false ∧ E = "java/lang/IllegalStateException" ∧ ws9 = wS ad cI cZ mp lf n Pb gt gp gh Pv gd Pq cr rest)) := by
  have fl : n ≤ 400 := hRl.1
  have hr400 := chS_r (lg := lg) r
  have hcn := hcut.2.1
  refine bC.of (by decide) m_S_reopen.1 (Nat.le_of_ble_eq_true rfl) ?_
  intro Γ G E0
  show bV D bcl Γ 4 (wS ad cI cZ mp lf n Pb gt gp gh Pv gd Pq cr rest) 0 0 0 [(0, .ref (ad 0))] []
  have loop : ∀ (d : Nat) (q : Nat) (Pz : pc_C) (gtz ghz : Nat → Int32) (Pvz : pc_C) (gdz : Nat → Int32) (mhz : Nat → Bool), cr = true → d + q = r → clR lg (chS lg q).2 0 fo Pz gtz Pvz gdz → mk_R 24 ghz mhz → bV D bcl Γ 4 (wS ad cI cZ mp lf n Pz gtz gp ghz Pvz gdz Pq cr rest) 1 6 8 [(0, .ref (ad 0)), (1, .int (nI ((chS lg q).1))), (2, .int (nI (q)))] [] := by
    intro d
    induction d with
    | zero =>
      intro q Pz gtz ghz Pvz gdz mhz hg1 hd hC9 hRh9
      have hqr := chS_le (lg := lg) (q := q) r (by omega)
      obtain ⟨rlq, hrlq⟩ : ∃ z : Nat, z = (if recLen lg n (chS lg q).1 ≤ n - (chS lg q).1 then recLen lg n (chS lg q).1 else 0) := ⟨_, rfl⟩
      have hrl := hrlq.symm
      refine bV.iload_n G d_S_reopen_8 rfl ?_
      refine bV.sipush (v := nI 400) G d_S_reopen_9 (by decide) ?_
      refine bV.icmp_geN (tgt := 46) G d_S_reopen_12 (by decide) (by omega) (by omega) (fun c12 => ?_) (fun c12 => ?_)
      · obtain rfl : r = q := by omega
        have hq7 := (okS_ch r hcut.1).2.1
        refine bV.aload_n G d_S_reopen_46 rfl ?_
        refine bV.getf G cl_S 0 0 rfl (by decide) bw_73 rfl d_S_reopen_47 ?_
        refine bV.iload_n G d_S_reopen_50 rfl ?_
        refine bV.callVo G m_L_cutTo bw_434 bw_435 bw_433 (cS_l_cutTo (i := (chS lg r).1) hRl (by omega)) 1 rfl rfl rfl rfl rfl ⟨by decide, by decide⟩ ⟨by decide, by decide⟩ (Nat.le_of_ble_eq_true rfl) d_S_reopen_51 (fun ws9 h9 => ?_)
        rw [h9]
        have hRl101 := lg_R_cut hRl (k := (chS lg r).1) (by omega)
        refine bV.aload_n G d_S_reopen_54 rfl ?_
        refine bV.iconst (v := nI 0) G d_S_reopen_55 (by decide) ?_
        refine bV.topi (x := nI 0) (y := bB false) (by decide) ?_
        refine bV.putf G (ws' := (wS ad cI cZ mp lf ((chS lg r).1) Pz gtz gp ghz Pvz gdz Pq false rest)) cl_S 0 8 rfl (by decide) bw_81 rfl (bB_n _) (bB_f _) (Nat.le_of_ble_eq_true rfl) d_S_reopen_56 rfl ?_
        refine bV.aload_n G d_S_reopen_59 rfl ?_
        refine bV.getf G cl_S 0 5 rfl (by decide) bw_78 rfl d_S_reopen_60 ?_
        refine bV.callVi G m_P_count bw_208 bw_209 bw_207 (c_P_count wS_v hC9.2.2.1) 12 rfl rfl rfl rfl rfl ⟨by decide, by decide⟩ ⟨by decide, by decide⟩ (Nat.le_of_ble_eq_true rfl) d_S_reopen_63 (fun x9 ws9 h9 => ?_)
        obtain ⟨rfl, h9e⟩ := h9
        rw [h9e]
        try dsimp only
        exact bV.iretI G E0 rfl rfl (by decide) (by decide) d_S_reopen_66 ⟨hg1, rfl, Pz, gtz, ghz, Pvz, gdz, mhz, hC9, hRh9, hRl101, rfl⟩
      · have hrz : rlq = 0 := by rw [hrlq]; obtain rfl : r = q := (by omega); exact recLen_cut hcut.2.1 hcut.2.2
        refine bV.aload_n G d_S_reopen_15 rfl ?_
        refine bV.getf G cl_S 0 0 rfl (by decide) bw_73 rfl d_S_reopen_16 ?_
        refine bV.iload_n G d_S_reopen_19 rfl ?_
        refine bV.callVi G m_L_lengthOfRecord bw_458 bw_459 bw_457 (c_L_lengthOfRecord wS_l hRl (p := (chS lg q).1) (by omega)) 1 rfl rfl rfl rfl rfl ⟨by decide, by decide⟩ ⟨by decide, by decide⟩ (Nat.le_of_ble_eq_true rfl) d_S_reopen_20 (fun x9 ws9 h9 => ?_)
        obtain ⟨rfl, h9e⟩ := h9
        rw [h9e]
        rw [hrl]
        refine bV.istore_n G (lv' := [(0, .ref (ad 0)), (1, .int (nI ((chS lg q).1))), (2, .int (nI (q))), (3, .int (nI (rlq)))]) d_S_reopen_23 (by decide) rfl rfl ?_
        refine bV.iload_n G d_S_reopen_24 rfl ?_
        refine bV.if_neN (tgt := 31) G d_S_reopen_25 (by decide) (by omega) (fun c25 => ?_) (fun c25 => ?_)
        · exfalso; omega
        · refine bV.goto (tgt := 46) G d_S_reopen_28 (by decide) ?_
          obtain rfl : r = q := by omega
          have hq7 := (okS_ch r hcut.1).2.1
          refine bV.aload_n G d_S_reopen_46 rfl ?_
          refine bV.getf G cl_S 0 0 rfl (by decide) bw_73 rfl d_S_reopen_47 ?_
          refine bV.iload_n G d_S_reopen_50 rfl ?_
          refine bV.callVo G m_L_cutTo bw_434 bw_435 bw_433 (cS_l_cutTo (i := (chS lg r).1) hRl (by omega)) 1 rfl rfl rfl rfl rfl ⟨by decide, by decide⟩ ⟨by decide, by decide⟩ (Nat.le_of_ble_eq_true rfl) d_S_reopen_51 (fun ws9 h9 => ?_)
          rw [h9]
          have hRl102 := lg_R_cut hRl (k := (chS lg r).1) (by omega)
          refine bV.aload_n G d_S_reopen_54 rfl ?_
          refine bV.iconst (v := nI 0) G d_S_reopen_55 (by decide) ?_
          refine bV.topi (x := nI 0) (y := bB false) (by decide) ?_
          refine bV.putf G (ws' := (wS ad cI cZ mp lf ((chS lg r).1) Pz gtz gp ghz Pvz gdz Pq false rest)) cl_S 0 8 rfl (by decide) bw_81 rfl (bB_n _) (bB_f _) (Nat.le_of_ble_eq_true rfl) d_S_reopen_56 rfl ?_
          refine bV.aload_n G d_S_reopen_59 rfl ?_
          refine bV.getf G cl_S 0 5 rfl (by decide) bw_78 rfl d_S_reopen_60 ?_
          refine bV.callVi G m_P_count bw_208 bw_209 bw_207 (c_P_count wS_v hC9.2.2.1) 12 rfl rfl rfl rfl rfl ⟨by decide, by decide⟩ ⟨by decide, by decide⟩ (Nat.le_of_ble_eq_true rfl) d_S_reopen_63 (fun x9 ws9 h9 => ?_)
          obtain ⟨rfl, h9e⟩ := h9
          rw [h9e]
          try dsimp only
          exact bV.iretI G E0 rfl rfl (by decide) (by decide) d_S_reopen_66 ⟨hg1, rfl, Pz, gtz, ghz, Pvz, gdz, mhz, hC9, hRh9, hRl102, rfl⟩
    | succ d ih =>
      intro q Pz gtz ghz Pvz gdz mhz hg1 hd hC9 hRh9
      have hqr := chS_le (lg := lg) (q := q) r (by omega)
      obtain ⟨rlq, hrlq⟩ : ∃ z : Nat, z = (if recLen lg n (chS lg q).1 ≤ n - (chS lg q).1 then recLen lg n (chS lg q).1 else 0) := ⟨_, rfl⟩
      have hrl := hrlq.symm
      refine bV.iload_n G d_S_reopen_8 rfl ?_
      refine bV.sipush (v := nI 400) G d_S_reopen_9 (by decide) ?_
      refine bV.icmp_geN (tgt := 46) G d_S_reopen_12 (by decide) (by omega) (by omega) (fun c12 => ?_) (fun c12 => ?_)
      · exfalso; omega
      · have hpq := chS_le (lg := lg) (q := q + 1) r (by omega)
        have hpq : (chS lg q).1 + rlen lg (chS lg q).1 ≤ n := by have z : (chS lg (q + 1)).1 = (chS lg q).1 + rlen lg (chS lg q).1 := rfl; omega
        have hrf := recLen_full (hcut.1 q (by omega)) hpq
        have hrq : rlq = rlen lg (chS lg q).1 := by rw [hrlq]; exact hrf.1
        have hrp := rlen_pos (lg := lg) (p := (chS lg q).1)
        refine bV.aload_n G d_S_reopen_15 rfl ?_
        refine bV.getf G cl_S 0 0 rfl (by decide) bw_73 rfl d_S_reopen_16 ?_
        refine bV.iload_n G d_S_reopen_19 rfl ?_
        refine bV.callVi G m_L_lengthOfRecord bw_458 bw_459 bw_457 (c_L_lengthOfRecord wS_l hRl (p := (chS lg q).1) (by omega)) 1 rfl rfl rfl rfl rfl ⟨by decide, by decide⟩ ⟨by decide, by decide⟩ (Nat.le_of_ble_eq_true rfl) d_S_reopen_20 (fun x9 ws9 h9 => ?_)
        obtain ⟨rfl, h9e⟩ := h9
        rw [h9e]
        rw [hrl]
        refine bV.istore_n G (lv' := [(0, .ref (ad 0)), (1, .int (nI ((chS lg q).1))), (2, .int (nI (q))), (3, .int (nI (rlq)))]) d_S_reopen_23 (by decide) rfl rfl ?_
        refine bV.iload_n G d_S_reopen_24 rfl ?_
        refine bV.if_neN (tgt := 31) G d_S_reopen_25 (by decide) (by omega) (fun c25 => ?_) (fun c25 => ?_)
        · refine bV.aload_n G d_S_reopen_31 rfl ?_
          refine bV.iload_n G d_S_reopen_32 rfl ?_
          refine bV.callVo G m_S_redo bw_472 bw_s21 bw_470 (c_S_redo hRl hC9 hRh9 (okS_ch q (fun q0 z => hcut.1 q0 (by omega))) (hcut.1 q (by omega)) hpq) 0 rfl rfl rfl rfl rfl ⟨by decide, by decide⟩ ⟨by decide, by decide⟩ (Nat.le_of_ble_eq_true rfl) d_S_reopen_33 (fun ws9 h9 => ?_)
          obtain ⟨Pb1, gt1, gh1, Pv1, gd1, mh1, hC1, hRh1, h9e⟩ := h9
          rw [h9e]
          refine bV.iload_n G d_S_reopen_36 rfl ?_
          refine bV.iload_n G d_S_reopen_37 rfl ?_
          refine bV.iaddN G d_S_reopen_38 ?_
          refine bV.istore_n G (lv' := [(0, .ref (ad 0)), (1, .int (nI (((chS lg q).1) + rlq))), (2, .int (nI (q))), (3, .int (nI (rlq)))]) d_S_reopen_39 (by decide) rfl rfl ?_
          refine bV.iincN G (lv' := [(0, .ref (ad 0)), (1, .int (nI (((chS lg q).1) + rlq))), (2, .int (nI (q + 1))), (3, .int (nI (rlq)))]) d_S_reopen_40 rfl (by decide) rfl rfl ?_
          refine bV.goto (tgt := 8) G d_S_reopen_43 (by decide) ?_
          refine bV.ltake (lv' := [(0, .ref (ad 0)), (1, .int (nI (((chS lg q).1) + rlq))), (2, .int (nI (q + 1)))]) (ex := [(3, .int (nI (rlq)))]) rfl ?_
          subst hrq
          exact ih (q + 1) Pb1 gt1 gh1 Pv1 gd1 mh1 hg1 (by omega) hC1 hRh1
        · exfalso; omega
  refine bV.aload_n G d_S_reopen_0 rfl ?_
  refine bV.callVot G m_S_requireCrashed bw_454 bw_s19 bw_452 (c_S_requireCrashed ) 0 rfl rfl rfl rfl rfl ⟨by decide, by decide⟩ ⟨by decide, by decide⟩ (Nat.le_of_ble_eq_true rfl) d_S_reopen_1 (fun ws9 h9 => ?_) (fun E9 ws9 h9 => ?_)
  · obtain ⟨hg1, h9e⟩ := h9
    rw [h9e]
    refine bV.iconst (v := nI 0) G d_S_reopen_4 (by decide) ?_
    refine bV.istore_n G (lv' := [(0, .ref (ad 0)), (1, .int (nI (0)))]) d_S_reopen_5 (by decide) rfl rfl ?_
    refine bV.iconst (v := nI 0) G d_S_reopen_6 (by decide) ?_
    refine bV.istore_n G (lv' := [(0, .ref (ad 0)), (1, .int (nI (0))), (2, .int (nI (0)))]) d_S_reopen_7 (by decide) rfl rfl ?_
    exact loop r 0 Pb gt gh Pv gd mh hg1 (by omega) hC hRh
  · obtain ⟨hz, rfl, h9e⟩ := h9
    rw [h9e]
    exact bT.leaveI G E0 rfl (by decide) (by decide) ⟨hz, rfl, rfl⟩
end
section
/-! ===== what the constructors make ===== -/
theorem bs_app {α : Type} {ws xs : List α} {q0 : Nat} {c : α} (h : ws[q0]? = some c) : (ws ++ xs)[q0]? = some c := by
  rw [List.getElem?_append_left (List.getElem?_eq_some_iff.mp h).1]; exact h
def mpN (v : Int32) : Nat := if v < 1 then 1 else if 8 < v then 8 else v.toNatClampNeg
theorem mpN_b (v : Int32) : 1 ≤ mpN v ∧ mpN v ≤ 8 ∧ (v < 1 → mpN v = 1) ∧ (¬ v < 1 → 8 < v → mpN v = 8) ∧ (¬ v < 1 → ¬ 8 < v → v = nI (mpN v)) := by
  unfold mpN
  by_cases h1 : v < 1
  · rw [if_pos h1]
    exact ⟨by decide, by decide, fun _ => rfl, fun h => absurd h1 h, fun h => absurd h1 h⟩
  · rw [if_neg h1]
    by_cases h2 : 8 < v
    · rw [if_pos h2]
      exact ⟨by decide, by decide, fun h => absurd h h1, fun _ _ => rfl, fun _ h => absurd h2 h⟩
    · rw [if_neg h2]
      have h0 : ¬ v < 0 := fun z => h1 (Int32.lt_trans z (by decide))
      obtain ⟨j, hj, rfl⟩ := nI_of h0
      rw [nI_clamp hj]
      have a1 : ¬ j < 1 := fun z => h1 (nI_lt z (by decide))
      have a2 : ¬ 8 < j := fun z => h2 (nI_lt z hj)
      exact ⟨by omega, by omega, fun h => absurd h h1, fun _ h => absurd h h2, fun _ _ => rfl⟩
theorem mp_e (v : Int32) : (if nI 1 < (if v < nI 8 then v else nI 8) then (if v < nI 8 then v else nI 8) else nI 1) = nI (mpN v) := by
  obtain ⟨b1, b2, b3, b4, b5⟩ := mpN_b v
  by_cases h1 : v < 1
  · have h8 : v < nI 8 := Int32.lt_trans h1 (by decide)
    rw [if_pos h8, if_neg (fun z => absurd (Int32.lt_trans z h1) (by decide)), b3 h1]
  · by_cases h2 : 8 < v
    · rw [if_neg (fun z => absurd (Int32.lt_trans h2 z) (by decide)), if_pos (by decide), b4 h1 h2]
    · have e := b5 h1 h2
      have hle : mpN v < 2 ^ 31 := by omega
      rw [e]
      have e2 : mpN (nI (mpN v)) = mpN v := by rw [← e]
      rw [e2]
      by_cases h3 : mpN v < 8
      · rw [if_pos (nI_lt h3 (by decide))]
        by_cases h4 : 1 < mpN v
        · rw [if_pos (nI_lt h4 hle)]
        · rw [if_neg (nI_nlt (by omega) (by decide)), show mpN v = 1 by omega]
      · rw [if_neg (nI_nlt (by omega) hle), if_pos (by decide), show mpN v = 8 by omega]
theorem d_L_init_0 : decode b_L_init 0 = .ok (.aload_n 0, 1) := by decide +kernel
theorem d_L_init_1 : decode b_L_init 1 = .ok (.invokespecial 3, 3) := by decide +kernel
theorem d_L_init_4 : decode b_L_init 4 = .ok (.aload_n 0, 1) := by decide +kernel
theorem d_L_init_5 : decode b_L_init 5 = .ok (.sipush 400, 3) := by decide +kernel
theorem d_L_init_8 : decode b_L_init 8 = .ok (.newarray .int, 2) := by decide +kernel
theorem d_L_init_10 : decode b_L_init 10 = .ok (.putfield 9, 3) := by decide +kernel
theorem d_L_init_13 : decode b_L_init 13 = .ok (.aload_n 0, 1) := by decide +kernel
theorem d_L_init_14 : decode b_L_init 14 = .ok (.iconst 0, 1) := by decide +kernel
theorem d_L_init_15 : decode b_L_init 15 = .ok (.putfield 15, 3) := by decide +kernel
theorem d_L_init_18 : decode b_L_init 18 = .ok (.return_, 1) := by decide +kernel
set_option maxRecDepth 20000 in
set_option maxHeartbeats 4000000 in
theorem c_L_init {D : va_G} {cI cZ cJ : ClassId} {ws : va_W} {q0 a : Nat}  (hW : ws[q0]? = some (a, .inr (0, [.null, .int (0)]))) : bC D bcl (tys3 cI cZ cJ) y_L_init ({ frames := 1, cells := 1, slots := 400, locals := 12 }) ws [.ref a] (bO (fun ws9 => ∃ q1 : Nat, ws9 = ((ws ++ ([(q1, .inl (cI, 400, .inl (fun _ => 0)))] : va_W)).set q0 (a, .inr (0, [.ref q1, .int 0]))).set q0 (a, .inr (0, [.ref q1, .int (nI 0)]))) bno) := by
  refine bC.of (by decide) m_L_init.1 (Nat.le_of_ble_eq_true rfl) ?_
  intro Γ G E0
  show bV D bcl Γ 1 ws 0 0 0 [(0, .ref a)] []
  refine bV.aload_n G d_L_init_0 rfl ?_
  refine bV.objInit G bw_26 bw_19 bw_20 (by decide) (by decide) d_L_init_1 ?_
  refine bV.aload_n G d_L_init_4 rfl ?_
  refine bV.sipush (v := nI 400) G d_L_init_5 (by decide) ?_
  refine bV.newarray (atype := .int) (ty := .int) (N := 400) (a0 := (400, .inl (fun _ => 0))) G 0 bw_34 rfl (fun C h => by cases h) rfl (fun _ => rfl) (nI_pos (by decide)) rfl (by decide) (Nat.le_of_ble_eq_true rfl) (Nat.le_of_ble_eq_true rfl) d_L_init_8 (fun q1 => ?_)
  refine bV.putF G (ws' := ((ws ++ ([(q1, .inl (cI, 400, .inl (fun _ => 0)))] : va_W)).set q0 (a, .inr (0, [.ref q1, .int (0)])))) cl_L q0 0 (bs_app (xs := ([(q1, .inl (cI, 400, .inl (fun _ => 0)))] : va_W)) hW) (by decide) bw_27 rfl rfl rfl rfl (Nat.le_of_ble_eq_true rfl) d_L_init_10 rfl ?_
  have g1_q0 := bs_eq (x := (a, .inr (0, [.ref q1, .int (0)]))) (bs_app (xs := ([(q1, .inl (cI, 400, .inl (fun _ => 0)))] : va_W)) hW)
  refine bV.aload_n G d_L_init_13 rfl ?_
  refine bV.iconst (v := nI 0) G d_L_init_14 (by decide) ?_
  refine bV.putf G (ws' := (((ws ++ ([(q1, .inl (cI, 400, .inl (fun _ => 0)))] : va_W)).set q0 (a, .inr (0, [.ref q1, .int (0)]))).set q0 (a, .inr (0, [.ref q1, .int (nI (0))])))) cl_L q0 1 g1_q0 (by decide) bw_28 rfl rfl rfl (Nat.le_of_ble_eq_true rfl) d_L_init_15 rfl ?_
  have g2_q0 := bs_eq (x := (a, .inr (0, [.ref q1, .int (nI (0))]))) g1_q0
  exact bV.vretO G E0 rfl (by decide) (by decide) d_L_init_18 ⟨q1, rfl⟩
theorem d_K_init_0 : decode b_K_init 0 = .ok (.aload_n 0, 1) := by decide +kernel
theorem d_K_init_1 : decode b_K_init 1 = .ok (.invokespecial 1, 3) := by decide +kernel
theorem d_K_init_4 : decode b_K_init 4 = .ok (.aload_n 0, 1) := by decide +kernel
theorem d_K_init_5 : decode b_K_init 5 = .ok (.iconst 0, 1) := by decide +kernel
theorem d_K_init_6 : decode b_K_init 6 = .ok (.iload_n 1, 1) := by decide +kernel
theorem d_K_init_7 : decode b_K_init 7 = .ok (.invokestatic 7, 3) := by decide +kernel
theorem d_K_init_10 : decode b_K_init 10 = .ok (.newarray .boolean, 2) := by decide +kernel
theorem d_K_init_12 : decode b_K_init 12 = .ok (.putfield 13, 3) := by decide +kernel
theorem d_K_init_15 : decode b_K_init 15 = .ok (.return_, 1) := by decide +kernel
set_option maxRecDepth 20000 in
set_option maxHeartbeats 4000000 in
theorem c_K_init {D : va_G} {cI cZ cJ : ClassId} {ws : va_W} {q0 a : Nat} {y : Nat} (hy : y ≤ 24) (hW : ws[q0]? = some (a, .inr (1, [.null]))) : bC D bcl (tys3 cI cZ cJ) y_K_init ({ frames := 1, cells := 1, slots := 24, locals := 21 }) ws [.ref a, .int (nI (y))] (bO (fun ws9 => ∃ q1 : Nat, ws9 = (ws ++ ([(q1, .inl (cZ, y, .inl (fun _ => 0)))] : va_W)).set q0 (a, .inr (1, [.ref q1]))) bno) := by
  refine bC.of (by decide) m_K_init.1 (Nat.le_of_ble_eq_true rfl) ?_
  intro Γ G E0
  show bV D bcl Γ 2 ws 0 0 0 [(0, .ref a), (1, .int (nI (y)))] []
  refine bV.aload_n G d_K_init_0 rfl ?_
  refine bV.objInit G bw_62 bw_19 bw_20 (by decide) (by decide) d_K_init_1 ?_
  refine bV.aload_n G d_K_init_4 rfl ?_
  refine bV.iconst (v := nI 0) G d_K_init_5 (by decide) ?_
  refine bV.iload_n G d_K_init_6 rfl ?_
  refine bV.mmax G bw_63 bw_42 bw_4 bw_43 (by decide) (Nat.le_of_ble_eq_true rfl) (Nat.le_of_ble_eq_true rfl) (Nat.le_of_ble_eq_true rfl) d_K_init_7 ?_
  refine bV.topi (y := (nI (y))) (lmax (by omega)) ?_
  refine bV.newarray (atype := .boolean) (ty := .boolean) (N := y) (a0 := (y, .inl (fun _ => 0))) G 1 bw_68 rfl (fun C h => by cases h) rfl (fun _ => rfl) (nI_pos (by omega)) (nI_clamp (by omega)) (show y * 1 ≤ 536870912 by omega) (Nat.le_of_ble_eq_true rfl) (show 0 + y ≤ 24 by omega) d_K_init_10 (fun q1 => ?_)
  refine bV.putF G (ws' := ((ws ++ ([(q1, .inl (cZ, y, .inl (fun _ => 0)))] : va_W)).set q0 (a, .inr (1, [.ref q1])))) cl_K q0 0 (bs_app (xs := ([(q1, .inl (cZ, y, .inl (fun _ => 0)))] : va_W)) hW) (by decide) bw_64 rfl rfl rfl rfl (Nat.le_of_ble_eq_true rfl) d_K_init_12 rfl ?_
  have g1_q0 := bs_eq (x := (a, .inr (1, [.ref q1]))) (bs_app (xs := ([(q1, .inl (cZ, y, .inl (fun _ => 0)))] : va_W)) hW)
  exact bV.vretO G E0 rfl (by decide) (show 0 + y ≤ 24 by omega) d_K_init_15 ⟨q1, rfl⟩
theorem d_P_init_0 : decode b_P_init 0 = .ok (.aload_n 0, 1) := by decide +kernel
theorem d_P_init_1 : decode b_P_init 1 = .ok (.invokespecial 3, 3) := by decide +kernel
theorem d_P_init_4 : decode b_P_init 4 = .ok (.aload_n 0, 1) := by decide +kernel
theorem d_P_init_5 : decode b_P_init 5 = .ok (.iconst 0, 1) := by decide +kernel
theorem d_P_init_6 : decode b_P_init 6 = .ok (.putfield 9, 3) := by decide +kernel
theorem d_P_init_9 : decode b_P_init 9 = .ok (.aload_n 0, 1) := by decide +kernel
theorem d_P_init_10 : decode b_P_init 10 = .ok (.iconst 0, 1) := by decide +kernel
theorem d_P_init_11 : decode b_P_init 11 = .ok (.putfield 15, 3) := by decide +kernel
theorem d_P_init_14 : decode b_P_init 14 = .ok (.aload_n 0, 1) := by decide +kernel
theorem d_P_init_15 : decode b_P_init 15 = .ok (.iconst 0, 1) := by decide +kernel
theorem d_P_init_16 : decode b_P_init 16 = .ok (.iload_n 2, 1) := by decide +kernel
theorem d_P_init_17 : decode b_P_init 17 = .ok (.invokestatic 18, 3) := by decide +kernel
theorem d_P_init_20 : decode b_P_init 20 = .ok (.newarray .int, 2) := by decide +kernel
theorem d_P_init_22 : decode b_P_init 22 = .ok (.putfield 24, 3) := by decide +kernel
theorem d_P_init_25 : decode b_P_init 25 = .ok (.aload_n 0, 1) := by decide +kernel
theorem d_P_init_26 : decode b_P_init 26 = .ok (.iconst 0, 1) := by decide +kernel
theorem d_P_init_27 : decode b_P_init 27 = .ok (.iload_n 1, 1) := by decide +kernel
theorem d_P_init_28 : decode b_P_init 28 = .ok (.invokestatic 18, 3) := by decide +kernel
theorem d_P_init_31 : decode b_P_init 31 = .ok (.iconst 1, 1) := by decide +kernel
theorem d_P_init_32 : decode b_P_init 32 = .ok (.iadd, 1) := by decide +kernel
theorem d_P_init_33 : decode b_P_init 33 = .ok (.newarray .int, 2) := by decide +kernel
theorem d_P_init_35 : decode b_P_init 35 = .ok (.putfield 28, 3) := by decide +kernel
theorem d_P_init_38 : decode b_P_init 38 = .ok (.return_, 1) := by decide +kernel
set_option maxRecDepth 20000 in
set_option maxHeartbeats 4000000 in
theorem c_P_init {D : va_G} {cI cZ cJ : ClassId} {ws : va_W} {q0 a : Nat} {mo ro : Nat} (hr : ro + (mo + 1) ≤ 700) (hW : ws[q0]? = some (a, .inr (2, [.null, .null, .int (0), .int (0)]))) : bC D bcl (tys3 cI cZ cJ) y_P_init ({ frames := 1, cells := 2, slots := 700, locals := 21 }) ws [.ref a, .int (nI (mo)), .int (nI (ro))] (bO (fun ws9 => ∃ q1 q2 : Nat, ws9 = (((((ws.set q0 (a, .inr (2, [.null, .null, .int (nI 0), .int 0]))).set q0 (a, .inr (2, [.null, .null, .int (nI 0), .int (nI 0)]))) ++ ([(q1, .inl (cI, ro, .inl (fun _ => 0)))] : va_W)).set q0 (a, .inr (2, [.ref q1, .null, .int (nI 0), .int (nI 0)]))) ++ ([(q2, .inl (cI, mo + 1, .inl (fun _ => 0)))] : va_W)).set q0 (a, .inr (2, [.ref q1, .ref q2, .int (nI 0), .int (nI 0)]))) bno) := by
  refine bC.of (by decide) m_P_init.1 (Nat.le_of_ble_eq_true rfl) ?_
  intro Γ G E0
  show bV D bcl Γ 3 ws 0 0 0 [(0, .ref a), (1, .int (nI (mo))), (2, .int (nI (ro)))] []
  refine bV.aload_n G d_P_init_0 rfl ?_
  refine bV.objInit G bw_40 bw_19 bw_20 (by decide) (by decide) d_P_init_1 ?_
  refine bV.aload_n G d_P_init_4 rfl ?_
  refine bV.iconst (v := nI 0) G d_P_init_5 (by decide) ?_
  refine bV.putf G (ws' := (ws.set q0 (a, .inr (2, [.null, .null, .int (nI (0)), .int (0)])))) cl_P q0 2 hW (by decide) bw_46 rfl rfl rfl (Nat.le_of_ble_eq_true rfl) d_P_init_6 rfl ?_
  have g1_q0 := bs_eq (x := (a, .inr (2, [.null, .null, .int (nI (0)), .int (0)]))) hW
  refine bV.aload_n G d_P_init_9 rfl ?_
  refine bV.iconst (v := nI 0) G d_P_init_10 (by decide) ?_
  refine bV.putf G (ws' := ((ws.set q0 (a, .inr (2, [.null, .null, .int (nI (0)), .int (0)]))).set q0 (a, .inr (2, [.null, .null, .int (nI (0)), .int (nI (0))])))) cl_P q0 3 g1_q0 (by decide) bw_47 rfl rfl rfl (Nat.le_of_ble_eq_true rfl) d_P_init_11 rfl ?_
  have g2_q0 := bs_eq (x := (a, .inr (2, [.null, .null, .int (nI (0)), .int (nI (0))]))) g1_q0
  refine bV.aload_n G d_P_init_14 rfl ?_
  refine bV.iconst (v := nI 0) G d_P_init_15 (by decide) ?_
  refine bV.iload_n G d_P_init_16 rfl ?_
  refine bV.mmax G bw_41 bw_42 bw_4 bw_43 (by decide) (Nat.le_of_ble_eq_true rfl) (Nat.le_of_ble_eq_true rfl) (Nat.le_of_ble_eq_true rfl) d_P_init_17 ?_
  refine bV.topi (y := (nI (ro))) (lmax (by omega)) ?_
  refine bV.newarray (atype := .int) (ty := .int) (N := ro) (a0 := (ro, .inl (fun _ => 0))) G 0 bw_34 rfl (fun C h => by cases h) rfl (fun _ => rfl) (nI_pos (by omega)) (nI_clamp (by omega)) (show ro * 4 ≤ 536870912 by omega) (Nat.le_of_ble_eq_true rfl) (show 0 + ro ≤ 700 by omega) d_P_init_20 (fun q1 => ?_)
  refine bV.putF G (ws' := ((((ws.set q0 (a, .inr (2, [.null, .null, .int (nI (0)), .int (0)]))).set q0 (a, .inr (2, [.null, .null, .int (nI (0)), .int (nI (0))]))) ++ ([(q1, .inl (cI, ro, .inl (fun _ => 0)))] : va_W)).set q0 (a, .inr (2, [.ref q1, .null, .int (nI (0)), .int (nI (0))])))) cl_P q0 0 (bs_app (xs := ([(q1, .inl (cI, ro, .inl (fun _ => 0)))] : va_W)) g2_q0) (by decide) bw_44 rfl rfl rfl rfl (Nat.le_of_ble_eq_true rfl) d_P_init_22 rfl ?_
  have g3_q0 := bs_eq (x := (a, .inr (2, [.ref q1, .null, .int (nI (0)), .int (nI (0))]))) (bs_app (xs := ([(q1, .inl (cI, ro, .inl (fun _ => 0)))] : va_W)) g2_q0)
  refine bV.aload_n G d_P_init_25 rfl ?_
  refine bV.iconst (v := nI 0) G d_P_init_26 (by decide) ?_
  refine bV.iload_n G d_P_init_27 rfl ?_
  refine bV.mmax G bw_41 bw_42 bw_4 bw_43 (by decide) (Nat.le_of_ble_eq_true rfl) (Nat.le_of_ble_eq_true rfl) (show 0 + ro ≤ 700 by omega) d_P_init_28 ?_
  refine bV.topi (y := (nI (mo))) (lmax (by omega)) ?_
  refine bV.iconst (v := nI 1) G d_P_init_31 (by decide) ?_
  refine bV.iaddN G d_P_init_32 ?_
  refine bV.newarray (atype := .int) (ty := .int) (N := (mo + 1)) (a0 := ((mo + 1), .inl (fun _ => 0))) G 0 bw_34 rfl (fun C h => by cases h) rfl (fun _ => rfl) (nI_pos (by omega)) (nI_clamp (by omega)) (show (mo + 1) * 4 ≤ 536870912 by omega) (Nat.le_of_ble_eq_true rfl) (show 0 + ro + (mo + 1) ≤ 700 by omega) d_P_init_33 (fun q2 => ?_)
  refine bV.putF G (ws' := ((((((ws.set q0 (a, .inr (2, [.null, .null, .int (nI (0)), .int (0)]))).set q0 (a, .inr (2, [.null, .null, .int (nI (0)), .int (nI (0))]))) ++ ([(q1, .inl (cI, ro, .inl (fun _ => 0)))] : va_W)).set q0 (a, .inr (2, [.ref q1, .null, .int (nI (0)), .int (nI (0))]))) ++ ([(q2, .inl (cI, (mo + 1), .inl (fun _ => 0)))] : va_W)).set q0 (a, .inr (2, [.ref q1, .ref q2, .int (nI (0)), .int (nI (0))])))) cl_P q0 1 (bs_app (xs := ([(q2, .inl (cI, (mo + 1), .inl (fun _ => 0)))] : va_W)) g3_q0) (by decide) bw_45 rfl rfl rfl rfl (Nat.le_of_ble_eq_true rfl) d_P_init_35 rfl ?_
  have g4_q0 := bs_eq (x := (a, .inr (2, [.ref q1, .ref q2, .int (nI (0)), .int (nI (0))]))) (bs_app (xs := ([(q2, .inl (cI, (mo + 1), .inl (fun _ => 0)))] : va_W)) g3_q0)
  exact bV.vretO G E0 rfl (by decide) (show 0 + ro + (mo + 1) ≤ 700 by omega) d_P_init_38 ⟨q1, q2, rfl⟩
end
section
/-! ===== a new store ===== -/
theorem d_S_init_0 : decode b_S_init 0 = .ok (.aload_n 0, 1) := by decide +kernel
theorem d_S_init_1 : decode b_S_init 1 = .ok (.invokespecial 3, 3) := by decide +kernel
theorem d_S_init_4 : decode b_S_init 4 = .ok (.aload_n 0, 1) := by decide +kernel
theorem d_S_init_5 : decode b_S_init 5 = .ok (.new 9, 3) := by decide +kernel
theorem d_S_init_8 : decode b_S_init 8 = .ok (.dup, 1) := by decide +kernel
theorem d_S_init_9 : decode b_S_init 9 = .ok (.invokespecial 11, 3) := by decide +kernel
theorem d_S_init_12 : decode b_S_init 12 = .ok (.putfield 12, 3) := by decide +kernel
theorem d_S_init_15 : decode b_S_init 15 = .ok (.aload_n 0, 1) := by decide +kernel
theorem d_S_init_16 : decode b_S_init 16 = .ok (.new 16, 3) := by decide +kernel
theorem d_S_init_19 : decode b_S_init 19 = .ok (.dup, 1) := by decide +kernel
theorem d_S_init_20 : decode b_S_init 20 = .ok (.bipush 24, 2) := by decide +kernel
theorem d_S_init_22 : decode b_S_init 22 = .ok (.sipush 600, 3) := by decide +kernel
theorem d_S_init_25 : decode b_S_init 25 = .ok (.invokespecial 18, 3) := by decide +kernel
theorem d_S_init_28 : decode b_S_init 28 = .ok (.putfield 21, 3) := by decide +kernel
theorem d_S_init_31 : decode b_S_init 31 = .ok (.aload_n 0, 1) := by decide +kernel
theorem d_S_init_32 : decode b_S_init 32 = .ok (.new 25, 3) := by decide +kernel
theorem d_S_init_35 : decode b_S_init 35 = .ok (.dup, 1) := by decide +kernel
theorem d_S_init_36 : decode b_S_init 36 = .ok (.bipush 24, 2) := by decide +kernel
theorem d_S_init_38 : decode b_S_init 38 = .ok (.invokespecial 27, 3) := by decide +kernel
theorem d_S_init_41 : decode b_S_init 41 = .ok (.putfield 30, 3) := by decide +kernel
theorem d_S_init_44 : decode b_S_init 44 = .ok (.aload_n 0, 1) := by decide +kernel
theorem d_S_init_45 : decode b_S_init 45 = .ok (.new 25, 3) := by decide +kernel
theorem d_S_init_48 : decode b_S_init 48 = .ok (.dup, 1) := by decide +kernel
theorem d_S_init_49 : decode b_S_init 49 = .ok (.bipush 24, 2) := by decide +kernel
theorem d_S_init_51 : decode b_S_init 51 = .ok (.invokespecial 27, 3) := by decide +kernel
theorem d_S_init_54 : decode b_S_init 54 = .ok (.putfield 34, 3) := by decide +kernel
theorem d_S_init_57 : decode b_S_init 57 = .ok (.aload_n 0, 1) := by decide +kernel
theorem d_S_init_58 : decode b_S_init 58 = .ok (.new 25, 3) := by decide +kernel
theorem d_S_init_61 : decode b_S_init 61 = .ok (.dup, 1) := by decide +kernel
theorem d_S_init_62 : decode b_S_init 62 = .ok (.bipush 24, 2) := by decide +kernel
theorem d_S_init_64 : decode b_S_init 64 = .ok (.invokespecial 27, 3) := by decide +kernel
theorem d_S_init_67 : decode b_S_init 67 = .ok (.putfield 37, 3) := by decide +kernel
theorem d_S_init_70 : decode b_S_init 70 = .ok (.aload_n 0, 1) := by decide +kernel
theorem d_S_init_71 : decode b_S_init 71 = .ok (.new 16, 3) := by decide +kernel
theorem d_S_init_74 : decode b_S_init 74 = .ok (.dup, 1) := by decide +kernel
theorem d_S_init_75 : decode b_S_init 75 = .ok (.bipush 12, 2) := by decide +kernel
theorem d_S_init_77 : decode b_S_init 77 = .ok (.bipush 104, 2) := by decide +kernel
theorem d_S_init_79 : decode b_S_init 79 = .ok (.invokespecial 18, 3) := by decide +kernel
theorem d_S_init_82 : decode b_S_init 82 = .ok (.putfield 40, 3) := by decide +kernel
theorem d_S_init_85 : decode b_S_init 85 = .ok (.aload_n 0, 1) := by decide +kernel
theorem d_S_init_86 : decode b_S_init 86 = .ok (.new 25, 3) := by decide +kernel
theorem d_S_init_89 : decode b_S_init 89 = .ok (.dup, 1) := by decide +kernel
theorem d_S_init_90 : decode b_S_init 90 = .ok (.bipush 12, 2) := by decide +kernel
theorem d_S_init_92 : decode b_S_init 92 = .ok (.invokespecial 27, 3) := by decide +kernel
theorem d_S_init_95 : decode b_S_init 95 = .ok (.putfield 43, 3) := by decide +kernel
theorem d_S_init_98 : decode b_S_init 98 = .ok (.aload_n 0, 1) := by decide +kernel
theorem d_S_init_99 : decode b_S_init 99 = .ok (.new 16, 3) := by decide +kernel
theorem d_S_init_102 : decode b_S_init 102 = .ok (.dup, 1) := by decide +kernel
theorem d_S_init_103 : decode b_S_init 103 = .ok (.iconst 1, 1) := by decide +kernel
theorem d_S_init_104 : decode b_S_init 104 = .ok (.bipush 8, 2) := by decide +kernel
theorem d_S_init_106 : decode b_S_init 106 = .ok (.iload_n 1, 1) := by decide +kernel
theorem d_S_init_107 : decode b_S_init 107 = .ok (.invokestatic 46, 3) := by decide +kernel
theorem d_S_init_110 : decode b_S_init 110 = .ok (.invokestatic 52, 3) := by decide +kernel
theorem d_S_init_113 : decode b_S_init 113 = .ok (.sipush 664, 3) := by decide +kernel
theorem d_S_init_116 : decode b_S_init 116 = .ok (.invokespecial 18, 3) := by decide +kernel
theorem d_S_init_119 : decode b_S_init 119 = .ok (.putfield 55, 3) := by decide +kernel
theorem d_S_init_122 : decode b_S_init 122 = .ok (.aload_n 0, 1) := by decide +kernel
theorem d_S_init_123 : decode b_S_init 123 = .ok (.iconst 0, 1) := by decide +kernel
theorem d_S_init_124 : decode b_S_init 124 = .ok (.putfield 58, 3) := by decide +kernel
theorem d_S_init_127 : decode b_S_init 127 = .ok (.return_, 1) := by decide +kernel
set_option maxRecDepth 20000 in
set_option maxHeartbeats 4000000 in
theorem c_S_init {D : va_G} {cI cZ cJ : ClassId} {a b : Nat} {sc : va_E} {v : Int32} : bC D bcl (tys3 cI cZ cJ) y_S_init ({ frames := 2, cells := 19, slots := 2700, locals := 60 }) [(b, sc), (a, .inr (3, [.null, .null, .null, .null, .null, .null, .null, .null, .int (0)]))] [.ref a, .int v] (bO (fun ws9 => ∃ ad : Nat → Nat, ad 0 = a ∧ ws9 = wS ad cI cZ (mpN v) (fun _ => 0) 0 ((fun _ => 0, fun _ => 0, 0, 0) : pc_C) (fun _ => 0) (fun _ => 0) (fun _ => 0) ((fun _ => 0, fun _ => 0, 0, 0) : pc_C) (fun _ => 0) ((fun _ => 0, fun _ => 0, 0, 0) : pc_C) false [(b, sc)]) bno) := by
  have hmp := mpN_b v
  refine bC.of (by decide) m_S_init.1 (Nat.le_of_ble_eq_true rfl) ?_
  intro Γ G E0
  show bV D bcl Γ 2 [(b, sc), (a, .inr (3, [.null, .null, .null, .null, .null, .null, .null, .null, .int (0)]))] 0 0 0 [(0, .ref a), (1, .int (v))] []
  refine bV.aload_n G d_S_init_0 rfl ?_
  refine bV.objInit G bw_18 bw_19 bw_20 (by decide) (by decide) d_S_init_1 ?_
  refine bV.aload_n G d_S_init_4 rfl ?_
  refine bV.new G cl_L (fs := [.null, .int (0)]) bw_21 bw_22 bw_2 (by decide) (Nat.le_of_ble_eq_true rfl) (Nat.le_of_ble_eq_true rfl) d_S_init_5 (fun o5 => ?_)
  show bV D bcl Γ 2 [(b, sc), (a, .inr (3, [.null, .null, .null, .null, .null, .null, .null, .null, .int (0)])), (o5, .inr (0, [.null, .int (0)]))] _ _ _ _ _
  refine bV.dup G d_S_init_8 rfl ?_
  refine bV.callINo (host := "BoardStore") G m_L_init rfl bw_24 bw_25 (by decide) (c_L_init (q0 := 2) rfl) rfl rfl ⟨by decide, by decide⟩ ⟨by decide, by decide⟩ (Nat.le_of_ble_eq_true rfl) d_S_init_9 (fun ws9 h9 => ?_)
  obtain ⟨r9a, h9e⟩ := h9
  rw [h9e]
  show bV D bcl Γ 2 [(b, sc), (a, .inr (3, [.null, .null, .null, .null, .null, .null, .null, .null, .int (0)])), (o5, .inr (0, [.ref r9a, .int (nI (0))])), (r9a, .inl (cI, 400, .inl (fun _ => 0)))] _ _ _ _ _
  refine bV.putF G (ws' := [(b, sc), (a, .inr (3, [.ref o5, .null, .null, .null, .null, .null, .null, .null, .int (0)])), (o5, .inr (0, [.ref r9a, .int (nI (0))])), (r9a, .inl (cI, 400, .inl (fun _ => 0)))]) cl_S 1 0 rfl (by decide) bw_73 rfl rfl rfl rfl (Nat.le_of_ble_eq_true rfl) d_S_init_12 rfl ?_
  refine bV.aload_n G d_S_init_15 rfl ?_
  refine bV.new G cl_P (fs := [.null, .null, .int (0), .int (0)]) bw_35 bw_36 bw_3 (by decide) (Nat.le_of_ble_eq_true rfl) (Nat.le_of_ble_eq_true rfl) d_S_init_16 (fun o16 => ?_)
  show bV D bcl Γ 2 [(b, sc), (a, .inr (3, [.ref o5, .null, .null, .null, .null, .null, .null, .null, .int (0)])), (o5, .inr (0, [.ref r9a, .int (nI (0))])), (r9a, .inl (cI, 400, .inl (fun _ => 0))), (o16, .inr (2, [.null, .null, .int (0), .int (0)]))] _ _ _ _ _
  refine bV.dup G d_S_init_19 rfl ?_
  refine bV.bipush (v := nI 24) G d_S_init_20 (by decide) ?_
  refine bV.sipush (v := nI 600) G d_S_init_22 (by decide) ?_
  refine bV.callIo G m_P_init rfl bw_38 bw_39 bw_37 (c_P_init (q0 := 4) (mo := 24) (ro := 600) (by omega) rfl) rfl rfl ⟨by decide, by decide⟩ ⟨by decide, by decide⟩ (Nat.le_of_ble_eq_true rfl) d_S_init_25 (fun ws9 h9 => ?_)
  obtain ⟨r25a, r25b, h9e⟩ := h9
  rw [h9e]
  show bV D bcl Γ 2 [(b, sc), (a, .inr (3, [.ref o5, .null, .null, .null, .null, .null, .null, .null, .int (0)])), (o5, .inr (0, [.ref r9a, .int (nI (0))])), (r9a, .inl (cI, 400, .inl (fun _ => 0))), (o16, .inr (2, [.ref r25a, .ref r25b, .int (nI (0)), .int (nI (0))])), (r25a, .inl (cI, 600, .inl (fun _ => 0))), (r25b, .inl (cI, (24 + 1), .inl (fun _ => 0)))] _ _ _ _ _
  refine bV.putF G (ws' := [(b, sc), (a, .inr (3, [.ref o5, .ref o16, .null, .null, .null, .null, .null, .null, .int (0)])), (o5, .inr (0, [.ref r9a, .int (nI (0))])), (r9a, .inl (cI, 400, .inl (fun _ => 0))), (o16, .inr (2, [.ref r25a, .ref r25b, .int (nI (0)), .int (nI (0))])), (r25a, .inl (cI, 600, .inl (fun _ => 0))), (r25b, .inl (cI, (24 + 1), .inl (fun _ => 0)))]) cl_S 1 1 rfl (by decide) bw_74 rfl rfl rfl rfl (Nat.le_of_ble_eq_true rfl) d_S_init_28 rfl ?_
  refine bV.aload_n G d_S_init_31 rfl ?_
  refine bV.new G cl_K (fs := [.null]) bw_57 bw_58 bw_5 (by decide) (Nat.le_of_ble_eq_true rfl) (Nat.le_of_ble_eq_true rfl) d_S_init_32 (fun o32 => ?_)
  show bV D bcl Γ 2 [(b, sc), (a, .inr (3, [.ref o5, .ref o16, .null, .null, .null, .null, .null, .null, .int (0)])), (o5, .inr (0, [.ref r9a, .int (nI (0))])), (r9a, .inl (cI, 400, .inl (fun _ => 0))), (o16, .inr (2, [.ref r25a, .ref r25b, .int (nI (0)), .int (nI (0))])), (r25a, .inl (cI, 600, .inl (fun _ => 0))), (r25b, .inl (cI, (24 + 1), .inl (fun _ => 0))), (o32, .inr (1, [.null]))] _ _ _ _ _
  refine bV.dup G d_S_init_35 rfl ?_
  refine bV.bipush (v := nI 24) G d_S_init_36 (by decide) ?_
  refine bV.callIo G m_K_init rfl bw_60 bw_61 bw_59 (c_K_init (q0 := 7) (y := 24) (by decide) rfl) rfl rfl ⟨by decide, by decide⟩ ⟨by decide, by decide⟩ (Nat.le_of_ble_eq_true rfl) d_S_init_38 (fun ws9 h9 => ?_)
  obtain ⟨r38a, h9e⟩ := h9
  rw [h9e]
  show bV D bcl Γ 2 [(b, sc), (a, .inr (3, [.ref o5, .ref o16, .null, .null, .null, .null, .null, .null, .int (0)])), (o5, .inr (0, [.ref r9a, .int (nI (0))])), (r9a, .inl (cI, 400, .inl (fun _ => 0))), (o16, .inr (2, [.ref r25a, .ref r25b, .int (nI (0)), .int (nI (0))])), (r25a, .inl (cI, 600, .inl (fun _ => 0))), (r25b, .inl (cI, (24 + 1), .inl (fun _ => 0))), (o32, .inr (1, [.ref r38a])), (r38a, .inl (cZ, 24, .inl (fun _ => 0)))] _ _ _ _ _
  refine bV.putF G (ws' := [(b, sc), (a, .inr (3, [.ref o5, .ref o16, .ref o32, .null, .null, .null, .null, .null, .int (0)])), (o5, .inr (0, [.ref r9a, .int (nI (0))])), (r9a, .inl (cI, 400, .inl (fun _ => 0))), (o16, .inr (2, [.ref r25a, .ref r25b, .int (nI (0)), .int (nI (0))])), (r25a, .inl (cI, 600, .inl (fun _ => 0))), (r25b, .inl (cI, (24 + 1), .inl (fun _ => 0))), (o32, .inr (1, [.ref r38a])), (r38a, .inl (cZ, 24, .inl (fun _ => 0)))]) cl_S 1 2 rfl (by decide) bw_75 rfl rfl rfl rfl (Nat.le_of_ble_eq_true rfl) d_S_init_41 rfl ?_
  refine bV.aload_n G d_S_init_44 rfl ?_
  refine bV.new G cl_K (fs := [.null]) bw_57 bw_58 bw_5 (by decide) (Nat.le_of_ble_eq_true rfl) (Nat.le_of_ble_eq_true rfl) d_S_init_45 (fun o45 => ?_)
  show bV D bcl Γ 2 [(b, sc), (a, .inr (3, [.ref o5, .ref o16, .ref o32, .null, .null, .null, .null, .null, .int (0)])), (o5, .inr (0, [.ref r9a, .int (nI (0))])), (r9a, .inl (cI, 400, .inl (fun _ => 0))), (o16, .inr (2, [.ref r25a, .ref r25b, .int (nI (0)), .int (nI (0))])), (r25a, .inl (cI, 600, .inl (fun _ => 0))), (r25b, .inl (cI, (24 + 1), .inl (fun _ => 0))), (o32, .inr (1, [.ref r38a])), (r38a, .inl (cZ, 24, .inl (fun _ => 0))), (o45, .inr (1, [.null]))] _ _ _ _ _
  refine bV.dup G d_S_init_48 rfl ?_
  refine bV.bipush (v := nI 24) G d_S_init_49 (by decide) ?_
  refine bV.callIo G m_K_init rfl bw_60 bw_61 bw_59 (c_K_init (q0 := 9) (y := 24) (by decide) rfl) rfl rfl ⟨by decide, by decide⟩ ⟨by decide, by decide⟩ (Nat.le_of_ble_eq_true rfl) d_S_init_51 (fun ws9 h9 => ?_)
  obtain ⟨r51a, h9e⟩ := h9
  rw [h9e]
  show bV D bcl Γ 2 [(b, sc), (a, .inr (3, [.ref o5, .ref o16, .ref o32, .null, .null, .null, .null, .null, .int (0)])), (o5, .inr (0, [.ref r9a, .int (nI (0))])), (r9a, .inl (cI, 400, .inl (fun _ => 0))), (o16, .inr (2, [.ref r25a, .ref r25b, .int (nI (0)), .int (nI (0))])), (r25a, .inl (cI, 600, .inl (fun _ => 0))), (r25b, .inl (cI, (24 + 1), .inl (fun _ => 0))), (o32, .inr (1, [.ref r38a])), (r38a, .inl (cZ, 24, .inl (fun _ => 0))), (o45, .inr (1, [.ref r51a])), (r51a, .inl (cZ, 24, .inl (fun _ => 0)))] _ _ _ _ _
  refine bV.putF G (ws' := [(b, sc), (a, .inr (3, [.ref o5, .ref o16, .ref o32, .ref o45, .null, .null, .null, .null, .int (0)])), (o5, .inr (0, [.ref r9a, .int (nI (0))])), (r9a, .inl (cI, 400, .inl (fun _ => 0))), (o16, .inr (2, [.ref r25a, .ref r25b, .int (nI (0)), .int (nI (0))])), (r25a, .inl (cI, 600, .inl (fun _ => 0))), (r25b, .inl (cI, (24 + 1), .inl (fun _ => 0))), (o32, .inr (1, [.ref r38a])), (r38a, .inl (cZ, 24, .inl (fun _ => 0))), (o45, .inr (1, [.ref r51a])), (r51a, .inl (cZ, 24, .inl (fun _ => 0)))]) cl_S 1 3 rfl (by decide) bw_76 rfl rfl rfl rfl (Nat.le_of_ble_eq_true rfl) d_S_init_54 rfl ?_
  refine bV.aload_n G d_S_init_57 rfl ?_
  refine bV.new G cl_K (fs := [.null]) bw_57 bw_58 bw_5 (by decide) (Nat.le_of_ble_eq_true rfl) (Nat.le_of_ble_eq_true rfl) d_S_init_58 (fun o58 => ?_)
  show bV D bcl Γ 2 [(b, sc), (a, .inr (3, [.ref o5, .ref o16, .ref o32, .ref o45, .null, .null, .null, .null, .int (0)])), (o5, .inr (0, [.ref r9a, .int (nI (0))])), (r9a, .inl (cI, 400, .inl (fun _ => 0))), (o16, .inr (2, [.ref r25a, .ref r25b, .int (nI (0)), .int (nI (0))])), (r25a, .inl (cI, 600, .inl (fun _ => 0))), (r25b, .inl (cI, (24 + 1), .inl (fun _ => 0))), (o32, .inr (1, [.ref r38a])), (r38a, .inl (cZ, 24, .inl (fun _ => 0))), (o45, .inr (1, [.ref r51a])), (r51a, .inl (cZ, 24, .inl (fun _ => 0))), (o58, .inr (1, [.null]))] _ _ _ _ _
  refine bV.dup G d_S_init_61 rfl ?_
  refine bV.bipush (v := nI 24) G d_S_init_62 (by decide) ?_
  refine bV.callIo G m_K_init rfl bw_60 bw_61 bw_59 (c_K_init (q0 := 11) (y := 24) (by decide) rfl) rfl rfl ⟨by decide, by decide⟩ ⟨by decide, by decide⟩ (Nat.le_of_ble_eq_true rfl) d_S_init_64 (fun ws9 h9 => ?_)
  obtain ⟨r64a, h9e⟩ := h9
  rw [h9e]
  show bV D bcl Γ 2 [(b, sc), (a, .inr (3, [.ref o5, .ref o16, .ref o32, .ref o45, .null, .null, .null, .null, .int (0)])), (o5, .inr (0, [.ref r9a, .int (nI (0))])), (r9a, .inl (cI, 400, .inl (fun _ => 0))), (o16, .inr (2, [.ref r25a, .ref r25b, .int (nI (0)), .int (nI (0))])), (r25a, .inl (cI, 600, .inl (fun _ => 0))), (r25b, .inl (cI, (24 + 1), .inl (fun _ => 0))), (o32, .inr (1, [.ref r38a])), (r38a, .inl (cZ, 24, .inl (fun _ => 0))), (o45, .inr (1, [.ref r51a])), (r51a, .inl (cZ, 24, .inl (fun _ => 0))), (o58, .inr (1, [.ref r64a])), (r64a, .inl (cZ, 24, .inl (fun _ => 0)))] _ _ _ _ _
  refine bV.putF G (ws' := [(b, sc), (a, .inr (3, [.ref o5, .ref o16, .ref o32, .ref o45, .ref o58, .null, .null, .null, .int (0)])), (o5, .inr (0, [.ref r9a, .int (nI (0))])), (r9a, .inl (cI, 400, .inl (fun _ => 0))), (o16, .inr (2, [.ref r25a, .ref r25b, .int (nI (0)), .int (nI (0))])), (r25a, .inl (cI, 600, .inl (fun _ => 0))), (r25b, .inl (cI, (24 + 1), .inl (fun _ => 0))), (o32, .inr (1, [.ref r38a])), (r38a, .inl (cZ, 24, .inl (fun _ => 0))), (o45, .inr (1, [.ref r51a])), (r51a, .inl (cZ, 24, .inl (fun _ => 0))), (o58, .inr (1, [.ref r64a])), (r64a, .inl (cZ, 24, .inl (fun _ => 0)))]) cl_S 1 4 rfl (by decide) bw_77 rfl rfl rfl rfl (Nat.le_of_ble_eq_true rfl) d_S_init_67 rfl ?_
  refine bV.aload_n G d_S_init_70 rfl ?_
  refine bV.new G cl_P (fs := [.null, .null, .int (0), .int (0)]) bw_35 bw_36 bw_3 (by decide) (Nat.le_of_ble_eq_true rfl) (Nat.le_of_ble_eq_true rfl) d_S_init_71 (fun o71 => ?_)
  show bV D bcl Γ 2 [(b, sc), (a, .inr (3, [.ref o5, .ref o16, .ref o32, .ref o45, .ref o58, .null, .null, .null, .int (0)])), (o5, .inr (0, [.ref r9a, .int (nI (0))])), (r9a, .inl (cI, 400, .inl (fun _ => 0))), (o16, .inr (2, [.ref r25a, .ref r25b, .int (nI (0)), .int (nI (0))])), (r25a, .inl (cI, 600, .inl (fun _ => 0))), (r25b, .inl (cI, (24 + 1), .inl (fun _ => 0))), (o32, .inr (1, [.ref r38a])), (r38a, .inl (cZ, 24, .inl (fun _ => 0))), (o45, .inr (1, [.ref r51a])), (r51a, .inl (cZ, 24, .inl (fun _ => 0))), (o58, .inr (1, [.ref r64a])), (r64a, .inl (cZ, 24, .inl (fun _ => 0))), (o71, .inr (2, [.null, .null, .int (0), .int (0)]))] _ _ _ _ _
  refine bV.dup G d_S_init_74 rfl ?_
  refine bV.bipush (v := nI 12) G d_S_init_75 (by decide) ?_
  refine bV.bipush (v := nI 104) G d_S_init_77 (by decide) ?_
  refine bV.callIo G m_P_init rfl bw_38 bw_39 bw_37 (c_P_init (q0 := 13) (mo := 12) (ro := 104) (by omega) rfl) rfl rfl ⟨by decide, by decide⟩ ⟨by decide, by decide⟩ (Nat.le_of_ble_eq_true rfl) d_S_init_79 (fun ws9 h9 => ?_)
  obtain ⟨r79a, r79b, h9e⟩ := h9
  rw [h9e]
  show bV D bcl Γ 2 [(b, sc), (a, .inr (3, [.ref o5, .ref o16, .ref o32, .ref o45, .ref o58, .null, .null, .null, .int (0)])), (o5, .inr (0, [.ref r9a, .int (nI (0))])), (r9a, .inl (cI, 400, .inl (fun _ => 0))), (o16, .inr (2, [.ref r25a, .ref r25b, .int (nI (0)), .int (nI (0))])), (r25a, .inl (cI, 600, .inl (fun _ => 0))), (r25b, .inl (cI, (24 + 1), .inl (fun _ => 0))), (o32, .inr (1, [.ref r38a])), (r38a, .inl (cZ, 24, .inl (fun _ => 0))), (o45, .inr (1, [.ref r51a])), (r51a, .inl (cZ, 24, .inl (fun _ => 0))), (o58, .inr (1, [.ref r64a])), (r64a, .inl (cZ, 24, .inl (fun _ => 0))), (o71, .inr (2, [.ref r79a, .ref r79b, .int (nI (0)), .int (nI (0))])), (r79a, .inl (cI, 104, .inl (fun _ => 0))), (r79b, .inl (cI, (12 + 1), .inl (fun _ => 0)))] _ _ _ _ _
  refine bV.putF G (ws' := [(b, sc), (a, .inr (3, [.ref o5, .ref o16, .ref o32, .ref o45, .ref o58, .ref o71, .null, .null, .int (0)])), (o5, .inr (0, [.ref r9a, .int (nI (0))])), (r9a, .inl (cI, 400, .inl (fun _ => 0))), (o16, .inr (2, [.ref r25a, .ref r25b, .int (nI (0)), .int (nI (0))])), (r25a, .inl (cI, 600, .inl (fun _ => 0))), (r25b, .inl (cI, (24 + 1), .inl (fun _ => 0))), (o32, .inr (1, [.ref r38a])), (r38a, .inl (cZ, 24, .inl (fun _ => 0))), (o45, .inr (1, [.ref r51a])), (r51a, .inl (cZ, 24, .inl (fun _ => 0))), (o58, .inr (1, [.ref r64a])), (r64a, .inl (cZ, 24, .inl (fun _ => 0))), (o71, .inr (2, [.ref r79a, .ref r79b, .int (nI (0)), .int (nI (0))])), (r79a, .inl (cI, 104, .inl (fun _ => 0))), (r79b, .inl (cI, (12 + 1), .inl (fun _ => 0)))]) cl_S 1 5 rfl (by decide) bw_78 rfl rfl rfl rfl (Nat.le_of_ble_eq_true rfl) d_S_init_82 rfl ?_
  refine bV.aload_n G d_S_init_85 rfl ?_
  refine bV.new G cl_K (fs := [.null]) bw_57 bw_58 bw_5 (by decide) (Nat.le_of_ble_eq_true rfl) (Nat.le_of_ble_eq_true rfl) d_S_init_86 (fun o86 => ?_)
  show bV D bcl Γ 2 [(b, sc), (a, .inr (3, [.ref o5, .ref o16, .ref o32, .ref o45, .ref o58, .ref o71, .null, .null, .int (0)])), (o5, .inr (0, [.ref r9a, .int (nI (0))])), (r9a, .inl (cI, 400, .inl (fun _ => 0))), (o16, .inr (2, [.ref r25a, .ref r25b, .int (nI (0)), .int (nI (0))])), (r25a, .inl (cI, 600, .inl (fun _ => 0))), (r25b, .inl (cI, (24 + 1), .inl (fun _ => 0))), (o32, .inr (1, [.ref r38a])), (r38a, .inl (cZ, 24, .inl (fun _ => 0))), (o45, .inr (1, [.ref r51a])), (r51a, .inl (cZ, 24, .inl (fun _ => 0))), (o58, .inr (1, [.ref r64a])), (r64a, .inl (cZ, 24, .inl (fun _ => 0))), (o71, .inr (2, [.ref r79a, .ref r79b, .int (nI (0)), .int (nI (0))])), (r79a, .inl (cI, 104, .inl (fun _ => 0))), (r79b, .inl (cI, (12 + 1), .inl (fun _ => 0))), (o86, .inr (1, [.null]))] _ _ _ _ _
  refine bV.dup G d_S_init_89 rfl ?_
  refine bV.bipush (v := nI 12) G d_S_init_90 (by decide) ?_
  refine bV.callIo G m_K_init rfl bw_60 bw_61 bw_59 (c_K_init (q0 := 16) (y := 12) (by decide) rfl) rfl rfl ⟨by decide, by decide⟩ ⟨by decide, by decide⟩ (Nat.le_of_ble_eq_true rfl) d_S_init_92 (fun ws9 h9 => ?_)
  obtain ⟨r92a, h9e⟩ := h9
  rw [h9e]
  show bV D bcl Γ 2 [(b, sc), (a, .inr (3, [.ref o5, .ref o16, .ref o32, .ref o45, .ref o58, .ref o71, .null, .null, .int (0)])), (o5, .inr (0, [.ref r9a, .int (nI (0))])), (r9a, .inl (cI, 400, .inl (fun _ => 0))), (o16, .inr (2, [.ref r25a, .ref r25b, .int (nI (0)), .int (nI (0))])), (r25a, .inl (cI, 600, .inl (fun _ => 0))), (r25b, .inl (cI, (24 + 1), .inl (fun _ => 0))), (o32, .inr (1, [.ref r38a])), (r38a, .inl (cZ, 24, .inl (fun _ => 0))), (o45, .inr (1, [.ref r51a])), (r51a, .inl (cZ, 24, .inl (fun _ => 0))), (o58, .inr (1, [.ref r64a])), (r64a, .inl (cZ, 24, .inl (fun _ => 0))), (o71, .inr (2, [.ref r79a, .ref r79b, .int (nI (0)), .int (nI (0))])), (r79a, .inl (cI, 104, .inl (fun _ => 0))), (r79b, .inl (cI, (12 + 1), .inl (fun _ => 0))), (o86, .inr (1, [.ref r92a])), (r92a, .inl (cZ, 12, .inl (fun _ => 0)))] _ _ _ _ _
  refine bV.putF G (ws' := [(b, sc), (a, .inr (3, [.ref o5, .ref o16, .ref o32, .ref o45, .ref o58, .ref o71, .ref o86, .null, .int (0)])), (o5, .inr (0, [.ref r9a, .int (nI (0))])), (r9a, .inl (cI, 400, .inl (fun _ => 0))), (o16, .inr (2, [.ref r25a, .ref r25b, .int (nI (0)), .int (nI (0))])), (r25a, .inl (cI, 600, .inl (fun _ => 0))), (r25b, .inl (cI, (24 + 1), .inl (fun _ => 0))), (o32, .inr (1, [.ref r38a])), (r38a, .inl (cZ, 24, .inl (fun _ => 0))), (o45, .inr (1, [.ref r51a])), (r51a, .inl (cZ, 24, .inl (fun _ => 0))), (o58, .inr (1, [.ref r64a])), (r64a, .inl (cZ, 24, .inl (fun _ => 0))), (o71, .inr (2, [.ref r79a, .ref r79b, .int (nI (0)), .int (nI (0))])), (r79a, .inl (cI, 104, .inl (fun _ => 0))), (r79b, .inl (cI, (12 + 1), .inl (fun _ => 0))), (o86, .inr (1, [.ref r92a])), (r92a, .inl (cZ, 12, .inl (fun _ => 0)))]) cl_S 1 6 rfl (by decide) bw_79 rfl rfl rfl rfl (Nat.le_of_ble_eq_true rfl) d_S_init_95 rfl ?_
  refine bV.aload_n G d_S_init_98 rfl ?_
  refine bV.new G cl_P (fs := [.null, .null, .int (0), .int (0)]) bw_35 bw_36 bw_3 (by decide) (Nat.le_of_ble_eq_true rfl) (Nat.le_of_ble_eq_true rfl) d_S_init_99 (fun o99 => ?_)
  show bV D bcl Γ 2 [(b, sc), (a, .inr (3, [.ref o5, .ref o16, .ref o32, .ref o45, .ref o58, .ref o71, .ref o86, .null, .int (0)])), (o5, .inr (0, [.ref r9a, .int (nI (0))])), (r9a, .inl (cI, 400, .inl (fun _ => 0))), (o16, .inr (2, [.ref r25a, .ref r25b, .int (nI (0)), .int (nI (0))])), (r25a, .inl (cI, 600, .inl (fun _ => 0))), (r25b, .inl (cI, (24 + 1), .inl (fun _ => 0))), (o32, .inr (1, [.ref r38a])), (r38a, .inl (cZ, 24, .inl (fun _ => 0))), (o45, .inr (1, [.ref r51a])), (r51a, .inl (cZ, 24, .inl (fun _ => 0))), (o58, .inr (1, [.ref r64a])), (r64a, .inl (cZ, 24, .inl (fun _ => 0))), (o71, .inr (2, [.ref r79a, .ref r79b, .int (nI (0)), .int (nI (0))])), (r79a, .inl (cI, 104, .inl (fun _ => 0))), (r79b, .inl (cI, (12 + 1), .inl (fun _ => 0))), (o86, .inr (1, [.ref r92a])), (r92a, .inl (cZ, 12, .inl (fun _ => 0))), (o99, .inr (2, [.null, .null, .int (0), .int (0)]))] _ _ _ _ _
  refine bV.dup G d_S_init_102 rfl ?_
  refine bV.iconst (v := nI 1) G d_S_init_103 (by decide) ?_
  refine bV.bipush (v := nI 8) G d_S_init_104 (by decide) ?_
  refine bV.iload_n G d_S_init_106 rfl ?_
  refine bV.mmin G bw_69 bw_70 bw_4 bw_71 (by decide) (Nat.le_of_ble_eq_true rfl) (Nat.le_of_ble_eq_true rfl) (Nat.le_of_ble_eq_true rfl) d_S_init_107 ?_
  refine bV.mmax G bw_72 bw_42 bw_4 bw_43 (by decide) (Nat.le_of_ble_eq_true rfl) (Nat.le_of_ble_eq_true rfl) (Nat.le_of_ble_eq_true rfl) d_S_init_110 ?_
  refine bV.topi (y := (nI (mpN v))) (mp_e v) ?_
  refine bV.sipush (v := nI 664) G d_S_init_113 (by decide) ?_
  refine bV.callIo G m_P_init rfl bw_38 bw_39 bw_37 (c_P_init (q0 := 18) (mo := mpN v) (ro := 664) (by omega) rfl) rfl rfl ⟨by decide, by decide⟩ ⟨by decide, by decide⟩ (Nat.le_of_ble_eq_true rfl) d_S_init_116 (fun ws9 h9 => ?_)
  obtain ⟨r116a, r116b, h9e⟩ := h9
  rw [h9e]
  show bV D bcl Γ 2 [(b, sc), (a, .inr (3, [.ref o5, .ref o16, .ref o32, .ref o45, .ref o58, .ref o71, .ref o86, .null, .int (0)])), (o5, .inr (0, [.ref r9a, .int (nI (0))])), (r9a, .inl (cI, 400, .inl (fun _ => 0))), (o16, .inr (2, [.ref r25a, .ref r25b, .int (nI (0)), .int (nI (0))])), (r25a, .inl (cI, 600, .inl (fun _ => 0))), (r25b, .inl (cI, (24 + 1), .inl (fun _ => 0))), (o32, .inr (1, [.ref r38a])), (r38a, .inl (cZ, 24, .inl (fun _ => 0))), (o45, .inr (1, [.ref r51a])), (r51a, .inl (cZ, 24, .inl (fun _ => 0))), (o58, .inr (1, [.ref r64a])), (r64a, .inl (cZ, 24, .inl (fun _ => 0))), (o71, .inr (2, [.ref r79a, .ref r79b, .int (nI (0)), .int (nI (0))])), (r79a, .inl (cI, 104, .inl (fun _ => 0))), (r79b, .inl (cI, (12 + 1), .inl (fun _ => 0))), (o86, .inr (1, [.ref r92a])), (r92a, .inl (cZ, 12, .inl (fun _ => 0))), (o99, .inr (2, [.ref r116a, .ref r116b, .int (nI (0)), .int (nI (0))])), (r116a, .inl (cI, 664, .inl (fun _ => 0))), (r116b, .inl (cI, (mpN v + 1), .inl (fun _ => 0)))] _ _ _ _ _
  refine bV.putF G (ws' := [(b, sc), (a, .inr (3, [.ref o5, .ref o16, .ref o32, .ref o45, .ref o58, .ref o71, .ref o86, .ref o99, .int (0)])), (o5, .inr (0, [.ref r9a, .int (nI (0))])), (r9a, .inl (cI, 400, .inl (fun _ => 0))), (o16, .inr (2, [.ref r25a, .ref r25b, .int (nI (0)), .int (nI (0))])), (r25a, .inl (cI, 600, .inl (fun _ => 0))), (r25b, .inl (cI, (24 + 1), .inl (fun _ => 0))), (o32, .inr (1, [.ref r38a])), (r38a, .inl (cZ, 24, .inl (fun _ => 0))), (o45, .inr (1, [.ref r51a])), (r51a, .inl (cZ, 24, .inl (fun _ => 0))), (o58, .inr (1, [.ref r64a])), (r64a, .inl (cZ, 24, .inl (fun _ => 0))), (o71, .inr (2, [.ref r79a, .ref r79b, .int (nI (0)), .int (nI (0))])), (r79a, .inl (cI, 104, .inl (fun _ => 0))), (r79b, .inl (cI, (12 + 1), .inl (fun _ => 0))), (o86, .inr (1, [.ref r92a])), (r92a, .inl (cZ, 12, .inl (fun _ => 0))), (o99, .inr (2, [.ref r116a, .ref r116b, .int (nI (0)), .int (nI (0))])), (r116a, .inl (cI, 664, .inl (fun _ => 0))), (r116b, .inl (cI, (mpN v + 1), .inl (fun _ => 0)))]) cl_S 1 7 rfl (by decide) bw_80 rfl rfl rfl rfl (Nat.le_of_ble_eq_true rfl) d_S_init_119 rfl ?_
  refine bV.aload_n G d_S_init_122 rfl ?_
  refine bV.iconst (v := nI 0) G d_S_init_123 (by decide) ?_
  refine bV.topi (x := nI 0) (y := bB false) (by decide) ?_
  refine bV.putf G (ws' := [(b, sc), (a, .inr (3, [.ref o5, .ref o16, .ref o32, .ref o45, .ref o58, .ref o71, .ref o86, .ref o99, .int (bB (false))])), (o5, .inr (0, [.ref r9a, .int (nI (0))])), (r9a, .inl (cI, 400, .inl (fun _ => 0))), (o16, .inr (2, [.ref r25a, .ref r25b, .int (nI (0)), .int (nI (0))])), (r25a, .inl (cI, 600, .inl (fun _ => 0))), (r25b, .inl (cI, (24 + 1), .inl (fun _ => 0))), (o32, .inr (1, [.ref r38a])), (r38a, .inl (cZ, 24, .inl (fun _ => 0))), (o45, .inr (1, [.ref r51a])), (r51a, .inl (cZ, 24, .inl (fun _ => 0))), (o58, .inr (1, [.ref r64a])), (r64a, .inl (cZ, 24, .inl (fun _ => 0))), (o71, .inr (2, [.ref r79a, .ref r79b, .int (nI (0)), .int (nI (0))])), (r79a, .inl (cI, 104, .inl (fun _ => 0))), (r79b, .inl (cI, (12 + 1), .inl (fun _ => 0))), (o86, .inr (1, [.ref r92a])), (r92a, .inl (cZ, 12, .inl (fun _ => 0))), (o99, .inr (2, [.ref r116a, .ref r116b, .int (nI (0)), .int (nI (0))])), (r116a, .inl (cI, 664, .inl (fun _ => 0))), (r116b, .inl (cI, (mpN v + 1), .inl (fun _ => 0)))]) cl_S 1 8 rfl (by decide) bw_81 rfl (bB_n _) (bB_f _) (Nat.le_of_ble_eq_true rfl) d_S_init_124 rfl ?_
  refine bV.perm (ws' := wS (fun i => [a, o5, r9a, o16, r25a, r25b, o32, r38a, o45, r51a, o58, r64a, o71, r79a, r79b, o86, r92a, o99, r116a, r116b].getD i 0) cI cZ (mpN v) (fun _ => 0) 0 ((fun _ => 0, fun _ => 0, 0, 0) : pc_C) (fun _ => 0) (fun _ => 0) (fun _ => 0) ((fun _ => 0, fun _ => 0, 0, 0) : pc_C) (fun _ => 0) ((fun _ => 0, fun _ => 0, 0, 0) : pc_C) false [(b, sc)]) [1, 2, 3, 4, 5, 6, 7, 8, 9, 10, 11, 12, 13, 14, 15, 16, 17, 18, 19, 20, 0] (by decide) rfl ?_
  exact bV.vretO G E0 rfl (Nat.le_of_ble_eq_true rfl) (Nat.le_of_ble_eq_true rfl) d_S_init_127 ⟨_, rfl, rfl⟩
end
section
/-! ===== the reference: its world, its own walk over the log ===== -/
def wM (am : Nat → Nat) (cI cZ : ClassId) (mp th : Nat) (cr : Bool) (fd : Nat) (fo : Nat → Int32) (n : Nat) (lo : Nat → Int32) (np : Nat) (ps pb ip : Nat → Int32) (nb : Nat) (fr ln tr : Nat → Int32) (nv : Nat) (ct rw dr : Nat → Int32) (en sw : Nat) (rest : va_W) : va_W :=
  (am 0, .inr (4, [.int (nI th), .int (nI mp), .int (bB cr), .int (nI fd), .ref (am 1), .int (nI n), .ref (am 2), .int (nI np), .ref (am 3), .ref (am 4), .ref (am 5), .int (nI nb), .ref (am 6), .ref (am 7), .ref (am 8), .int (nI nv), .ref (am 9), .ref (am 10), .ref (am 11), .int (nI en), .int (nI sw)])) ::
  (am 1, .inl (cI, 24, .inl fo)) :: (am 2, .inl (cI, 400, .inl lo)) :: (am 3, .inl (cI, 8, .inl ps)) :: (am 4, .inl (cI, 5600, .inl pb)) :: (am 5, .inl (cZ, 24, .inl ip)) :: (am 6, .inl (cI, 24, .inl fr)) :: (am 7, .inl (cI, 24, .inl ln)) :: (am 8, .inl (cZ, 24, .inl tr)) :: (am 9, .inl (cI, 13, .inl ct)) :: (am 10, .inl (cI, 104, .inl rw)) :: (am 11, .inl (cZ, 13, .inl dr)) :: rest
abbrev lvS (S : aS) (v : Nat) : Nat := lenV (sDr S) (sCt S) v
def ctR (S : aS) (ct : Nat → Int32) : Prop := ∀ v, v ≤ sNv S → ct v = nI (lvS S v)
def rwR (S : aS) (rw : Nat → Int32) : Prop := ∀ v k, v ≤ sNv S → k < lvS S v → rw (8 * v + k) = nI (sRw S v k)
def dvR (S : aS) (fr ln tr ct rw dr : Nat → Int32) : Prop := (∀ b, b < sNb S → fr b = nI (sFr S b)) ∧ (∀ b, b < sNb S → ln b = nI (sLn S b)) ∧ (∀ b, b < sNb S → tr b = bB (sTh S b)) ∧ ctR S ct ∧ rwR S rw ∧ (∀ v, v ≤ sNv S → dr v = bB (sDr S v))
theorem lvS_8 {a : Nat} {S : aS} (h : okS a S) {v : Nat} (hv : v ≤ sNv S) : lvS S v ≤ 8 := Nat.le_trans (lenV_le _ _ _) (h.2.2.1 v hv)
theorem rwS_b {a : Nat} {S : aS} (h : okS a S) {v k : Nat} (hv : v ≤ sNv S) (hk : k < lvS S v) : sRw S v k < sNb S := h.2.2.2.1 v k hv (Nat.lt_of_lt_of_le hk (lenV_le _ _ _))
def szM (lg : Nat → Nat) (n p : Nat) : Nat := if lg p = 1 then (if p + 1 < n then 2 + lg (p + 1) else 2) else if lg p = 2 ∨ lg p = 4 then 2 else 1
theorem szM_full {lg : Nat → Nat} {n p : Nat} (h : p + rlen lg p ≤ n) : szM lg n p = rlen lg p := by
  unfold szM rlen
  by_cases k : lg p = 1
  · rw [if_pos k, if_pos k]
    unfold rlen at h
    rw [if_pos k] at h
    rw [if_pos (by omega)]
  · rw [if_neg k, if_neg k]
theorem szM_cut {lg : Nat → Nat} {n p : Nat} (hp : p < n) (h : n < p + rlen lg p) : n < p + szM lg n p := by
  unfold szM
  unfold rlen at h
  by_cases k : lg p = 1
  · rw [if_pos k] at h ⊢
    by_cases k2 : p + 1 < n
    · rw [if_pos k2]; exact h
    · rw [if_neg k2]; omega
  · rw [if_neg k] at h ⊢
    exact h
theorem szM_le {lg : Nat → Nat} {n p : Nat} (h : ∀ i, i < n → lg i < 256) : szM lg n p ≤ 258 := by
  unfold szM
  split
  · split
    · have := h (p + 1) (by omega); omega
    · omega
  · split <;> omega
theorem d_M_thrown_0 : decode b_M_thrown 0 = .ok (.aload_n 0, 1) := by decide +kernel
theorem d_M_thrown_1 : decode b_M_thrown 1 = .ok (.getfield 48, 3) := by decide +kernel
theorem d_M_thrown_4 : decode b_M_thrown 4 = .ok (.ireturn, 1) := by decide +kernel
set_option maxRecDepth 20000 in
set_option maxHeartbeats 4000000 in
theorem c_M_thrown {D : va_G} {cI cZ cJ : ClassId} {am : Nat → Nat} {mp : Nat} {th : Nat} {cr : Bool} {fd : Nat} {fo : Nat → Int32} {n : Nat} {lo : Nat → Int32} {np : Nat} {ps : Nat → Int32} {pb : Nat → Int32} {ip : Nat → Int32} {nb : Nat} {fr : Nat → Int32} {ln : Nat → Int32} {tr : Nat → Int32} {nv : Nat} {ct : Nat → Int32} {rw : Nat → Int32} {dr : Nat → Int32} {en : Nat} {sw : Nat} {rest : va_W}  : bC D bcl (tys3 cI cZ cJ) y_M_thrown ({ frames := 0, cells := 0, slots := 0, locals := 0 }) (wM am cI cZ mp th cr fd fo n lo np ps pb ip nb fr ln tr nv ct rw dr en sw rest) [.ref (am 0)] (bI (fun x ws9 => x = nI th ∧ ws9 = wM am cI cZ mp th cr fd fo n lo np ps pb ip nb fr ln tr nv ct rw dr en sw rest) bno) := by
  refine bC.of (by decide) m_M_thrown.1 (Nat.le_of_ble_eq_true rfl) ?_
  intro Γ G E0
  show bV D bcl Γ 1 (wM am cI cZ mp th cr fd fo n lo np ps pb ip nb fr ln tr nv ct rw dr en sw rest) 0 0 0 [(0, .ref (am 0))] []
  refine bV.aload_n G d_M_thrown_0 rfl ?_
  refine bV.getf G cl_M 0 0 rfl (by decide) bw_545 rfl d_M_thrown_1 ?_
  exact bV.iretI G E0 rfl rfl (by decide) (by decide) d_M_thrown_4 ⟨rfl, rfl⟩
theorem d_M_append_0 : decode b_M_append 0 = .ok (.aload_n 0, 1) := by decide +kernel
theorem d_M_append_1 : decode b_M_append 1 = .ok (.getfield 38, 3) := by decide +kernel
theorem d_M_append_4 : decode b_M_append 4 = .ok (.bipush 8, 2) := by decide +kernel
theorem d_M_append_6 : decode b_M_append 6 = .ok (.aload_n 0, 1) := by decide +kernel
theorem d_M_append_7 : decode b_M_append 7 = .ok (.getfield 51, 3) := by decide +kernel
theorem d_M_append_10 : decode b_M_append 10 = .ok (.imul, 1) := by decide +kernel
theorem d_M_append_11 : decode b_M_append 11 = .ok (.aload_n 0, 1) := by decide +kernel
theorem d_M_append_12 : decode b_M_append 12 = .ok (.getfield 35, 3) := by decide +kernel
theorem d_M_append_15 : decode b_M_append 15 = .ok (.aload_n 0, 1) := by decide +kernel
theorem d_M_append_16 : decode b_M_append 16 = .ok (.getfield 51, 3) := by decide +kernel
theorem d_M_append_19 : decode b_M_append 19 = .ok (.iaload, 1) := by decide +kernel
theorem d_M_append_20 : decode b_M_append 20 = .ok (.iadd, 1) := by decide +kernel
theorem d_M_append_21 : decode b_M_append 21 = .ok (.iload_n 1, 1) := by decide +kernel
theorem d_M_append_22 : decode b_M_append 22 = .ok (.iastore, 1) := by decide +kernel
theorem d_M_append_23 : decode b_M_append 23 = .ok (.aload_n 0, 1) := by decide +kernel
theorem d_M_append_24 : decode b_M_append 24 = .ok (.getfield 35, 3) := by decide +kernel
theorem d_M_append_27 : decode b_M_append 27 = .ok (.aload_n 0, 1) := by decide +kernel
theorem d_M_append_28 : decode b_M_append 28 = .ok (.getfield 51, 3) := by decide +kernel
theorem d_M_append_31 : decode b_M_append 31 = .ok (.dup2, 1) := by decide +kernel
theorem d_M_append_32 : decode b_M_append 32 = .ok (.iaload, 1) := by decide +kernel
theorem d_M_append_33 : decode b_M_append 33 = .ok (.iconst 1, 1) := by decide +kernel
theorem d_M_append_34 : decode b_M_append 34 = .ok (.iadd, 1) := by decide +kernel
theorem d_M_append_35 : decode b_M_append 35 = .ok (.iastore, 1) := by decide +kernel
theorem d_M_append_36 : decode b_M_append 36 = .ok (.return_, 1) := by decide +kernel
set_option maxRecDepth 20000 in
set_option maxHeartbeats 4000000 in
theorem c_M_append {D : va_G} {cI cZ cJ : ClassId} {am : Nat → Nat} {mp : Nat} {th : Nat} {cr : Bool} {fd : Nat} {fo : Nat → Int32} {n : Nat} {lo : Nat → Int32} {np : Nat} {ps : Nat → Int32} {pb : Nat → Int32} {ip : Nat → Int32} {nb : Nat} {fr : Nat → Int32} {ln : Nat → Int32} {tr : Nat → Int32} {nv : Nat} {ct : Nat → Int32} {rw : Nat → Int32} {dr : Nat → Int32} {en : Nat} {sw : Nat} {rest : va_W} {b c : Nat} (hnv : nv ≤ 12) (hc : ct nv = nI c) (hc8 : c < 8) : bC D bcl (tys3 cI cZ cJ) y_M_append ({ frames := 0, cells := 0, slots := 0, locals := 0 }) (wM am cI cZ mp th cr fd fo n lo np ps pb ip nb fr ln tr nv ct rw dr en sw rest) [.ref (am 0), .int (nI (b))] (bO (fun ws9 => ws9 = wM am cI cZ mp th cr fd fo n lo np ps pb ip nb fr ln tr nv (upd ct nv (nI (c + 1))) (upd rw (8 * nv + c) (nI b)) dr en sw rest) bno) := by
  refine bC.of (by decide) m_M_append.1 (Nat.le_of_ble_eq_true rfl) ?_
  intro Γ G E0
  show bV D bcl Γ 2 (wM am cI cZ mp th cr fd fo n lo np ps pb ip nb fr ln tr nv ct rw dr en sw rest) 0 0 0 [(0, .ref (am 0)), (1, .int (nI (b)))] []
  refine bV.aload_n G d_M_append_0 rfl ?_
  refine bV.getf G cl_M 0 17 rfl (by decide) bw_562 rfl d_M_append_1 ?_
  refine bV.bipush (v := nI 8) G d_M_append_4 (by decide) ?_
  refine bV.aload_n G d_M_append_6 rfl ?_
  refine bV.getf G cl_M 0 15 rfl (by decide) bw_560 rfl d_M_append_7 ?_
  refine bV.imulN G d_M_append_10 ?_
  refine bV.aload_n G d_M_append_11 rfl ?_
  refine bV.getf G cl_M 0 16 rfl (by decide) bw_561 rfl d_M_append_12 ?_
  refine bV.aload_n G d_M_append_15 rfl ?_
  refine bV.getf G cl_M 0 15 rfl (by decide) bw_560 rfl d_M_append_16 ?_
  refine bV.ialoadN G 9 0 rfl rfl (by omega) (by omega) d_M_append_19 ?_
  refine bV.topi (y := (nI (c))) hc ?_
  refine bV.iaddN G d_M_append_20 ?_
  refine bV.iload_n G d_M_append_21 rfl ?_
  refine bV.iastoreN G (ws' := (wM am cI cZ mp th cr fd fo n lo np ps pb ip nb fr ln tr nv ct (upd rw ((8 * nv) + c) ((nI (b)))) dr en sw rest)) 10 0 rfl rfl (by omega) (by omega) d_M_append_22 rfl ?_
  refine bV.aload_n G d_M_append_23 rfl ?_
  refine bV.getf G cl_M 0 16 rfl (by decide) bw_561 rfl d_M_append_24 ?_
  refine bV.aload_n G d_M_append_27 rfl ?_
  refine bV.getf G cl_M 0 15 rfl (by decide) bw_560 rfl d_M_append_28 ?_
  refine bV.dup2 G d_M_append_31 rfl rfl ?_
  refine bV.ialoadN G 9 0 rfl rfl (by omega) (by omega) d_M_append_32 ?_
  refine bV.topi (y := (nI (c))) hc ?_
  refine bV.iconst (v := nI 1) G d_M_append_33 (by decide) ?_
  refine bV.iaddN G d_M_append_34 ?_
  refine bV.iastoreN G (ws' := (wM am cI cZ mp th cr fd fo n lo np ps pb ip nb fr ln tr nv (upd ct nv ((nI (c + 1)))) (upd rw ((8 * nv) + c) ((nI (b)))) dr en sw rest)) 9 0 rfl rfl (by omega) (by omega) d_M_append_35 rfl ?_
  exact bV.vretO G E0 rfl (by decide) (by decide) d_M_append_36 rfl
theorem d_M_isHeld_0 : decode b_M_isHeld 0 = .ok (.iconst 0, 1) := by decide +kernel
theorem d_M_isHeld_1 : decode b_M_isHeld 1 = .ok (.istore_n 2, 1) := by decide +kernel
theorem d_M_isHeld_2 : decode b_M_isHeld 2 = .ok (.iconst 0, 1) := by decide +kernel
theorem d_M_isHeld_3 : decode b_M_isHeld 3 = .ok (.istore_n 3, 1) := by decide +kernel
theorem d_M_isHeld_4 : decode b_M_isHeld 4 = .ok (.iload_n 3, 1) := by decide +kernel
theorem d_M_isHeld_5 : decode b_M_isHeld 5 = .ok (.aload_n 0, 1) := by decide +kernel
theorem d_M_isHeld_6 : decode b_M_isHeld 6 = .ok (.getfield 51, 3) := by decide +kernel
theorem d_M_isHeld_9 : decode b_M_isHeld 9 = .ok (.if_icmp .gt 55, 3) := by decide +kernel
theorem d_M_isHeld_12 : decode b_M_isHeld 12 = .ok (.iconst 0, 1) := by decide +kernel
theorem d_M_isHeld_13 : decode b_M_isHeld 13 = .ok (.istore 4, 2) := by decide +kernel
theorem d_M_isHeld_15 : decode b_M_isHeld 15 = .ok (.iload 4, 2) := by decide +kernel
theorem d_M_isHeld_17 : decode b_M_isHeld 17 = .ok (.aload_n 0, 1) := by decide +kernel
theorem d_M_isHeld_18 : decode b_M_isHeld 18 = .ok (.getfield 35, 3) := by decide +kernel
theorem d_M_isHeld_21 : decode b_M_isHeld 21 = .ok (.iload_n 3, 1) := by decide +kernel
theorem d_M_isHeld_22 : decode b_M_isHeld 22 = .ok (.iaload, 1) := by decide +kernel
theorem d_M_isHeld_23 : decode b_M_isHeld 23 = .ok (.if_icmp .ge 35, 3) := by decide +kernel
theorem d_M_isHeld_26 : decode b_M_isHeld 26 = .ok (.iload_n 2, 1) := by decide +kernel
theorem d_M_isHeld_27 : decode b_M_isHeld 27 = .ok (.ifCond .ne 19, 3) := by decide +kernel
theorem d_M_isHeld_30 : decode b_M_isHeld 30 = .ok (.aload_n 0, 1) := by decide +kernel
theorem d_M_isHeld_31 : decode b_M_isHeld 31 = .ok (.getfield 38, 3) := by decide +kernel
theorem d_M_isHeld_34 : decode b_M_isHeld 34 = .ok (.bipush 8, 2) := by decide +kernel
theorem d_M_isHeld_36 : decode b_M_isHeld 36 = .ok (.iload_n 3, 1) := by decide +kernel
theorem d_M_isHeld_37 : decode b_M_isHeld 37 = .ok (.imul, 1) := by decide +kernel
theorem d_M_isHeld_38 : decode b_M_isHeld 38 = .ok (.iload 4, 2) := by decide +kernel
theorem d_M_isHeld_40 : decode b_M_isHeld 40 = .ok (.iadd, 1) := by decide +kernel
theorem d_M_isHeld_41 : decode b_M_isHeld 41 = .ok (.iaload, 1) := by decide +kernel
theorem d_M_isHeld_42 : decode b_M_isHeld 42 = .ok (.iload_n 1, 1) := by decide +kernel
theorem d_M_isHeld_43 : decode b_M_isHeld 43 = .ok (.if_icmp .ne 7, 3) := by decide +kernel
theorem d_M_isHeld_46 : decode b_M_isHeld 46 = .ok (.iconst 1, 1) := by decide +kernel
theorem d_M_isHeld_47 : decode b_M_isHeld 47 = .ok (.goto 4, 3) := by decide +kernel
theorem d_M_isHeld_50 : decode b_M_isHeld 50 = .ok (.iconst 0, 1) := by decide +kernel
theorem d_M_isHeld_51 : decode b_M_isHeld 51 = .ok (.istore_n 2, 1) := by decide +kernel
theorem d_M_isHeld_52 : decode b_M_isHeld 52 = .ok (.iinc 4 1, 3) := by decide +kernel
theorem d_M_isHeld_55 : decode b_M_isHeld 55 = .ok (.goto (-40), 3) := by decide +kernel
theorem d_M_isHeld_58 : decode b_M_isHeld 58 = .ok (.iinc 3 1, 3) := by decide +kernel
theorem d_M_isHeld_61 : decode b_M_isHeld 61 = .ok (.goto (-57), 3) := by decide +kernel
theorem d_M_isHeld_64 : decode b_M_isHeld 64 = .ok (.iload_n 2, 1) := by decide +kernel
theorem d_M_isHeld_65 : decode b_M_isHeld 65 = .ok (.ireturn, 1) := by decide +kernel
set_option maxRecDepth 20000 in
set_option maxHeartbeats 4000000 in
theorem c_M_isHeld {D : va_G} {cI cZ cJ : ClassId} {am : Nat → Nat} {mp : Nat} {th : Nat} {cr : Bool} {fd : Nat} {fo : Nat → Int32} {n : Nat} {lo : Nat → Int32} {np : Nat} {ps : Nat → Int32} {pb : Nat → Int32} {ip : Nat → Int32} {fr : Nat → Int32} {ln : Nat → Int32} {tr : Nat → Int32} {ct : Nat → Int32} {rw : Nat → Int32} {dr : Nat → Int32} {en : Nat} {sw : Nat} {rest : va_W} {S : aS} {a b : Nat} (hok : okS a S) (hb : b < 2 ^ 31) (hct : ctR S ct) (hrw : rwR S rw) : bC D bcl (tys3 cI cZ cJ) y_M_isHeld ({ frames := 0, cells := 0, slots := 0, locals := 0 }) (wM am cI cZ mp th cr fd fo n lo np ps pb ip (sNb S) fr ln tr (sNv S) ct rw dr en sw rest) [.ref (am 0), .int (nI (b))] (bI (fun x ws9 => x = bB (hlB (sDr S) (sCt S) (sRw S) (sNv S) b) ∧ ws9 = wM am cI cZ mp th cr fd fo n lo np ps pb ip (sNb S) fr ln tr (sNv S) ct rw dr en sw rest) bno) := by
  have h12 := hok.2.1
  have h24 := hok.1
  refine bC.of (by decide) m_M_isHeld.1 (Nat.le_of_ble_eq_true rfl) ?_
  intro Γ G E0
  show bV D bcl Γ 5 (wM am cI cZ mp th cr fd fo n lo np ps pb ip (sNb S) fr ln tr (sNv S) ct rw dr en sw rest) 0 0 0 [(0, .ref (am 0)), (1, .int (nI (b)))] []
  have inner : ∀ (d : Nat) (v k : Nat) (hd : Bool), (∀ hd : Bool, (hd = true ↔ ∃ v0, v0 < v + 1 ∧ ∃ k0, k0 < lvS S v0 ∧ sRw S v0 k0 = b) → bV D bcl Γ 5 (wM am cI cZ mp th cr fd fo n lo np ps pb ip (sNb S) fr ln tr (sNv S) ct rw dr en sw rest) 0 0 58 [(0, .ref (am 0)), (1, .int (nI b)), (2, .int (bB hd)), (3, .int (nI v))] []) → v ≤ sNv S → d + k = lvS S v → (hd = true ↔ (∃ v0, v0 < v ∧ ∃ k0, k0 < lvS S v0 ∧ sRw S v0 k0 = b) ∨ ∃ k0, k0 < k ∧ sRw S v k0 = b) → bV D bcl Γ 5 (wM am cI cZ mp th cr fd fo n lo np ps pb ip (sNb S) fr ln tr (sNv S) ct rw dr en sw rest) 0 0 15 [(0, .ref (am 0)), (1, .int (nI (b))), (2, .int (bB (hd))), (3, .int (nI (v))), (4, .int (nI (k)))] [] := by
    intro d
    induction d with
    | zero =>
      intro v k hd cont hv hd0 hh
      have hl8 := lvS_8 hok hv
      refine bV.iload G d_M_isHeld_15 rfl ?_
      refine bV.aload_n G d_M_isHeld_17 rfl ?_
      refine bV.getf G cl_M 0 16 rfl (by decide) bw_561 rfl d_M_isHeld_18 ?_
      refine bV.iload_n G d_M_isHeld_21 rfl ?_
      refine bV.ialoadN G 9 0 rfl rfl (by omega) (by omega) d_M_isHeld_22 ?_
      refine bV.topi (y := (nI (lvS S v))) (hct _ (by omega)) ?_
      refine bV.icmp_geN (tgt := 58) G d_M_isHeld_23 (by decide) (by omega) (by omega) (fun c23 => ?_) (fun c23 => ?_)
      · refine bV.ltake (lv' := [(0, .ref (am 0)), (1, .int (nI (b))), (2, .int (bB (hd))), (3, .int (nI (v)))]) (ex := [(4, .int (nI (k)))]) rfl ?_
        exact cont hd (hh.trans ⟨fun z => z.elim (fun ⟨v0, z1, z2⟩ => ⟨v0, by omega, z2⟩) (fun ⟨k0, z1, z2⟩ => ⟨v, by omega, k0, by omega, z2⟩), fun ⟨v0, z1, k0, z2, z3⟩ => by rcases Nat.lt_or_ge v0 v with y | y; exact Or.inl ⟨v0, y, k0, z2, z3⟩; obtain rfl : v0 = v := (by omega); exact Or.inr ⟨k0, by omega, z3⟩⟩)
      · exfalso; omega
    | succ d ih =>
      intro v k hd cont hv hd0 hh
      have hl8 := lvS_8 hok hv
      refine bV.iload G d_M_isHeld_15 rfl ?_
      refine bV.aload_n G d_M_isHeld_17 rfl ?_
      refine bV.getf G cl_M 0 16 rfl (by decide) bw_561 rfl d_M_isHeld_18 ?_
      refine bV.iload_n G d_M_isHeld_21 rfl ?_
      refine bV.ialoadN G 9 0 rfl rfl (by omega) (by omega) d_M_isHeld_22 ?_
      refine bV.topi (y := (nI (lvS S v))) (hct _ (by omega)) ?_
      refine bV.icmp_geN (tgt := 58) G d_M_isHeld_23 (by decide) (by omega) (by omega) (fun c23 => ?_) (fun c23 => ?_)
      · exfalso; omega
      · refine bV.iload_n G d_M_isHeld_26 rfl ?_
        refine bV.if_neB (tgt := 46) G d_M_isHeld_27 (by decide) (fun c27 => ?_) (fun c27 => ?_)
        · refine bV.iconst (v := bB true) G d_M_isHeld_46 (by decide) ?_
          refine bV.goto (tgt := 51) G d_M_isHeld_47 (by decide) ?_
          refine bV.istore_n G (lv' := [(0, .ref (am 0)), (1, .int (nI (b))), (2, .int (bB (true))), (3, .int (nI (v))), (4, .int (nI (k)))]) d_M_isHeld_51 (by decide) rfl rfl ?_
          refine bV.iincN G (lv' := [(0, .ref (am 0)), (1, .int (nI (b))), (2, .int (bB (true))), (3, .int (nI (v))), (4, .int (nI (k + 1)))]) d_M_isHeld_52 rfl (by decide) rfl rfl ?_
          refine bV.goto (tgt := 15) G d_M_isHeld_55 (by decide) ?_
          exact ih v (k + 1) true cont hv (by omega) ⟨fun _ => by first | exact Or.inr ⟨k, by omega, c43⟩ | exact (hh.mp c27).elim Or.inl (fun ⟨k0, z1, z2⟩ => Or.inr ⟨k0, by omega, z2⟩), fun _ => rfl⟩
        · have hrb := rwS_b hok hv (show k < lvS S v by omega)
          refine bV.aload_n G d_M_isHeld_30 rfl ?_
          refine bV.getf G cl_M 0 17 rfl (by decide) bw_562 rfl d_M_isHeld_31 ?_
          refine bV.bipush (v := nI 8) G d_M_isHeld_34 (by decide) ?_
          refine bV.iload_n G d_M_isHeld_36 rfl ?_
          refine bV.imulN G d_M_isHeld_37 ?_
          refine bV.iload G d_M_isHeld_38 rfl ?_
          refine bV.iaddN G d_M_isHeld_40 ?_
          refine bV.ialoadN G 10 0 rfl rfl (by omega) (by omega) d_M_isHeld_41 ?_
          refine bV.topi (y := (nI (sRw S v k))) (hrw v k (by omega) (by omega)) ?_
          refine bV.iload_n G d_M_isHeld_42 rfl ?_
          refine bV.icmp_neN (tgt := 50) G d_M_isHeld_43 (by decide) (by omega) (by omega) (fun c43 => ?_) (fun c43 => ?_)
          · refine bV.iconst (v := bB false) G d_M_isHeld_50 (by decide) ?_
            refine bV.istore_n G (lv' := [(0, .ref (am 0)), (1, .int (nI (b))), (2, .int (bB (false))), (3, .int (nI (v))), (4, .int (nI (k)))]) d_M_isHeld_51 (by decide) rfl rfl ?_
            refine bV.iincN G (lv' := [(0, .ref (am 0)), (1, .int (nI (b))), (2, .int (bB (false))), (3, .int (nI (v))), (4, .int (nI (k + 1)))]) d_M_isHeld_52 rfl (by decide) rfl rfl ?_
            refine bV.goto (tgt := 15) G d_M_isHeld_55 (by decide) ?_
            exact ih v (k + 1) false cont hv (by omega) ⟨fun z => (by cases z), fun z => z.elim (fun y => absurd (hh.mpr (Or.inl y)) (by rw [c27]; decide)) (fun ⟨k0, z1, z2⟩ => by rcases Nat.lt_or_ge k0 k with y | y; exact absurd (hh.mpr (Or.inr ⟨k0, y, z2⟩)) (by rw [c27]; decide); obtain rfl : k0 = k := (by omega); exact absurd z2 c43)⟩
          · refine bV.iconst (v := bB true) G d_M_isHeld_46 (by decide) ?_
            refine bV.goto (tgt := 51) G d_M_isHeld_47 (by decide) ?_
            refine bV.istore_n G (lv' := [(0, .ref (am 0)), (1, .int (nI (b))), (2, .int (bB (true))), (3, .int (nI (v))), (4, .int (nI (k)))]) d_M_isHeld_51 (by decide) rfl rfl ?_
            refine bV.iincN G (lv' := [(0, .ref (am 0)), (1, .int (nI (b))), (2, .int (bB (true))), (3, .int (nI (v))), (4, .int (nI (k + 1)))]) d_M_isHeld_52 rfl (by decide) rfl rfl ?_
            refine bV.goto (tgt := 15) G d_M_isHeld_55 (by decide) ?_
            exact ih v (k + 1) true cont hv (by omega) ⟨fun _ => by first | exact Or.inr ⟨k, by omega, c43⟩ | exact (hh.mp c27).elim Or.inl (fun ⟨k0, z1, z2⟩ => Or.inr ⟨k0, by omega, z2⟩), fun _ => rfl⟩
  have loop : ∀ (d : Nat) (v : Nat) (hd : Bool), d + v = sNv S + 1 → (hd = true ↔ ∃ v0, v0 < v ∧ ∃ k0, k0 < lvS S v0 ∧ sRw S v0 k0 = b) → bV D bcl Γ 5 (wM am cI cZ mp th cr fd fo n lo np ps pb ip (sNb S) fr ln tr (sNv S) ct rw dr en sw rest) 0 0 4 [(0, .ref (am 0)), (1, .int (nI (b))), (2, .int (bB (hd))), (3, .int (nI (v)))] [] := by
    intro d
    induction d with
    | zero =>
      intro v hd hd0 hh
      refine bV.iload_n G d_M_isHeld_4 rfl ?_
      refine bV.aload_n G d_M_isHeld_5 rfl ?_
      refine bV.getf G cl_M 0 15 rfl (by decide) bw_560 rfl d_M_isHeld_6 ?_
      refine bV.icmp_gtN (tgt := 64) G d_M_isHeld_9 (by decide) (by omega) (by omega) (fun c9 => ?_) (fun c9 => ?_)
      · refine bV.iload_n G d_M_isHeld_64 rfl ?_
        exact bV.iretI G E0 rfl (bB_n _) (by decide) (by decide) d_M_isHeld_65 ⟨congrArg bB (show hd = dcd _ by cases e : hd; exact (dcd_f (fun ⟨v0, z1, z2⟩ => by have z3 := hh.mpr ⟨v0, by omega, z2⟩; rw [e] at z3; cases z3)).symm; exact (dcd_t (by obtain ⟨v0, z1, z2⟩ := hh.mp e; exact ⟨v0, by omega, z2⟩)).symm), rfl⟩
      · exfalso; omega
    | succ d ih =>
      intro v hd hd0 hh
      refine bV.iload_n G d_M_isHeld_4 rfl ?_
      refine bV.aload_n G d_M_isHeld_5 rfl ?_
      refine bV.getf G cl_M 0 15 rfl (by decide) bw_560 rfl d_M_isHeld_6 ?_
      refine bV.icmp_gtN (tgt := 64) G d_M_isHeld_9 (by decide) (by omega) (by omega) (fun c9 => ?_) (fun c9 => ?_)
      · exfalso; omega
      · refine bV.iconst (v := nI 0) G d_M_isHeld_12 (by decide) ?_
        refine bV.istore G (lv' := [(0, .ref (am 0)), (1, .int (nI (b))), (2, .int (bB (hd))), (3, .int (nI (v))), (4, .int (nI (0)))]) d_M_isHeld_13 (by decide) rfl rfl ?_
        refine inner (lvS S v) v 0 hd (fun hd hh => ?_) (by omega) (by omega) (hh.trans ⟨Or.inl, fun z => z.elim id (fun ⟨k0, z1, _⟩ => absurd z1 (Nat.not_lt_zero _))⟩)
        refine bV.iincN G (lv' := [(0, .ref (am 0)), (1, .int (nI (b))), (2, .int (bB (hd))), (3, .int (nI (v + 1)))]) d_M_isHeld_58 rfl (by decide) rfl rfl ?_
        refine bV.goto (tgt := 4) G d_M_isHeld_61 (by decide) ?_
        exact ih (v + 1) hd (by omega) hh
  refine bV.iconst (v := bB false) G d_M_isHeld_0 (by decide) ?_
  refine bV.istore_n G (lv' := [(0, .ref (am 0)), (1, .int (nI (b))), (2, .int (bB (false)))]) d_M_isHeld_1 (by decide) rfl rfl ?_
  refine bV.iconst (v := nI 0) G d_M_isHeld_2 (by decide) ?_
  refine bV.istore_n G (lv' := [(0, .ref (am 0)), (1, .int (nI (b))), (2, .int (bB (false))), (3, .int (nI (0)))]) d_M_isHeld_3 (by decide) rfl rfl ?_
  exact loop (sNv S + 1) 0 false (by omega) ⟨fun z => (by cases z), fun ⟨v0, z1, _⟩ => absurd z1 (Nat.not_lt_zero _)⟩
theorem d_M_sweepAll_0 : decode b_M_sweepAll 0 = .ok (.aload_n 0, 1) := by decide +kernel
theorem d_M_sweepAll_1 : decode b_M_sweepAll 1 = .ok (.iconst 0, 1) := by decide +kernel
theorem d_M_sweepAll_2 : decode b_M_sweepAll 2 = .ok (.putfield 54, 3) := by decide +kernel
theorem d_M_sweepAll_5 : decode b_M_sweepAll 5 = .ok (.iconst 0, 1) := by decide +kernel
theorem d_M_sweepAll_6 : decode b_M_sweepAll 6 = .ok (.istore_n 1, 1) := by decide +kernel
theorem d_M_sweepAll_7 : decode b_M_sweepAll 7 = .ok (.iload_n 1, 1) := by decide +kernel
theorem d_M_sweepAll_8 : decode b_M_sweepAll 8 = .ok (.aload_n 0, 1) := by decide +kernel
theorem d_M_sweepAll_9 : decode b_M_sweepAll 9 = .ok (.getfield 57, 3) := by decide +kernel
theorem d_M_sweepAll_12 : decode b_M_sweepAll 12 = .ok (.if_icmp .ge 46, 3) := by decide +kernel
theorem d_M_sweepAll_15 : decode b_M_sweepAll 15 = .ok (.aload_n 0, 1) := by decide +kernel
theorem d_M_sweepAll_16 : decode b_M_sweepAll 16 = .ok (.getfield 32, 3) := by decide +kernel
theorem d_M_sweepAll_19 : decode b_M_sweepAll 19 = .ok (.iload_n 1, 1) := by decide +kernel
theorem d_M_sweepAll_20 : decode b_M_sweepAll 20 = .ok (.baload, 1) := by decide +kernel
theorem d_M_sweepAll_21 : decode b_M_sweepAll 21 = .ok (.ifCond .eq 31, 3) := by decide +kernel
theorem d_M_sweepAll_24 : decode b_M_sweepAll 24 = .ok (.aload_n 0, 1) := by decide +kernel
theorem d_M_sweepAll_25 : decode b_M_sweepAll 25 = .ok (.iload_n 1, 1) := by decide +kernel
theorem d_M_sweepAll_26 : decode b_M_sweepAll 26 = .ok (.invokevirtual 60, 3) := by decide +kernel
theorem d_M_sweepAll_29 : decode b_M_sweepAll 29 = .ok (.ifCond .eq 6, 3) := by decide +kernel
theorem d_M_sweepAll_32 : decode b_M_sweepAll 32 = .ok (.goto 20, 3) := by decide +kernel
theorem d_M_sweepAll_35 : decode b_M_sweepAll 35 = .ok (.aload_n 0, 1) := by decide +kernel
theorem d_M_sweepAll_36 : decode b_M_sweepAll 36 = .ok (.getfield 32, 3) := by decide +kernel
theorem d_M_sweepAll_39 : decode b_M_sweepAll 39 = .ok (.iload_n 1, 1) := by decide +kernel
theorem d_M_sweepAll_40 : decode b_M_sweepAll 40 = .ok (.iconst 0, 1) := by decide +kernel
theorem d_M_sweepAll_41 : decode b_M_sweepAll 41 = .ok (.bastore, 1) := by decide +kernel
theorem d_M_sweepAll_42 : decode b_M_sweepAll 42 = .ok (.aload_n 0, 1) := by decide +kernel
theorem d_M_sweepAll_43 : decode b_M_sweepAll 43 = .ok (.dup, 1) := by decide +kernel
theorem d_M_sweepAll_44 : decode b_M_sweepAll 44 = .ok (.getfield 54, 3) := by decide +kernel
theorem d_M_sweepAll_47 : decode b_M_sweepAll 47 = .ok (.iconst 1, 1) := by decide +kernel
theorem d_M_sweepAll_48 : decode b_M_sweepAll 48 = .ok (.iadd, 1) := by decide +kernel
theorem d_M_sweepAll_49 : decode b_M_sweepAll 49 = .ok (.putfield 54, 3) := by decide +kernel
theorem d_M_sweepAll_52 : decode b_M_sweepAll 52 = .ok (.iinc 1 1, 3) := by decide +kernel
theorem d_M_sweepAll_55 : decode b_M_sweepAll 55 = .ok (.goto (-48), 3) := by decide +kernel
theorem d_M_sweepAll_58 : decode b_M_sweepAll 58 = .ok (.return_, 1) := by decide +kernel
set_option maxRecDepth 20000 in
set_option maxHeartbeats 4000000 in
theorem c_M_sweepAll {D : va_G} {cI cZ cJ : ClassId} {am : Nat → Nat} {mp : Nat} {th : Nat} {cr : Bool} {fd : Nat} {fo : Nat → Int32} {n : Nat} {lo : Nat → Int32} {np : Nat} {ps : Nat → Int32} {pb : Nat → Int32} {ip : Nat → Int32} {fr : Nat → Int32} {ln : Nat → Int32} {tr : Nat → Int32} {ct : Nat → Int32} {rw : Nat → Int32} {dr : Nat → Int32} {en : Nat} {sw : Nat} {rest : va_W} {S : aS} {a : Nat} (hok : okS a S) (htr : ∀ b, b < sNb S → tr b = bB (sTh S b)) (hct : ctR S ct) (hrw : rwR S rw) : bC D bcl (tys3 cI cZ cJ) y_M_sweepAll ({ frames := 1, cells := 0, slots := 0, locals := 24 }) (wM am cI cZ mp th cr fd fo n lo np ps pb ip (sNb S) fr ln tr (sNv S) ct rw dr en sw rest) [.ref (am 0)] (bO (fun ws9 => ∃ tr1 : Nat → Int32, (∀ b, b < sNb S → tr1 b = bB (swS (sTh S) (hlB (sDr S) (sCt S) (sRw S) (sNv S)) (sNb S) b)) ∧ ws9 = wM am cI cZ mp th cr fd fo n lo np ps pb ip (sNb S) fr ln tr1 (sNv S) ct rw dr en (cntU (fun b => sTh S b && !hlB (sDr S) (sCt S) (sRw S) (sNv S) b) (sNb S)) rest) bno) := by
  have h24 := hok.1
  refine bC.of (by decide) m_M_sweepAll.1 (Nat.le_of_ble_eq_true rfl) ?_
  intro Γ G E0
  show bV D bcl Γ 2 (wM am cI cZ mp th cr fd fo n lo np ps pb ip (sNb S) fr ln tr (sNv S) ct rw dr en sw rest) 0 0 0 [(0, .ref (am 0))] []
  have loop : ∀ (d : Nat) (j : Nat) (tz : Nat → Int32), d + j = sNb S → (∀ b, b < sNb S → tz b = bB (swS (sTh S) (hlB (sDr S) (sCt S) (sRw S) (sNv S)) j b)) → bV D bcl Γ 2 (wM am cI cZ mp th cr fd fo n lo np ps pb ip (sNb S) fr ln tz (sNv S) ct rw dr en (cntU (fun b => sTh S b && !hlB (sDr S) (sCt S) (sRw S) (sNv S) b) j) rest) 0 0 7 [(0, .ref (am 0)), (1, .int (nI (j)))] [] := by
    intro d
    induction d with
    | zero =>
      intro j tz hd htz
      refine bV.iload_n G d_M_sweepAll_7 rfl ?_
      refine bV.aload_n G d_M_sweepAll_8 rfl ?_
      refine bV.getf G cl_M 0 11 rfl (by decide) bw_556 rfl d_M_sweepAll_9 ?_
      refine bV.icmp_geN (tgt := 58) G d_M_sweepAll_12 (by decide) (by omega) (by omega) (fun c12 => ?_) (fun c12 => ?_)
      · exact bV.vretO G E0 rfl (by decide) (by decide) d_M_sweepAll_58 ⟨tz, fun b hb => by obtain e : sNb S = j := (by omega); rw [e]; exact htz b hb, by obtain e : sNb S = j := (by omega); rw [← e]⟩
      · exfalso; omega
    | succ d ih =>
      intro j tz hd htz
      refine bV.iload_n G d_M_sweepAll_7 rfl ?_
      refine bV.aload_n G d_M_sweepAll_8 rfl ?_
      refine bV.getf G cl_M 0 11 rfl (by decide) bw_556 rfl d_M_sweepAll_9 ?_
      refine bV.icmp_geN (tgt := 58) G d_M_sweepAll_12 (by decide) (by omega) (by omega) (fun c12 => ?_) (fun c12 => ?_)
      · exfalso; omega
      · refine bV.aload_n G d_M_sweepAll_15 rfl ?_
        refine bV.getf G cl_M 0 14 rfl (by decide) bw_559 rfl d_M_sweepAll_16 ?_
        refine bV.iload_n G d_M_sweepAll_19 rfl ?_
        refine bV.zaloadN G 8 1 rfl rfl (by omega) (by omega) d_M_sweepAll_20 ?_
        refine bV.topi (y := (bB (swS (sTh S) (hlB (sDr S) (sCt S) (sRw S) (sNv S)) j j))) (htz _ (by omega)) ?_
        refine bV.if_eqB (tgt := 52) G d_M_sweepAll_21 (by decide) (fun c21 => ?_) (fun c21 => ?_)
        · refine bV.iincN G (lv' := [(0, .ref (am 0)), (1, .int (nI (j + 1)))]) d_M_sweepAll_52 rfl (by decide) rfl rfl ?_
          refine bV.goto (tgt := 7) G d_M_sweepAll_55 (by decide) ?_
          have hj0 : sTh S j = false ∨ hlB (sDr S) (sCt S) (sRw S) (sNv S) j = true := by first | exact Or.inr c29 | exact Or.inl (by rw [← swS_j (mt := sTh S) (hl := hlB (sDr S) (sCt S) (sRw S) (sNv S))]; exact c21)
          have e := ih (j + 1) tz (by omega) (fun b hb => by rw [← swS_on hj0]; exact htz b hb)
          rw [cntU_f (f := (fun b => sTh S b && !hlB (sDr S) (sCt S) (sRw S) (sNv S) b)) (show (sTh S j && !hlB (sDr S) (sCt S) (sRw S) (sNv S) j) = false by rcases hj0 with z | z <;> rw [z]; rfl; exact Bool.and_false _)] at e
          exact e
        · refine bV.aload_n G d_M_sweepAll_24 rfl ?_
          refine bV.iload_n G d_M_sweepAll_25 rfl ?_
          refine bV.callVi G m_M_isHeld bw_643 bw_s32 bw_641 (c_M_isHeld (b := j) hok (by omega) hct hrw) 0 rfl rfl rfl rfl rfl ⟨by decide, by decide⟩ ⟨by decide, by decide⟩ (Nat.le_of_ble_eq_true rfl) d_M_sweepAll_26 (fun x9 ws9 h9 => ?_)
          obtain ⟨rfl, h9e⟩ := h9
          rw [h9e]
          try dsimp only
          refine bV.if_eqB (tgt := 35) G d_M_sweepAll_29 (by decide) (fun c29 => ?_) (fun c29 => ?_)
          · refine bV.aload_n G d_M_sweepAll_35 rfl ?_
            refine bV.getf G cl_M 0 14 rfl (by decide) bw_559 rfl d_M_sweepAll_36 ?_
            refine bV.iload_n G d_M_sweepAll_39 rfl ?_
            refine bV.iconst (v := nI 0) G d_M_sweepAll_40 (by decide) ?_
            refine bV.topi (x := nI 0) (y := bB false) (by decide) ?_
            refine bV.zastoreN G (ws' := (wM am cI cZ mp th cr fd fo n lo np ps pb ip (sNb S) fr ln (upd tz j ((bB (false)))) (sNv S) ct rw dr en (cntU (fun b => sTh S b && !hlB (sDr S) (sCt S) (sRw S) (sNv S) b) j) rest)) 8 1 rfl rfl (by omega) (by omega) d_M_sweepAll_41 rfl ?_
            refine bV.aload_n G d_M_sweepAll_42 rfl ?_
            refine bV.dup G d_M_sweepAll_43 rfl ?_
            refine bV.getf G cl_M 0 20 rfl (by decide) bw_565 rfl d_M_sweepAll_44 ?_
            refine bV.iconst (v := nI 1) G d_M_sweepAll_47 (by decide) ?_
            refine bV.iaddN G d_M_sweepAll_48 ?_
            refine bV.putf G (ws' := (wM am cI cZ mp th cr fd fo n lo np ps pb ip (sNb S) fr ln (upd tz j ((bB (false)))) (sNv S) ct rw dr en ((cntU (fun b => sTh S b && !hlB (sDr S) (sCt S) (sRw S) (sNv S) b) j) + 1) rest)) cl_M 0 20 rfl (by decide) bw_565 rfl rfl rfl (Nat.le_of_ble_eq_true rfl) d_M_sweepAll_49 rfl ?_
            refine bV.iincN G (lv' := [(0, .ref (am 0)), (1, .int (nI (j + 1)))]) d_M_sweepAll_52 rfl (by decide) rfl rfl ?_
            refine bV.goto (tgt := 7) G d_M_sweepAll_55 (by decide) ?_
            have hj0 : sTh S j = true := by rw [← swS_j (mt := sTh S) (hl := hlB (sDr S) (sCt S) (sRw S) (sNv S))]; exact c21
            have e := ih (j + 1) (upd tz j (bB false)) (by omega) (fun b hb => by by_cases z : b = j; subst z; rw [pk_us, ← swS_off c29]; show bB false = bB (if b = b then false else _); rw [if_pos rfl]; rw [pk_un z, htz b hb, ← swS_off c29]; show _ = bB (if b = j then false else _); rw [if_neg z])
            rw [cntU_t (f := (fun b => sTh S b && !hlB (sDr S) (sCt S) (sRw S) (sNv S) b)) (show (sTh S j && !hlB (sDr S) (sCt S) (sRw S) (sNv S) j) = true by rw [hj0, c29]; rfl)] at e
            exact e
          · refine bV.goto (tgt := 52) G d_M_sweepAll_32 (by decide) ?_
            refine bV.iincN G (lv' := [(0, .ref (am 0)), (1, .int (nI (j + 1)))]) d_M_sweepAll_52 rfl (by decide) rfl rfl ?_
            refine bV.goto (tgt := 7) G d_M_sweepAll_55 (by decide) ?_
            have hj0 : sTh S j = false ∨ hlB (sDr S) (sCt S) (sRw S) (sNv S) j = true := by first | exact Or.inr c29 | exact Or.inl (by rw [← swS_j (mt := sTh S) (hl := hlB (sDr S) (sCt S) (sRw S) (sNv S))]; exact c21)
            have e := ih (j + 1) tz (by omega) (fun b hb => by rw [← swS_on hj0]; exact htz b hb)
            rw [cntU_f (f := (fun b => sTh S b && !hlB (sDr S) (sCt S) (sRw S) (sNv S) b)) (show (sTh S j && !hlB (sDr S) (sCt S) (sRw S) (sNv S) j) = false by rcases hj0 with z | z <;> rw [z]; rfl; exact Bool.and_false _)] at e
            exact e
  refine bV.aload_n G d_M_sweepAll_0 rfl ?_
  refine bV.iconst (v := nI 0) G d_M_sweepAll_1 (by decide) ?_
  refine bV.putf G (ws' := (wM am cI cZ mp th cr fd fo n lo np ps pb ip (sNb S) fr ln tr (sNv S) ct rw dr en 0 rest)) cl_M 0 20 rfl (by decide) bw_565 rfl rfl rfl (Nat.le_of_ble_eq_true rfl) d_M_sweepAll_2 rfl ?_
  refine bV.iconst (v := nI 0) G d_M_sweepAll_5 (by decide) ?_
  refine bV.istore_n G (lv' := [(0, .ref (am 0)), (1, .int (nI (0)))]) d_M_sweepAll_6 (by decide) rfl rfl ?_
  exact loop (sNb S) 0 tr (by omega) (fun b hb => by rw [swS_0]; exact htr b hb)
theorem d_M_sizeOf_0 : decode b_M_sizeOf 0 = .ok (.aload_n 0, 1) := by decide +kernel
theorem d_M_sizeOf_1 : decode b_M_sizeOf 1 = .ok (.getfield 13, 3) := by decide +kernel
theorem d_M_sizeOf_4 : decode b_M_sizeOf 4 = .ok (.iload_n 1, 1) := by decide +kernel
theorem d_M_sizeOf_5 : decode b_M_sizeOf 5 = .ok (.iaload, 1) := by decide +kernel
theorem d_M_sizeOf_6 : decode b_M_sizeOf 6 = .ok (.istore_n 2, 1) := by decide +kernel
theorem d_M_sizeOf_7 : decode b_M_sizeOf 7 = .ok (.iload_n 2, 1) := by decide +kernel
theorem d_M_sizeOf_8 : decode b_M_sizeOf 8 = .ok (.iconst 1, 1) := by decide +kernel
theorem d_M_sizeOf_9 : decode b_M_sizeOf 9 = .ok (.if_icmp .ne 30, 3) := by decide +kernel
theorem d_M_sizeOf_12 : decode b_M_sizeOf 12 = .ok (.iload_n 1, 1) := by decide +kernel
theorem d_M_sizeOf_13 : decode b_M_sizeOf 13 = .ok (.iconst 1, 1) := by decide +kernel
theorem d_M_sizeOf_14 : decode b_M_sizeOf 14 = .ok (.iadd, 1) := by decide +kernel
theorem d_M_sizeOf_15 : decode b_M_sizeOf 15 = .ok (.aload_n 0, 1) := by decide +kernel
theorem d_M_sizeOf_16 : decode b_M_sizeOf 16 = .ok (.getfield 64, 3) := by decide +kernel
theorem d_M_sizeOf_19 : decode b_M_sizeOf 19 = .ok (.if_icmp .ge 16, 3) := by decide +kernel
theorem d_M_sizeOf_22 : decode b_M_sizeOf 22 = .ok (.iconst 2, 1) := by decide +kernel
theorem d_M_sizeOf_23 : decode b_M_sizeOf 23 = .ok (.aload_n 0, 1) := by decide +kernel
theorem d_M_sizeOf_24 : decode b_M_sizeOf 24 = .ok (.getfield 13, 3) := by decide +kernel
theorem d_M_sizeOf_27 : decode b_M_sizeOf 27 = .ok (.iload_n 1, 1) := by decide +kernel
theorem d_M_sizeOf_28 : decode b_M_sizeOf 28 = .ok (.iconst 1, 1) := by decide +kernel
theorem d_M_sizeOf_29 : decode b_M_sizeOf 29 = .ok (.iadd, 1) := by decide +kernel
theorem d_M_sizeOf_30 : decode b_M_sizeOf 30 = .ok (.iaload, 1) := by decide +kernel
theorem d_M_sizeOf_31 : decode b_M_sizeOf 31 = .ok (.iadd, 1) := by decide +kernel
theorem d_M_sizeOf_32 : decode b_M_sizeOf 32 = .ok (.goto 22, 3) := by decide +kernel
theorem d_M_sizeOf_35 : decode b_M_sizeOf 35 = .ok (.iconst 2, 1) := by decide +kernel
theorem d_M_sizeOf_36 : decode b_M_sizeOf 36 = .ok (.goto 18, 3) := by decide +kernel
theorem d_M_sizeOf_39 : decode b_M_sizeOf 39 = .ok (.iload_n 2, 1) := by decide +kernel
theorem d_M_sizeOf_40 : decode b_M_sizeOf 40 = .ok (.iconst 2, 1) := by decide +kernel
theorem d_M_sizeOf_41 : decode b_M_sizeOf 41 = .ok (.if_icmp .eq 8, 3) := by decide +kernel
theorem d_M_sizeOf_44 : decode b_M_sizeOf 44 = .ok (.iload_n 2, 1) := by decide +kernel
theorem d_M_sizeOf_45 : decode b_M_sizeOf 45 = .ok (.iconst 4, 1) := by decide +kernel
theorem d_M_sizeOf_46 : decode b_M_sizeOf 46 = .ok (.if_icmp .ne 7, 3) := by decide +kernel
theorem d_M_sizeOf_49 : decode b_M_sizeOf 49 = .ok (.iconst 2, 1) := by decide +kernel
theorem d_M_sizeOf_50 : decode b_M_sizeOf 50 = .ok (.goto 4, 3) := by decide +kernel
theorem d_M_sizeOf_53 : decode b_M_sizeOf 53 = .ok (.iconst 1, 1) := by decide +kernel
theorem d_M_sizeOf_54 : decode b_M_sizeOf 54 = .ok (.ireturn, 1) := by decide +kernel
set_option maxRecDepth 20000 in
set_option maxHeartbeats 4000000 in
theorem c_M_sizeOf {D : va_G} {cI cZ cJ : ClassId} {am : Nat → Nat} {mp : Nat} {th : Nat} {cr : Bool} {fd : Nat} {fo : Nat → Int32} {n : Nat} {lo : Nat → Int32} {np : Nat} {ps : Nat → Int32} {pb : Nat → Int32} {ip : Nat → Int32} {nb : Nat} {fr : Nat → Int32} {ln : Nat → Int32} {tr : Nat → Int32} {nv : Nat} {ct : Nat → Int32} {rw : Nat → Int32} {dr : Nat → Int32} {en : Nat} {sw : Nat} {rest : va_W} {lg : Nat → Nat} {p : Nat} (hRl : lg_R lo n lg) (hp : p < n) : bC D bcl (tys3 cI cZ cJ) y_M_sizeOf ({ frames := 0, cells := 0, slots := 0, locals := 0 }) (wM am cI cZ mp th cr fd fo n lo np ps pb ip nb fr ln tr nv ct rw dr en sw rest) [.ref (am 0), .int (nI (p))] (bI (fun x ws9 => x = nI (szM lg n p) ∧ ws9 = wM am cI cZ mp th cr fd fo n lo np ps pb ip nb fr ln tr nv ct rw dr en sw rest) bno) := by
  have h4 := hRl.1
  refine bC.of (by decide) m_M_sizeOf.1 (Nat.le_of_ble_eq_true rfl) ?_
  intro Γ G E0
  show bV D bcl Γ 3 (wM am cI cZ mp th cr fd fo n lo np ps pb ip nb fr ln tr nv ct rw dr en sw rest) 0 0 0 [(0, .ref (am 0)), (1, .int (nI (p)))] []
  refine bV.aload_n G d_M_sizeOf_0 rfl ?_
  refine bV.getf G cl_M 0 6 rfl (by decide) bw_551 rfl d_M_sizeOf_1 ?_
  refine bV.iload_n G d_M_sizeOf_4 rfl ?_
  refine bV.ialoadN G 2 0 rfl rfl (by omega) (by omega) d_M_sizeOf_5 ?_
  refine bV.topi (y := (nI (lg p))) (hRl.2.1 _ (by omega)) ?_
  refine bV.istore_n G (lv' := [(0, .ref (am 0)), (1, .int (nI (p))), (2, .int (nI (lg p)))]) d_M_sizeOf_6 (by decide) rfl rfl ?_
  have hv0 : lg p < 256 := hRl.2.2 _ hp
  refine bV.iload_n G d_M_sizeOf_7 rfl ?_
  refine bV.iconst (v := nI 1) G d_M_sizeOf_8 (by decide) ?_
  refine bV.icmp_neN (tgt := 39) G d_M_sizeOf_9 (by decide) (by omega) (by omega) (fun c9 => ?_) (fun c9 => ?_)
  · refine bV.iload_n G d_M_sizeOf_39 rfl ?_
    refine bV.iconst (v := nI 2) G d_M_sizeOf_40 (by decide) ?_
    refine bV.icmp_eqN (tgt := 49) G d_M_sizeOf_41 (by decide) (by omega) (by omega) (fun c41 => ?_) (fun c41 => ?_)
    · refine bV.iconst (v := nI 2) G d_M_sizeOf_49 (by decide) ?_
      refine bV.goto (tgt := 54) G d_M_sizeOf_50 (by decide) ?_
      exact bV.iretI G E0 rfl rfl (by decide) (by decide) d_M_sizeOf_54 ⟨by unfold szM; first | rw [if_pos (by omega), if_pos (by omega)] | rw [if_pos (by omega), if_neg (by omega)] | rw [if_neg (by omega), if_pos (by omega)] | rw [if_neg (by omega), if_neg (by omega)], rfl⟩
    · refine bV.iload_n G d_M_sizeOf_44 rfl ?_
      refine bV.iconst (v := nI 4) G d_M_sizeOf_45 (by decide) ?_
      refine bV.icmp_neN (tgt := 53) G d_M_sizeOf_46 (by decide) (by omega) (by omega) (fun c46 => ?_) (fun c46 => ?_)
      · refine bV.iconst (v := nI 1) G d_M_sizeOf_53 (by decide) ?_
        exact bV.iretI G E0 rfl rfl (by decide) (by decide) d_M_sizeOf_54 ⟨by unfold szM; first | rw [if_pos (by omega), if_pos (by omega)] | rw [if_pos (by omega), if_neg (by omega)] | rw [if_neg (by omega), if_pos (by omega)] | rw [if_neg (by omega), if_neg (by omega)], rfl⟩
      · refine bV.iconst (v := nI 2) G d_M_sizeOf_49 (by decide) ?_
        refine bV.goto (tgt := 54) G d_M_sizeOf_50 (by decide) ?_
        exact bV.iretI G E0 rfl rfl (by decide) (by decide) d_M_sizeOf_54 ⟨by unfold szM; first | rw [if_pos (by omega), if_pos (by omega)] | rw [if_pos (by omega), if_neg (by omega)] | rw [if_neg (by omega), if_pos (by omega)] | rw [if_neg (by omega), if_neg (by omega)], rfl⟩
  · refine bV.iload_n G d_M_sizeOf_12 rfl ?_
    refine bV.iconst (v := nI 1) G d_M_sizeOf_13 (by decide) ?_
    refine bV.iaddN G d_M_sizeOf_14 ?_
    refine bV.aload_n G d_M_sizeOf_15 rfl ?_
    refine bV.getf G cl_M 0 5 rfl (by decide) bw_550 rfl d_M_sizeOf_16 ?_
    refine bV.icmp_geN (tgt := 35) G d_M_sizeOf_19 (by decide) (by omega) (by omega) (fun c19 => ?_) (fun c19 => ?_)
    · refine bV.iconst (v := nI 2) G d_M_sizeOf_35 (by decide) ?_
      refine bV.goto (tgt := 54) G d_M_sizeOf_36 (by decide) ?_
      exact bV.iretI G E0 rfl rfl (by decide) (by decide) d_M_sizeOf_54 ⟨by unfold szM; first | rw [if_pos (by omega), if_pos (by omega)] | rw [if_pos (by omega), if_neg (by omega)] | rw [if_neg (by omega), if_pos (by omega)] | rw [if_neg (by omega), if_neg (by omega)], rfl⟩
    · refine bV.iconst (v := nI 2) G d_M_sizeOf_22 (by decide) ?_
      refine bV.aload_n G d_M_sizeOf_23 rfl ?_
      refine bV.getf G cl_M 0 6 rfl (by decide) bw_551 rfl d_M_sizeOf_24 ?_
      refine bV.iload_n G d_M_sizeOf_27 rfl ?_
      refine bV.iconst (v := nI 1) G d_M_sizeOf_28 (by decide) ?_
      refine bV.iaddN G d_M_sizeOf_29 ?_
      refine bV.ialoadN G 2 0 rfl rfl (by omega) (by omega) d_M_sizeOf_30 ?_
      refine bV.topi (y := (nI (lg (p + 1)))) (hRl.2.1 _ (by omega)) ?_
      have hv1 : lg (p + 1) < 256 := hRl.2.2 _ (by omega)
      refine bV.iaddN G d_M_sizeOf_31 ?_
      refine bV.goto (tgt := 54) G d_M_sizeOf_32 (by decide) ?_
      exact bV.iretI G E0 rfl rfl (by decide) (by decide) d_M_sizeOf_54 ⟨by unfold szM; first | rw [if_pos (by omega), if_pos (by omega)] | rw [if_pos (by omega), if_neg (by omega)] | rw [if_neg (by omega), if_pos (by omega)] | rw [if_neg (by omega), if_neg (by omega)], rfl⟩
end
section
/-! ===== the reference: act, walk, isReady ===== -/
theorem lenV_f {md : Nat → Bool} {vl : Nat → Nat} {v : Nat} (h : md v = false) : lenV md vl v = vl v := by
  unfold lenV; rw [h, Bool.and_false]; rfl
theorem lenV_t {md : Nat → Bool} {vl : Nat → Nat} {v : Nat} (hv : v < 12) (h : md v = true) : lenV md vl v = 0 := by
  unfold lenV; rw [h, decide_eq_true hv]; rfl
theorem lenV_c {md md' : Nat → Bool} {vl vl' : Nat → Nat} {v : Nat} (h : md v = md' v) (h2 : vl v = vl' v) : lenV md vl v = lenV md' vl' v := by
  unfold lenV; rw [h, h2]
theorem dr_nv {a : Nat} {S : aS} (h : okS a S) {v : Nat} (hv : sNv S ≤ v) : sDr S v = false := by
  cases e : sDr S v
  · rfl
  · exact absurd (h.2.2.2.2.2 v e) (by omega)
theorem app_R {a b : Nat} {S S' : aS} {ct rw : Nat → Int32} (hok : okS a S) (hct : ctR S ct) (hrw : rwR S rw) (h8 : sCt S (sNv S) < 8) (e1 : sNv S' = sNv S) (e2 : sDr S' = sDr S) (e3 : sCt S' = fup (sCt S) (sNv S) (sCt S (sNv S) + 1)) (e4 : sRw S' = fup2 (sRw S) (sNv S) (sCt S (sNv S)) b) : ctR S' (upd ct (sNv S) (nI (sCt S (sNv S) + 1))) ∧ rwR S' (upd rw (8 * sNv S + sCt S (sNv S)) (nI b)) := by
  have hd := dr_nv hok (Nat.le_refl (sNv S))
  have eo : ∀ v, v ≠ sNv S → lvS S' v = lvS S v := fun v hv => lenV_c (by rw [e2]) (by rw [e3, fup_n hv])
  have en : lvS S' (sNv S) = sCt S (sNv S) + 1 := by
    show lenV (sDr S') (sCt S') (sNv S) = _
    rw [e2, e3, lenV_f hd, fup_s]
  have eq : lvS S (sNv S) = sCt S (sNv S) := lenV_f hd
  constructor
  · intro v hv
    rw [e1] at hv
    by_cases z : v = sNv S
    · rw [z, pk_us, en]
    · rw [pk_un z, eo v z]; exact hct v hv
  · intro v k hv hk
    rw [e1] at hv
    rw [e4]
    by_cases z : v = sNv S
    · subst z
      rw [en] at hk
      by_cases y : k = sCt S (sNv S)
      · subst y; rw [pk_us, fup2_s]
      · rw [pk_un (by omega), fup2_n (by omega)]; exact hrw (sNv S) k (Nat.le_refl _) (by rw [eq]; omega)
    · rw [eo v z] at hk
      have h9 := lvS_8 hok hv
      rw [pk_un (by omega), fup2_n (by omega)]; exact hrw v k hv hk
theorem d_M_act_0 : decode b_M_act 0 = .ok (.aload_n 0, 1) := by decide +kernel
theorem d_M_act_1 : decode b_M_act 1 = .ok (.getfield 13, 3) := by decide +kernel
theorem d_M_act_4 : decode b_M_act 4 = .ok (.iload_n 1, 1) := by decide +kernel
theorem d_M_act_5 : decode b_M_act 5 = .ok (.iaload, 1) := by decide +kernel
theorem d_M_act_6 : decode b_M_act 6 = .ok (.istore_n 2, 1) := by decide +kernel
theorem d_M_act_7 : decode b_M_act 7 = .ok (.iload_n 2, 1) := by decide +kernel
theorem d_M_act_8 : decode b_M_act 8 = .ok (.iconst 1, 1) := by decide +kernel
theorem d_M_act_9 : decode b_M_act 9 = .ok (.if_icmp .ne 63, 3) := by decide +kernel
theorem d_M_act_12 : decode b_M_act 12 = .ok (.aload_n 0, 1) := by decide +kernel
theorem d_M_act_13 : decode b_M_act 13 = .ok (.getfield 26, 3) := by decide +kernel
theorem d_M_act_16 : decode b_M_act 16 = .ok (.aload_n 0, 1) := by decide +kernel
theorem d_M_act_17 : decode b_M_act 17 = .ok (.getfield 57, 3) := by decide +kernel
theorem d_M_act_20 : decode b_M_act 20 = .ok (.iload_n 1, 1) := by decide +kernel
theorem d_M_act_21 : decode b_M_act 21 = .ok (.iconst 2, 1) := by decide +kernel
theorem d_M_act_22 : decode b_M_act 22 = .ok (.iadd, 1) := by decide +kernel
theorem d_M_act_23 : decode b_M_act 23 = .ok (.iastore, 1) := by decide +kernel
theorem d_M_act_24 : decode b_M_act 24 = .ok (.aload_n 0, 1) := by decide +kernel
theorem d_M_act_25 : decode b_M_act 25 = .ok (.getfield 29, 3) := by decide +kernel
theorem d_M_act_28 : decode b_M_act 28 = .ok (.aload_n 0, 1) := by decide +kernel
theorem d_M_act_29 : decode b_M_act 29 = .ok (.getfield 57, 3) := by decide +kernel
theorem d_M_act_32 : decode b_M_act 32 = .ok (.aload_n 0, 1) := by decide +kernel
theorem d_M_act_33 : decode b_M_act 33 = .ok (.getfield 13, 3) := by decide +kernel
theorem d_M_act_36 : decode b_M_act 36 = .ok (.iload_n 1, 1) := by decide +kernel
theorem d_M_act_37 : decode b_M_act 37 = .ok (.iconst 1, 1) := by decide +kernel
theorem d_M_act_38 : decode b_M_act 38 = .ok (.iadd, 1) := by decide +kernel
theorem d_M_act_39 : decode b_M_act 39 = .ok (.iaload, 1) := by decide +kernel
theorem d_M_act_40 : decode b_M_act 40 = .ok (.iastore, 1) := by decide +kernel
theorem d_M_act_41 : decode b_M_act 41 = .ok (.aload_n 0, 1) := by decide +kernel
theorem d_M_act_42 : decode b_M_act 42 = .ok (.getfield 32, 3) := by decide +kernel
theorem d_M_act_45 : decode b_M_act 45 = .ok (.aload_n 0, 1) := by decide +kernel
theorem d_M_act_46 : decode b_M_act 46 = .ok (.getfield 57, 3) := by decide +kernel
theorem d_M_act_49 : decode b_M_act 49 = .ok (.iconst 1, 1) := by decide +kernel
theorem d_M_act_50 : decode b_M_act 50 = .ok (.bastore, 1) := by decide +kernel
theorem d_M_act_51 : decode b_M_act 51 = .ok (.aload_n 0, 1) := by decide +kernel
theorem d_M_act_52 : decode b_M_act 52 = .ok (.aload_n 0, 1) := by decide +kernel
theorem d_M_act_53 : decode b_M_act 53 = .ok (.getfield 57, 3) := by decide +kernel
theorem d_M_act_56 : decode b_M_act 56 = .ok (.invokevirtual 67, 3) := by decide +kernel
theorem d_M_act_59 : decode b_M_act 59 = .ok (.aload_n 0, 1) := by decide +kernel
theorem d_M_act_60 : decode b_M_act 60 = .ok (.dup, 1) := by decide +kernel
theorem d_M_act_61 : decode b_M_act 61 = .ok (.getfield 57, 3) := by decide +kernel
theorem d_M_act_64 : decode b_M_act 64 = .ok (.iconst 1, 1) := by decide +kernel
theorem d_M_act_65 : decode b_M_act 65 = .ok (.iadd, 1) := by decide +kernel
theorem d_M_act_66 : decode b_M_act 66 = .ok (.putfield 57, 3) := by decide +kernel
theorem d_M_act_69 : decode b_M_act 69 = .ok (.goto 101, 3) := by decide +kernel
theorem d_M_act_72 : decode b_M_act 72 = .ok (.iload_n 2, 1) := by decide +kernel
theorem d_M_act_73 : decode b_M_act 73 = .ok (.iconst 2, 1) := by decide +kernel
theorem d_M_act_74 : decode b_M_act 74 = .ok (.if_icmp .ne 18, 3) := by decide +kernel
theorem d_M_act_77 : decode b_M_act 77 = .ok (.aload_n 0, 1) := by decide +kernel
theorem d_M_act_78 : decode b_M_act 78 = .ok (.aload_n 0, 1) := by decide +kernel
theorem d_M_act_79 : decode b_M_act 79 = .ok (.getfield 13, 3) := by decide +kernel
theorem d_M_act_82 : decode b_M_act 82 = .ok (.iload_n 1, 1) := by decide +kernel
theorem d_M_act_83 : decode b_M_act 83 = .ok (.iconst 1, 1) := by decide +kernel
theorem d_M_act_84 : decode b_M_act 84 = .ok (.iadd, 1) := by decide +kernel
theorem d_M_act_85 : decode b_M_act 85 = .ok (.iaload, 1) := by decide +kernel
theorem d_M_act_86 : decode b_M_act 86 = .ok (.invokevirtual 67, 3) := by decide +kernel
theorem d_M_act_89 : decode b_M_act 89 = .ok (.goto 81, 3) := by decide +kernel
theorem d_M_act_92 : decode b_M_act 92 = .ok (.iload_n 2, 1) := by decide +kernel
theorem d_M_act_93 : decode b_M_act 93 = .ok (.iconst 3, 1) := by decide +kernel
theorem d_M_act_94 : decode b_M_act 94 = .ok (.if_icmp .ne 36, 3) := by decide +kernel
theorem d_M_act_97 : decode b_M_act 97 = .ok (.aload_n 0, 1) := by decide +kernel
theorem d_M_act_98 : decode b_M_act 98 = .ok (.dup, 1) := by decide +kernel
theorem d_M_act_99 : decode b_M_act 99 = .ok (.getfield 51, 3) := by decide +kernel
theorem d_M_act_102 : decode b_M_act 102 = .ok (.iconst 1, 1) := by decide +kernel
theorem d_M_act_103 : decode b_M_act 103 = .ok (.iadd, 1) := by decide +kernel
theorem d_M_act_104 : decode b_M_act 104 = .ok (.putfield 51, 3) := by decide +kernel
theorem d_M_act_107 : decode b_M_act 107 = .ok (.aload_n 0, 1) := by decide +kernel
theorem d_M_act_108 : decode b_M_act 108 = .ok (.getfield 35, 3) := by decide +kernel
theorem d_M_act_111 : decode b_M_act 111 = .ok (.aload_n 0, 1) := by decide +kernel
theorem d_M_act_112 : decode b_M_act 112 = .ok (.getfield 51, 3) := by decide +kernel
theorem d_M_act_115 : decode b_M_act 115 = .ok (.iconst 0, 1) := by decide +kernel
theorem d_M_act_116 : decode b_M_act 116 = .ok (.iastore, 1) := by decide +kernel
theorem d_M_act_117 : decode b_M_act 117 = .ok (.aload_n 0, 1) := by decide +kernel
theorem d_M_act_118 : decode b_M_act 118 = .ok (.getfield 41, 3) := by decide +kernel
theorem d_M_act_121 : decode b_M_act 121 = .ok (.aload_n 0, 1) := by decide +kernel
theorem d_M_act_122 : decode b_M_act 122 = .ok (.getfield 51, 3) := by decide +kernel
theorem d_M_act_125 : decode b_M_act 125 = .ok (.iconst 0, 1) := by decide +kernel
theorem d_M_act_126 : decode b_M_act 126 = .ok (.bastore, 1) := by decide +kernel
theorem d_M_act_127 : decode b_M_act 127 = .ok (.goto 43, 3) := by decide +kernel
theorem d_M_act_130 : decode b_M_act 130 = .ok (.iload_n 2, 1) := by decide +kernel
theorem d_M_act_131 : decode b_M_act 131 = .ok (.iconst 4, 1) := by decide +kernel
theorem d_M_act_132 : decode b_M_act 132 = .ok (.if_icmp .ne 34, 3) := by decide +kernel
theorem d_M_act_135 : decode b_M_act 135 = .ok (.aload_n 0, 1) := by decide +kernel
theorem d_M_act_136 : decode b_M_act 136 = .ok (.getfield 41, 3) := by decide +kernel
theorem d_M_act_139 : decode b_M_act 139 = .ok (.aload_n 0, 1) := by decide +kernel
theorem d_M_act_140 : decode b_M_act 140 = .ok (.getfield 13, 3) := by decide +kernel
theorem d_M_act_143 : decode b_M_act 143 = .ok (.iload_n 1, 1) := by decide +kernel
theorem d_M_act_144 : decode b_M_act 144 = .ok (.iconst 1, 1) := by decide +kernel
theorem d_M_act_145 : decode b_M_act 145 = .ok (.iadd, 1) := by decide +kernel
theorem d_M_act_146 : decode b_M_act 146 = .ok (.iaload, 1) := by decide +kernel
theorem d_M_act_147 : decode b_M_act 147 = .ok (.iconst 1, 1) := by decide +kernel
theorem d_M_act_148 : decode b_M_act 148 = .ok (.bastore, 1) := by decide +kernel
theorem d_M_act_149 : decode b_M_act 149 = .ok (.aload_n 0, 1) := by decide +kernel
theorem d_M_act_150 : decode b_M_act 150 = .ok (.getfield 35, 3) := by decide +kernel
theorem d_M_act_153 : decode b_M_act 153 = .ok (.aload_n 0, 1) := by decide +kernel
theorem d_M_act_154 : decode b_M_act 154 = .ok (.getfield 13, 3) := by decide +kernel
theorem d_M_act_157 : decode b_M_act 157 = .ok (.iload_n 1, 1) := by decide +kernel
theorem d_M_act_158 : decode b_M_act 158 = .ok (.iconst 1, 1) := by decide +kernel
theorem d_M_act_159 : decode b_M_act 159 = .ok (.iadd, 1) := by decide +kernel
theorem d_M_act_160 : decode b_M_act 160 = .ok (.iaload, 1) := by decide +kernel
theorem d_M_act_161 : decode b_M_act 161 = .ok (.iconst 0, 1) := by decide +kernel
theorem d_M_act_162 : decode b_M_act 162 = .ok (.iastore, 1) := by decide +kernel
theorem d_M_act_163 : decode b_M_act 163 = .ok (.goto 7, 3) := by decide +kernel
theorem d_M_act_166 : decode b_M_act 166 = .ok (.aload_n 0, 1) := by decide +kernel
theorem d_M_act_167 : decode b_M_act 167 = .ok (.invokevirtual 71, 3) := by decide +kernel
theorem d_M_act_170 : decode b_M_act 170 = .ok (.return_, 1) := by decide +kernel
set_option maxRecDepth 20000 in
set_option maxHeartbeats 4000000 in
theorem c_M_act1 {D : va_G} {cI cZ cJ : ClassId} {am : Nat → Nat} {mp : Nat} {th : Nat} {cr : Bool} {fd : Nat} {fo : Nat → Int32} {n : Nat} {lo : Nat → Int32} {np : Nat} {ps : Nat → Int32} {pb : Nat → Int32} {ip : Nat → Int32} {nb : Nat} {fr : Nat → Int32} {ln : Nat → Int32} {tr : Nat → Int32} {nv : Nat} {ct : Nat → Int32} {rw : Nat → Int32} {dr : Nat → Int32} {en : Nat} {sw : Nat} {rest : va_W} {lg : Nat → Nat} {p : Nat} (hRl : lg_R lo n lg) (hk : lg p = 1) {c : Nat} (hnv : nv ≤ 12) (hc : ct nv = nI c) (hc8 : c < 8) (hp : p + 1 < n) (hb : nb < 24) : bC D bcl (tys3 cI cZ cJ) y_M_act ({ frames := 2, cells := 0, slots := 0, locals := 45 }) (wM am cI cZ mp th cr fd fo n lo np ps pb ip nb fr ln tr nv ct rw dr en sw rest) [.ref (am 0), .int (nI (p))] (bO (fun ws9 => ws9 = wM am cI cZ mp th cr fd fo n lo np ps pb ip (nb + 1) (upd fr nb (nI (p + 2))) (upd ln nb (nI (lg (p + 1)))) (upd tr nb (bB true)) nv (upd ct nv (nI (c + 1))) (upd rw (8 * nv + c) (nI nb)) dr en sw rest) bno) := by
  have h4 := hRl.1
  refine bC.of (by decide) m_M_act.1 (Nat.le_of_ble_eq_true rfl) ?_
  intro Γ G E0
  show bV D bcl Γ 3 (wM am cI cZ mp th cr fd fo n lo np ps pb ip nb fr ln tr nv ct rw dr en sw rest) 0 0 0 [(0, .ref (am 0)), (1, .int (nI (p)))] []
  refine bV.aload_n G d_M_act_0 rfl ?_
  refine bV.getf G cl_M 0 6 rfl (by decide) bw_551 rfl d_M_act_1 ?_
  refine bV.iload_n G d_M_act_4 rfl ?_
  refine bV.ialoadN G 2 0 rfl rfl (by omega) (by omega) d_M_act_5 ?_
  refine bV.topi (y := (nI (lg p))) (hRl.2.1 _ (by omega)) ?_
  refine bV.istore_n G (lv' := [(0, .ref (am 0)), (1, .int (nI (p))), (2, .int (nI (lg p)))]) d_M_act_6 (by decide) rfl rfl ?_
  have hv0 : lg p < 256 := hRl.2.2 _ (by omega)
  refine bV.iload_n G d_M_act_7 rfl ?_
  refine bV.iconst (v := nI 1) G d_M_act_8 (by decide) ?_
  refine bV.icmp_neN (tgt := 72) G d_M_act_9 (by decide) (by omega) (by omega) (fun c9 => ?_) (fun c9 => ?_)
  · exfalso; omega
  · refine bV.aload_n G d_M_act_12 rfl ?_
    refine bV.getf G cl_M 0 12 rfl (by decide) bw_557 rfl d_M_act_13 ?_
    refine bV.aload_n G d_M_act_16 rfl ?_
    refine bV.getf G cl_M 0 11 rfl (by decide) bw_556 rfl d_M_act_17 ?_
    refine bV.iload_n G d_M_act_20 rfl ?_
    refine bV.iconst (v := nI 2) G d_M_act_21 (by decide) ?_
    refine bV.iaddN G d_M_act_22 ?_
    refine bV.iastoreN G (ws' := (wM am cI cZ mp th cr fd fo n lo np ps pb ip nb (upd fr nb ((nI (p + 2)))) ln tr nv ct rw dr en sw rest)) 6 0 rfl rfl (by omega) (by omega) d_M_act_23 rfl ?_
    refine bV.aload_n G d_M_act_24 rfl ?_
    refine bV.getf G cl_M 0 13 rfl (by decide) bw_558 rfl d_M_act_25 ?_
    refine bV.aload_n G d_M_act_28 rfl ?_
    refine bV.getf G cl_M 0 11 rfl (by decide) bw_556 rfl d_M_act_29 ?_
    refine bV.aload_n G d_M_act_32 rfl ?_
    refine bV.getf G cl_M 0 6 rfl (by decide) bw_551 rfl d_M_act_33 ?_
    refine bV.iload_n G d_M_act_36 rfl ?_
    refine bV.iconst (v := nI 1) G d_M_act_37 (by decide) ?_
    refine bV.iaddN G d_M_act_38 ?_
    refine bV.ialoadN G 2 0 rfl rfl (by omega) (by omega) d_M_act_39 ?_
    refine bV.topi (y := (nI (lg (p + 1)))) (hRl.2.1 _ (by omega)) ?_
    refine bV.iastoreN G (ws' := (wM am cI cZ mp th cr fd fo n lo np ps pb ip nb (upd fr nb ((nI (p + 2)))) (upd ln nb ((nI (lg (p + 1))))) tr nv ct rw dr en sw rest)) 7 0 rfl rfl (by omega) (by omega) d_M_act_40 rfl ?_
    refine bV.aload_n G d_M_act_41 rfl ?_
    refine bV.getf G cl_M 0 14 rfl (by decide) bw_559 rfl d_M_act_42 ?_
    refine bV.aload_n G d_M_act_45 rfl ?_
    refine bV.getf G cl_M 0 11 rfl (by decide) bw_556 rfl d_M_act_46 ?_
    refine bV.iconst (v := nI 1) G d_M_act_49 (by decide) ?_
    refine bV.topi (x := nI 1) (y := bB true) (by decide) ?_
    refine bV.zastoreN G (ws' := (wM am cI cZ mp th cr fd fo n lo np ps pb ip nb (upd fr nb ((nI (p + 2)))) (upd ln nb ((nI (lg (p + 1))))) (upd tr nb ((bB (true)))) nv ct rw dr en sw rest)) 8 1 rfl rfl (by omega) (by omega) d_M_act_50 rfl ?_
    refine bV.aload_n G d_M_act_51 rfl ?_
    refine bV.aload_n G d_M_act_52 rfl ?_
    refine bV.getf G cl_M 0 11 rfl (by decide) bw_556 rfl d_M_act_53 ?_
    refine bV.callVo G m_M_append bw_635 bw_s30 bw_633 (c_M_append (b := nb) (c := c) hnv hc hc8) 0 rfl rfl rfl rfl rfl ⟨by decide, by decide⟩ ⟨by decide, by decide⟩ (Nat.le_of_ble_eq_true rfl) d_M_act_56 (fun ws9 h9 => ?_)
    rw [h9]
    refine bV.aload_n G d_M_act_59 rfl ?_
    refine bV.dup G d_M_act_60 rfl ?_
    refine bV.getf G cl_M 0 11 rfl (by decide) bw_556 rfl d_M_act_61 ?_
    refine bV.iconst (v := nI 1) G d_M_act_64 (by decide) ?_
    refine bV.iaddN G d_M_act_65 ?_
    refine bV.putf G (ws' := (wM am cI cZ mp th cr fd fo n lo np ps pb ip (nb + 1) (upd fr nb ((nI (p + 2)))) (upd ln nb ((nI (lg (p + 1))))) (upd tr nb ((bB (true)))) nv (upd ct nv (nI (c + 1))) (upd rw (8 * nv + c) (nI nb)) dr en sw rest)) cl_M 0 11 rfl (by decide) bw_556 rfl rfl rfl (Nat.le_of_ble_eq_true rfl) d_M_act_66 rfl ?_
    refine bV.goto (tgt := 170) G d_M_act_69 (by decide) ?_
    exact bV.vretO G E0 rfl (by decide) (by decide) d_M_act_170 rfl
set_option maxRecDepth 20000 in
set_option maxHeartbeats 4000000 in
theorem c_M_act2 {D : va_G} {cI cZ cJ : ClassId} {am : Nat → Nat} {mp : Nat} {th : Nat} {cr : Bool} {fd : Nat} {fo : Nat → Int32} {n : Nat} {lo : Nat → Int32} {np : Nat} {ps : Nat → Int32} {pb : Nat → Int32} {ip : Nat → Int32} {nb : Nat} {fr : Nat → Int32} {ln : Nat → Int32} {tr : Nat → Int32} {nv : Nat} {ct : Nat → Int32} {rw : Nat → Int32} {dr : Nat → Int32} {en : Nat} {sw : Nat} {rest : va_W} {lg : Nat → Nat} {p : Nat} (hRl : lg_R lo n lg) (hk : lg p = 2) {c : Nat} (hnv : nv ≤ 12) (hc : ct nv = nI c) (hc8 : c < 8) (hp : p + 1 < n) : bC D bcl (tys3 cI cZ cJ) y_M_act ({ frames := 2, cells := 0, slots := 0, locals := 45 }) (wM am cI cZ mp th cr fd fo n lo np ps pb ip nb fr ln tr nv ct rw dr en sw rest) [.ref (am 0), .int (nI (p))] (bO (fun ws9 => ws9 = wM am cI cZ mp th cr fd fo n lo np ps pb ip nb fr ln tr nv (upd ct nv (nI (c + 1))) (upd rw (8 * nv + c) (nI (lg (p + 1)))) dr en sw rest) bno) := by
  have h4 := hRl.1
  refine bC.of (by decide) m_M_act.1 (Nat.le_of_ble_eq_true rfl) ?_
  intro Γ G E0
  show bV D bcl Γ 3 (wM am cI cZ mp th cr fd fo n lo np ps pb ip nb fr ln tr nv ct rw dr en sw rest) 0 0 0 [(0, .ref (am 0)), (1, .int (nI (p)))] []
  refine bV.aload_n G d_M_act_0 rfl ?_
  refine bV.getf G cl_M 0 6 rfl (by decide) bw_551 rfl d_M_act_1 ?_
  refine bV.iload_n G d_M_act_4 rfl ?_
  refine bV.ialoadN G 2 0 rfl rfl (by omega) (by omega) d_M_act_5 ?_
  refine bV.topi (y := (nI (lg p))) (hRl.2.1 _ (by omega)) ?_
  refine bV.istore_n G (lv' := [(0, .ref (am 0)), (1, .int (nI (p))), (2, .int (nI (lg p)))]) d_M_act_6 (by decide) rfl rfl ?_
  have hv0 : lg p < 256 := hRl.2.2 _ (by omega)
  refine bV.iload_n G d_M_act_7 rfl ?_
  refine bV.iconst (v := nI 1) G d_M_act_8 (by decide) ?_
  refine bV.icmp_neN (tgt := 72) G d_M_act_9 (by decide) (by omega) (by omega) (fun c9 => ?_) (fun c9 => ?_)
  · refine bV.iload_n G d_M_act_72 rfl ?_
    refine bV.iconst (v := nI 2) G d_M_act_73 (by decide) ?_
    refine bV.icmp_neN (tgt := 92) G d_M_act_74 (by decide) (by omega) (by omega) (fun c74 => ?_) (fun c74 => ?_)
    · exfalso; omega
    · refine bV.aload_n G d_M_act_77 rfl ?_
      refine bV.aload_n G d_M_act_78 rfl ?_
      refine bV.getf G cl_M 0 6 rfl (by decide) bw_551 rfl d_M_act_79 ?_
      refine bV.iload_n G d_M_act_82 rfl ?_
      refine bV.iconst (v := nI 1) G d_M_act_83 (by decide) ?_
      refine bV.iaddN G d_M_act_84 ?_
      refine bV.ialoadN G 2 0 rfl rfl (by omega) (by omega) d_M_act_85 ?_
      refine bV.topi (y := (nI (lg (p + 1)))) (hRl.2.1 _ (by omega)) ?_
      refine bV.callVo G m_M_append bw_635 bw_s30 bw_633 (c_M_append (b := lg (p + 1)) (c := c) hnv hc hc8) 0 rfl rfl rfl rfl rfl ⟨by decide, by decide⟩ ⟨by decide, by decide⟩ (Nat.le_of_ble_eq_true rfl) d_M_act_86 (fun ws9 h9 => ?_)
      rw [h9]
      refine bV.goto (tgt := 170) G d_M_act_89 (by decide) ?_
      exact bV.vretO G E0 rfl (by decide) (by decide) d_M_act_170 rfl
  · exfalso; omega
set_option maxRecDepth 20000 in
set_option maxHeartbeats 4000000 in
theorem c_M_act3 {D : va_G} {cI cZ cJ : ClassId} {am : Nat → Nat} {mp : Nat} {th : Nat} {cr : Bool} {fd : Nat} {fo : Nat → Int32} {n : Nat} {lo : Nat → Int32} {np : Nat} {ps : Nat → Int32} {pb : Nat → Int32} {ip : Nat → Int32} {nb : Nat} {fr : Nat → Int32} {ln : Nat → Int32} {tr : Nat → Int32} {nv : Nat} {ct : Nat → Int32} {rw : Nat → Int32} {dr : Nat → Int32} {en : Nat} {sw : Nat} {rest : va_W} {lg : Nat → Nat} {p : Nat} (hRl : lg_R lo n lg) (hk : lg p = 3) (hp : p < n) (hnv : nv < 12) : bC D bcl (tys3 cI cZ cJ) y_M_act ({ frames := 2, cells := 0, slots := 0, locals := 45 }) (wM am cI cZ mp th cr fd fo n lo np ps pb ip nb fr ln tr nv ct rw dr en sw rest) [.ref (am 0), .int (nI (p))] (bO (fun ws9 => ws9 = wM am cI cZ mp th cr fd fo n lo np ps pb ip nb fr ln tr (nv + 1) (upd ct (nv + 1) (nI 0)) rw (upd dr (nv + 1) (bB false)) en sw rest) bno) := by
  have h4 := hRl.1
  refine bC.of (by decide) m_M_act.1 (Nat.le_of_ble_eq_true rfl) ?_
  intro Γ G E0
  show bV D bcl Γ 3 (wM am cI cZ mp th cr fd fo n lo np ps pb ip nb fr ln tr nv ct rw dr en sw rest) 0 0 0 [(0, .ref (am 0)), (1, .int (nI (p)))] []
  refine bV.aload_n G d_M_act_0 rfl ?_
  refine bV.getf G cl_M 0 6 rfl (by decide) bw_551 rfl d_M_act_1 ?_
  refine bV.iload_n G d_M_act_4 rfl ?_
  refine bV.ialoadN G 2 0 rfl rfl (by omega) (by omega) d_M_act_5 ?_
  refine bV.topi (y := (nI (lg p))) (hRl.2.1 _ (by omega)) ?_
  refine bV.istore_n G (lv' := [(0, .ref (am 0)), (1, .int (nI (p))), (2, .int (nI (lg p)))]) d_M_act_6 (by decide) rfl rfl ?_
  have hv0 : lg p < 256 := hRl.2.2 _ (by omega)
  refine bV.iload_n G d_M_act_7 rfl ?_
  refine bV.iconst (v := nI 1) G d_M_act_8 (by decide) ?_
  refine bV.icmp_neN (tgt := 72) G d_M_act_9 (by decide) (by omega) (by omega) (fun c9 => ?_) (fun c9 => ?_)
  · refine bV.iload_n G d_M_act_72 rfl ?_
    refine bV.iconst (v := nI 2) G d_M_act_73 (by decide) ?_
    refine bV.icmp_neN (tgt := 92) G d_M_act_74 (by decide) (by omega) (by omega) (fun c74 => ?_) (fun c74 => ?_)
    · refine bV.iload_n G d_M_act_92 rfl ?_
      refine bV.iconst (v := nI 3) G d_M_act_93 (by decide) ?_
      refine bV.icmp_neN (tgt := 130) G d_M_act_94 (by decide) (by omega) (by omega) (fun c94 => ?_) (fun c94 => ?_)
      · exfalso; omega
      · refine bV.aload_n G d_M_act_97 rfl ?_
        refine bV.dup G d_M_act_98 rfl ?_
        refine bV.getf G cl_M 0 15 rfl (by decide) bw_560 rfl d_M_act_99 ?_
        refine bV.iconst (v := nI 1) G d_M_act_102 (by decide) ?_
        refine bV.iaddN G d_M_act_103 ?_
        refine bV.putf G (ws' := (wM am cI cZ mp th cr fd fo n lo np ps pb ip nb fr ln tr (nv + 1) ct rw dr en sw rest)) cl_M 0 15 rfl (by decide) bw_560 rfl rfl rfl (Nat.le_of_ble_eq_true rfl) d_M_act_104 rfl ?_
        refine bV.aload_n G d_M_act_107 rfl ?_
        refine bV.getf G cl_M 0 16 rfl (by decide) bw_561 rfl d_M_act_108 ?_
        refine bV.aload_n G d_M_act_111 rfl ?_
        refine bV.getf G cl_M 0 15 rfl (by decide) bw_560 rfl d_M_act_112 ?_
        refine bV.iconst (v := nI 0) G d_M_act_115 (by decide) ?_
        refine bV.iastoreN G (ws' := (wM am cI cZ mp th cr fd fo n lo np ps pb ip nb fr ln tr (nv + 1) (upd ct (nv + 1) ((nI (0)))) rw dr en sw rest)) 9 0 rfl rfl (by omega) (by omega) d_M_act_116 rfl ?_
        refine bV.aload_n G d_M_act_117 rfl ?_
        refine bV.getf G cl_M 0 18 rfl (by decide) bw_563 rfl d_M_act_118 ?_
        refine bV.aload_n G d_M_act_121 rfl ?_
        refine bV.getf G cl_M 0 15 rfl (by decide) bw_560 rfl d_M_act_122 ?_
        refine bV.iconst (v := nI 0) G d_M_act_125 (by decide) ?_
        refine bV.topi (x := nI 0) (y := bB false) (by decide) ?_
        refine bV.zastoreN G (ws' := (wM am cI cZ mp th cr fd fo n lo np ps pb ip nb fr ln tr (nv + 1) (upd ct (nv + 1) ((nI (0)))) rw (upd dr (nv + 1) ((bB (false)))) en sw rest)) 11 1 rfl rfl (by omega) (by omega) d_M_act_126 rfl ?_
        refine bV.goto (tgt := 170) G d_M_act_127 (by decide) ?_
        exact bV.vretO G E0 rfl (by decide) (by decide) d_M_act_170 rfl
    · exfalso; omega
  · exfalso; omega
set_option maxRecDepth 20000 in
set_option maxHeartbeats 4000000 in
theorem c_M_act4 {D : va_G} {cI cZ cJ : ClassId} {am : Nat → Nat} {mp : Nat} {th : Nat} {cr : Bool} {fd : Nat} {fo : Nat → Int32} {n : Nat} {lo : Nat → Int32} {np : Nat} {ps : Nat → Int32} {pb : Nat → Int32} {ip : Nat → Int32} {nb : Nat} {fr : Nat → Int32} {ln : Nat → Int32} {tr : Nat → Int32} {nv : Nat} {ct : Nat → Int32} {rw : Nat → Int32} {dr : Nat → Int32} {en : Nat} {sw : Nat} {rest : va_W} {lg : Nat → Nat} {p : Nat} (hRl : lg_R lo n lg) (hk : lg p = 4) (hp : p + 1 < n) (hx : lg (p + 1) < 12) : bC D bcl (tys3 cI cZ cJ) y_M_act ({ frames := 2, cells := 0, slots := 0, locals := 45 }) (wM am cI cZ mp th cr fd fo n lo np ps pb ip nb fr ln tr nv ct rw dr en sw rest) [.ref (am 0), .int (nI (p))] (bO (fun ws9 => ws9 = wM am cI cZ mp th cr fd fo n lo np ps pb ip nb fr ln tr nv (upd ct (lg (p + 1)) (nI 0)) rw (upd dr (lg (p + 1)) (bB true)) en sw rest) bno) := by
  have h4 := hRl.1
  refine bC.of (by decide) m_M_act.1 (Nat.le_of_ble_eq_true rfl) ?_
  intro Γ G E0
  show bV D bcl Γ 3 (wM am cI cZ mp th cr fd fo n lo np ps pb ip nb fr ln tr nv ct rw dr en sw rest) 0 0 0 [(0, .ref (am 0)), (1, .int (nI (p)))] []
  refine bV.aload_n G d_M_act_0 rfl ?_
  refine bV.getf G cl_M 0 6 rfl (by decide) bw_551 rfl d_M_act_1 ?_
  refine bV.iload_n G d_M_act_4 rfl ?_
  refine bV.ialoadN G 2 0 rfl rfl (by omega) (by omega) d_M_act_5 ?_
  refine bV.topi (y := (nI (lg p))) (hRl.2.1 _ (by omega)) ?_
  refine bV.istore_n G (lv' := [(0, .ref (am 0)), (1, .int (nI (p))), (2, .int (nI (lg p)))]) d_M_act_6 (by decide) rfl rfl ?_
  have hv0 : lg p < 256 := hRl.2.2 _ (by omega)
  refine bV.iload_n G d_M_act_7 rfl ?_
  refine bV.iconst (v := nI 1) G d_M_act_8 (by decide) ?_
  refine bV.icmp_neN (tgt := 72) G d_M_act_9 (by decide) (by omega) (by omega) (fun c9 => ?_) (fun c9 => ?_)
  · refine bV.iload_n G d_M_act_72 rfl ?_
    refine bV.iconst (v := nI 2) G d_M_act_73 (by decide) ?_
    refine bV.icmp_neN (tgt := 92) G d_M_act_74 (by decide) (by omega) (by omega) (fun c74 => ?_) (fun c74 => ?_)
    · refine bV.iload_n G d_M_act_92 rfl ?_
      refine bV.iconst (v := nI 3) G d_M_act_93 (by decide) ?_
      refine bV.icmp_neN (tgt := 130) G d_M_act_94 (by decide) (by omega) (by omega) (fun c94 => ?_) (fun c94 => ?_)
      · refine bV.iload_n G d_M_act_130 rfl ?_
        refine bV.iconst (v := nI 4) G d_M_act_131 (by decide) ?_
        refine bV.icmp_neN (tgt := 166) G d_M_act_132 (by decide) (by omega) (by omega) (fun c132 => ?_) (fun c132 => ?_)
        · exfalso; omega
        · refine bV.aload_n G d_M_act_135 rfl ?_
          refine bV.getf G cl_M 0 18 rfl (by decide) bw_563 rfl d_M_act_136 ?_
          refine bV.aload_n G d_M_act_139 rfl ?_
          refine bV.getf G cl_M 0 6 rfl (by decide) bw_551 rfl d_M_act_140 ?_
          refine bV.iload_n G d_M_act_143 rfl ?_
          refine bV.iconst (v := nI 1) G d_M_act_144 (by decide) ?_
          refine bV.iaddN G d_M_act_145 ?_
          refine bV.ialoadN G 2 0 rfl rfl (by omega) (by omega) d_M_act_146 ?_
          refine bV.topi (y := (nI (lg (p + 1)))) (hRl.2.1 _ (by omega)) ?_
          refine bV.iconst (v := nI 1) G d_M_act_147 (by decide) ?_
          refine bV.topi (x := nI 1) (y := bB true) (by decide) ?_
          refine bV.zastoreN G (ws' := (wM am cI cZ mp th cr fd fo n lo np ps pb ip nb fr ln tr nv ct rw (upd dr (lg (p + 1)) ((bB (true)))) en sw rest)) 11 1 rfl rfl (by omega) (by omega) d_M_act_148 rfl ?_
          refine bV.aload_n G d_M_act_149 rfl ?_
          refine bV.getf G cl_M 0 16 rfl (by decide) bw_561 rfl d_M_act_150 ?_
          refine bV.aload_n G d_M_act_153 rfl ?_
          refine bV.getf G cl_M 0 6 rfl (by decide) bw_551 rfl d_M_act_154 ?_
          refine bV.iload_n G d_M_act_157 rfl ?_
          refine bV.iconst (v := nI 1) G d_M_act_158 (by decide) ?_
          refine bV.iaddN G d_M_act_159 ?_
          refine bV.ialoadN G 2 0 rfl rfl (by omega) (by omega) d_M_act_160 ?_
          refine bV.topi (y := (nI (lg (p + 1)))) (hRl.2.1 _ (by omega)) ?_
          refine bV.iconst (v := nI 0) G d_M_act_161 (by decide) ?_
          refine bV.iastoreN G (ws' := (wM am cI cZ mp th cr fd fo n lo np ps pb ip nb fr ln tr nv (upd ct (lg (p + 1)) ((nI (0)))) rw (upd dr (lg (p + 1)) ((bB (true)))) en sw rest)) 9 0 rfl rfl (by omega) (by omega) d_M_act_162 rfl ?_
          refine bV.goto (tgt := 170) G d_M_act_163 (by decide) ?_
          exact bV.vretO G E0 rfl (by decide) (by decide) d_M_act_170 rfl
      · exfalso; omega
    · exfalso; omega
  · exfalso; omega
set_option maxRecDepth 20000 in
set_option maxHeartbeats 4000000 in
theorem c_M_act5 {D : va_G} {cI cZ cJ : ClassId} {am : Nat → Nat} {mp : Nat} {th : Nat} {cr : Bool} {fd : Nat} {fo : Nat → Int32} {n : Nat} {lo : Nat → Int32} {np : Nat} {ps : Nat → Int32} {pb : Nat → Int32} {ip : Nat → Int32} {fr : Nat → Int32} {ln : Nat → Int32} {tr : Nat → Int32} {ct : Nat → Int32} {rw : Nat → Int32} {dr : Nat → Int32} {en : Nat} {sw : Nat} {rest : va_W} {lg : Nat → Nat} {p : Nat} (hRl : lg_R lo n lg) (hk : lg p = 5) {S : aS} {a : Nat} (hp : p < n) (hok : okS a S) (htr : ∀ b, b < sNb S → tr b = bB (sTh S b)) (hct : ctR S ct) (hrw : rwR S rw) : bC D bcl (tys3 cI cZ cJ) y_M_act ({ frames := 2, cells := 0, slots := 0, locals := 45 }) (wM am cI cZ mp th cr fd fo n lo np ps pb ip (sNb S) fr ln tr (sNv S) ct rw dr en sw rest) [.ref (am 0), .int (nI (p))] (bO (fun ws9 => ∃ tr1 : Nat → Int32, (∀ b, b < sNb S → tr1 b = bB (swS (sTh S) (hlB (sDr S) (sCt S) (sRw S) (sNv S)) (sNb S) b)) ∧ ws9 = wM am cI cZ mp th cr fd fo n lo np ps pb ip (sNb S) fr ln tr1 (sNv S) ct rw dr en (cntU (fun b => sTh S b && !hlB (sDr S) (sCt S) (sRw S) (sNv S) b) (sNb S)) rest) bno) := by
  have h4 := hRl.1
  refine bC.of (by decide) m_M_act.1 (Nat.le_of_ble_eq_true rfl) ?_
  intro Γ G E0
  show bV D bcl Γ 3 (wM am cI cZ mp th cr fd fo n lo np ps pb ip (sNb S) fr ln tr (sNv S) ct rw dr en sw rest) 0 0 0 [(0, .ref (am 0)), (1, .int (nI (p)))] []
  refine bV.aload_n G d_M_act_0 rfl ?_
  refine bV.getf G cl_M 0 6 rfl (by decide) bw_551 rfl d_M_act_1 ?_
  refine bV.iload_n G d_M_act_4 rfl ?_
  refine bV.ialoadN G 2 0 rfl rfl (by omega) (by omega) d_M_act_5 ?_
  refine bV.topi (y := (nI (lg p))) (hRl.2.1 _ (by omega)) ?_
  refine bV.istore_n G (lv' := [(0, .ref (am 0)), (1, .int (nI (p))), (2, .int (nI (lg p)))]) d_M_act_6 (by decide) rfl rfl ?_
  have hv0 : lg p < 256 := hRl.2.2 _ (by omega)
  refine bV.iload_n G d_M_act_7 rfl ?_
  refine bV.iconst (v := nI 1) G d_M_act_8 (by decide) ?_
  refine bV.icmp_neN (tgt := 72) G d_M_act_9 (by decide) (by omega) (by omega) (fun c9 => ?_) (fun c9 => ?_)
  · refine bV.iload_n G d_M_act_72 rfl ?_
    refine bV.iconst (v := nI 2) G d_M_act_73 (by decide) ?_
    refine bV.icmp_neN (tgt := 92) G d_M_act_74 (by decide) (by omega) (by omega) (fun c74 => ?_) (fun c74 => ?_)
    · refine bV.iload_n G d_M_act_92 rfl ?_
      refine bV.iconst (v := nI 3) G d_M_act_93 (by decide) ?_
      refine bV.icmp_neN (tgt := 130) G d_M_act_94 (by decide) (by omega) (by omega) (fun c94 => ?_) (fun c94 => ?_)
      · refine bV.iload_n G d_M_act_130 rfl ?_
        refine bV.iconst (v := nI 4) G d_M_act_131 (by decide) ?_
        refine bV.icmp_neN (tgt := 166) G d_M_act_132 (by decide) (by omega) (by omega) (fun c132 => ?_) (fun c132 => ?_)
        · refine bV.aload_n G d_M_act_166 rfl ?_
          refine bV.callVo G m_M_sweepAll bw_639 bw_s31 bw_637 (c_M_sweepAll hok htr hct hrw) 0 rfl rfl rfl rfl rfl ⟨by decide, by decide⟩ ⟨by decide, by decide⟩ (Nat.le_of_ble_eq_true rfl) d_M_act_167 (fun ws9 h9 => ?_)
          obtain ⟨tr1, htr1, h9e⟩ := h9
          rw [h9e]
          exact bV.vretO G E0 rfl (by decide) (by decide) d_M_act_170 ⟨tr1, htr1, rfl⟩
        · exfalso; omega
      · exfalso; omega
    · exfalso; omega
  · exfalso; omega
set_option maxRecDepth 20000 in
set_option maxHeartbeats 4000000 in
theorem c_M_act {D : va_G} {cI cZ cJ : ClassId} {am : Nat → Nat} {mp : Nat} {th : Nat} {cr : Bool} {fd : Nat} {fo : Nat → Int32} {n : Nat} {lo : Nat → Int32} {np : Nat} {ps : Nat → Int32} {pb : Nat → Int32} {ip : Nat → Int32} {fr : Nat → Int32} {ln : Nat → Int32} {tr : Nat → Int32} {ct : Nat → Int32} {rw : Nat → Int32} {dr : Nat → Int32} {en : Nat} {sw : Nat} {rest : va_W} {lg : Nat → Nat} {p : Nat} {S : aS} (hRl : lg_R lo n lg) (hok : okS p S) (hk : okR lg p S) (hp : p + rlen lg p ≤ n) (hdv : dvR S fr ln tr ct rw dr) : bC D bcl (tys3 cI cZ cJ) y_M_act ({ frames := 2, cells := 0, slots := 0, locals := 45 }) (wM am cI cZ mp th cr fd fo n lo np ps pb ip (sNb S) fr ln tr (sNv S) ct rw dr en sw rest) [.ref (am 0), .int (nI p)] (bO (fun ws9 => ∃ (fr1 ln1 tr1 ct1 rw1 dr1 : Nat → Int32) (sw1 : Nat), dvR (actS lg p S) fr1 ln1 tr1 ct1 rw1 dr1 ∧ ws9 = wM am cI cZ mp th cr fd fo n lo np ps pb ip (sNb (actS lg p S)) fr1 ln1 tr1 (sNv (actS lg p S)) ct1 rw1 dr1 en sw1 rest) bno) := by
  obtain ⟨h1, h2, h3, h4, h5, h6⟩ := hdv
  have hn := hok.2.1
  have hd := dr_nv hok (Nat.le_refl (sNv S))
  have hc : ct (sNv S) = nI (sCt S (sNv S)) := by
    have z := h4 (sNv S) (Nat.le_refl _)
    rw [show lvS S (sNv S) = sCt S (sNv S) from lenV_f hd] at z
    exact z
  rcases hk with ⟨k, a, b, c⟩ | ⟨k, a, c⟩ | ⟨k, a⟩ | ⟨k, a⟩ | k
  · have e := act_1 (S := S) k
    rw [e.2] at hp
    refine (c_M_act1 (p := p) (c := sCt S (sNv S)) hRl k hn hc c (by omega) a).mono (bO_mono fun ws' h => ?_)
    refine ⟨_, _, _, _, _, _, _, ?_, by rw [e.1]; exact h⟩
    rw [e.1]
    have q := app_R (S' := ac1 p (lg (p + 1)) S) hok h4 h5 c rfl rfl rfl rfl
    refine ⟨fun x hx => ?_, fun x hx => ?_, fun x hx => ?_, q.1, q.2, h6⟩
    · show upd fr (sNb S) (nI (p + 2)) x = nI (fup (sFr S) (sNb S) (p + 2) x)
      by_cases z : x = sNb S
      · rw [z, pk_us, fup_s]
      · have hx' : x < sNb S + 1 := hx
        rw [pk_un z, fup_n z]; exact h1 x (by omega)
    · show upd ln (sNb S) (nI (lg (p + 1))) x = nI (fup (sLn S) (sNb S) (lg (p + 1)) x)
      by_cases z : x = sNb S
      · rw [z, pk_us, fup_s]
      · have hx' : x < sNb S + 1 := hx
        rw [pk_un z, fup_n z]; exact h2 x (by omega)
    · show upd tr (sNb S) (bB true) x = bB (if x = sNb S then true else sTh S x)
      by_cases z : x = sNb S
      · rw [z, pk_us, if_pos rfl]
      · have hx' : x < sNb S + 1 := hx
        rw [pk_un z, if_neg z]; exact h3 x (by omega)
  · have e := act_2 (S := S) k
    rw [e.2] at hp
    refine (c_M_act2 (p := p) (c := sCt S (sNv S)) hRl k hn hc c (by omega)).mono (bO_mono fun ws' h => ?_)
    refine ⟨_, _, _, _, _, _, _, ?_, by rw [e.1]; exact h⟩
    rw [e.1]
    have q := app_R (S' := ac2 (lg (p + 1)) S) hok h4 h5 c rfl rfl rfl rfl
    exact ⟨h1, h2, h3, q.1, q.2, h6⟩
  · have e := act_3 (S := S) k
    rw [e.2] at hp
    refine (c_M_act3 (p := p) hRl k (by omega) a).mono (bO_mono fun ws' h => ?_)
    refine ⟨_, _, _, _, _, _, _, ?_, by rw [e.1]; exact h⟩
    rw [e.1]
    have eo : ∀ v, v ≠ sNv S + 1 → lvS (ac3 S) v = lvS S v := fun v hv => lenV_c rfl (fup_n hv)
    have en : lvS (ac3 S) (sNv S + 1) = 0 := by
      show lenV (sDr S) (fup (sCt S) (sNv S + 1) 0) (sNv S + 1) = 0
      rw [lenV_f (dr_nv hok (by omega)), fup_s]
    refine ⟨h1, h2, h3, fun v hv => ?_, fun v i hv hi => ?_, fun v hv => ?_⟩
    · have hv' : v ≤ sNv S + 1 := hv
      by_cases z : v = sNv S + 1
      · rw [z, pk_us, en]
      · rw [pk_un z, eo v z]; exact h4 v (by omega)
    · have hv' : v ≤ sNv S + 1 := hv
      by_cases z : v = sNv S + 1
      · rw [z, en] at hi; exact absurd hi (Nat.not_lt_zero _)
      · rw [eo v z] at hi; exact h5 v i (by omega) hi
    · have hv' : v ≤ sNv S + 1 := hv
      show upd dr (sNv S + 1) (bB false) v = bB (sDr S v)
      by_cases z : v = sNv S + 1
      · rw [z, pk_us, dr_nv hok (by omega)]
      · rw [pk_un z]; exact h6 v (by omega)
  · have e := act_4 (S := S) k
    rw [e.2] at hp
    refine (c_M_act4 (p := p) hRl k (by omega) (by omega)).mono (bO_mono fun ws' h => ?_)
    refine ⟨_, _, _, _, _, _, _, ?_, by rw [e.1]; exact h⟩
    rw [e.1]
    have eo : ∀ v, v ≠ lg (p + 1) → lvS (ac4 (lg (p + 1)) S) v = lvS S v := fun v hv => lenV_c (if_neg hv) rfl
    have en : lvS (ac4 (lg (p + 1)) S) (lg (p + 1)) = 0 := lenV_t (by omega) (if_pos rfl)
    refine ⟨h1, h2, h3, fun v hv => ?_, fun v i hv hi => ?_, fun v hv => ?_⟩
    · by_cases z : v = lg (p + 1)
      · rw [z, pk_us, en]
      · rw [pk_un z, eo v z]; exact h4 v hv
    · by_cases z : v = lg (p + 1)
      · rw [z, en] at hi; exact absurd hi (Nat.not_lt_zero _)
      · rw [eo v z] at hi; exact h5 v i hv hi
    · show upd dr (lg (p + 1)) (bB true) v = bB (if v = lg (p + 1) then true else sDr S v)
      by_cases z : v = lg (p + 1)
      · rw [z, pk_us, if_pos rfl]
      · rw [pk_un z, if_neg z]; exact h6 v hv
  · have e := act_5 (S := S) k
    rw [e.2] at hp
    refine (c_M_act5 (p := p) hRl k (by omega) hok h3 h4 h5).mono (bO_mono fun ws' h => ?_)
    obtain ⟨tr1, q1, q2⟩ := h
    refine ⟨_, _, _, _, _, _, _, ?_, by rw [e.1]; exact q2⟩
    rw [e.1]
    exact ⟨h1, h2, q1, h4, h5, h6⟩
theorem d_M_walk_0 : decode b_M_walk 0 = .ok (.aload_n 0, 1) := by decide +kernel
theorem d_M_walk_1 : decode b_M_walk 1 = .ok (.iconst 0, 1) := by decide +kernel
theorem d_M_walk_2 : decode b_M_walk 2 = .ok (.putfield 57, 3) := by decide +kernel
theorem d_M_walk_5 : decode b_M_walk 5 = .ok (.aload_n 0, 1) := by decide +kernel
theorem d_M_walk_6 : decode b_M_walk 6 = .ok (.iconst 0, 1) := by decide +kernel
theorem d_M_walk_7 : decode b_M_walk 7 = .ok (.putfield 51, 3) := by decide +kernel
theorem d_M_walk_10 : decode b_M_walk 10 = .ok (.aload_n 0, 1) := by decide +kernel
theorem d_M_walk_11 : decode b_M_walk 11 = .ok (.getfield 35, 3) := by decide +kernel
theorem d_M_walk_14 : decode b_M_walk 14 = .ok (.iconst 0, 1) := by decide +kernel
theorem d_M_walk_15 : decode b_M_walk 15 = .ok (.iconst 0, 1) := by decide +kernel
theorem d_M_walk_16 : decode b_M_walk 16 = .ok (.iastore, 1) := by decide +kernel
theorem d_M_walk_17 : decode b_M_walk 17 = .ok (.aload_n 0, 1) := by decide +kernel
theorem d_M_walk_18 : decode b_M_walk 18 = .ok (.getfield 41, 3) := by decide +kernel
theorem d_M_walk_21 : decode b_M_walk 21 = .ok (.iconst 0, 1) := by decide +kernel
theorem d_M_walk_22 : decode b_M_walk 22 = .ok (.iconst 0, 1) := by decide +kernel
theorem d_M_walk_23 : decode b_M_walk 23 = .ok (.bastore, 1) := by decide +kernel
theorem d_M_walk_24 : decode b_M_walk 24 = .ok (.aload_n 0, 1) := by decide +kernel
theorem d_M_walk_25 : decode b_M_walk 25 = .ok (.iconst 0, 1) := by decide +kernel
theorem d_M_walk_26 : decode b_M_walk 26 = .ok (.putfield 74, 3) := by decide +kernel
theorem d_M_walk_29 : decode b_M_walk 29 = .ok (.aload_n 0, 1) := by decide +kernel
theorem d_M_walk_30 : decode b_M_walk 30 = .ok (.getfield 74, 3) := by decide +kernel
theorem d_M_walk_33 : decode b_M_walk 33 = .ok (.aload_n 0, 1) := by decide +kernel
theorem d_M_walk_34 : decode b_M_walk 34 = .ok (.getfield 64, 3) := by decide +kernel
theorem d_M_walk_37 : decode b_M_walk 37 = .ok (.if_icmp .ge 51, 3) := by decide +kernel
theorem d_M_walk_40 : decode b_M_walk 40 = .ok (.aload_n 0, 1) := by decide +kernel
theorem d_M_walk_41 : decode b_M_walk 41 = .ok (.getfield 74, 3) := by decide +kernel
theorem d_M_walk_44 : decode b_M_walk 44 = .ok (.aload_n 0, 1) := by decide +kernel
theorem d_M_walk_45 : decode b_M_walk 45 = .ok (.aload_n 0, 1) := by decide +kernel
theorem d_M_walk_46 : decode b_M_walk 46 = .ok (.getfield 74, 3) := by decide +kernel
theorem d_M_walk_49 : decode b_M_walk 49 = .ok (.invokevirtual 77, 3) := by decide +kernel
theorem d_M_walk_52 : decode b_M_walk 52 = .ok (.iadd, 1) := by decide +kernel
theorem d_M_walk_53 : decode b_M_walk 53 = .ok (.aload_n 0, 1) := by decide +kernel
theorem d_M_walk_54 : decode b_M_walk 54 = .ok (.getfield 64, 3) := by decide +kernel
theorem d_M_walk_57 : decode b_M_walk 57 = .ok (.if_icmp .gt 31, 3) := by decide +kernel
theorem d_M_walk_60 : decode b_M_walk 60 = .ok (.aload_n 0, 1) := by decide +kernel
theorem d_M_walk_61 : decode b_M_walk 61 = .ok (.aload_n 0, 1) := by decide +kernel
theorem d_M_walk_62 : decode b_M_walk 62 = .ok (.getfield 74, 3) := by decide +kernel
theorem d_M_walk_65 : decode b_M_walk 65 = .ok (.invokevirtual 81, 3) := by decide +kernel
theorem d_M_walk_68 : decode b_M_walk 68 = .ok (.aload_n 0, 1) := by decide +kernel
theorem d_M_walk_69 : decode b_M_walk 69 = .ok (.dup, 1) := by decide +kernel
theorem d_M_walk_70 : decode b_M_walk 70 = .ok (.getfield 74, 3) := by decide +kernel
theorem d_M_walk_73 : decode b_M_walk 73 = .ok (.aload_n 0, 1) := by decide +kernel
theorem d_M_walk_74 : decode b_M_walk 74 = .ok (.aload_n 0, 1) := by decide +kernel
theorem d_M_walk_75 : decode b_M_walk 75 = .ok (.getfield 74, 3) := by decide +kernel
theorem d_M_walk_78 : decode b_M_walk 78 = .ok (.invokevirtual 77, 3) := by decide +kernel
theorem d_M_walk_81 : decode b_M_walk 81 = .ok (.iadd, 1) := by decide +kernel
theorem d_M_walk_82 : decode b_M_walk 82 = .ok (.putfield 74, 3) := by decide +kernel
theorem d_M_walk_85 : decode b_M_walk 85 = .ok (.goto (-56), 3) := by decide +kernel
theorem d_M_walk_88 : decode b_M_walk 88 = .ok (.return_, 1) := by decide +kernel
set_option maxRecDepth 20000 in
set_option maxHeartbeats 4000000 in
theorem c_M_walk {D : va_G} {cI cZ cJ : ClassId} {am : Nat → Nat} {mp : Nat} {th : Nat} {cr : Bool} {fd : Nat} {fo : Nat → Int32} {n : Nat} {lo : Nat → Int32} {np : Nat} {ps : Nat → Int32} {pb : Nat → Int32} {ip : Nat → Int32} {nb : Nat} {fr : Nat → Int32} {ln : Nat → Int32} {tr : Nat → Int32} {nv : Nat} {ct : Nat → Int32} {rw : Nat → Int32} {dr : Nat → Int32} {en : Nat} {sw : Nat} {rest : va_W} {lg : Nat → Nat} {r : Nat} (hRl : lg_R lo n lg) (hcut : cutOk lg n r) : bC D bcl (tys3 cI cZ cJ) y_M_walk ({ frames := 3, cells := 0, slots := 0, locals := 67 }) (wM am cI cZ mp th cr fd fo n lo np ps pb ip nb fr ln tr nv ct rw dr en sw rest) [.ref (am 0)] (bO (fun ws9 => ∃ (fr1 ln1 tr1 ct1 rw1 dr1 : Nat → Int32) (sw1 : Nat), dvR (chS lg r).2 fr1 ln1 tr1 ct1 rw1 dr1 ∧ ws9 = wM am cI cZ mp th cr fd fo n lo np ps pb ip (sNb (chS lg r).2) fr1 ln1 tr1 (sNv (chS lg r).2) ct1 rw1 dr1 ((chS lg r).1) sw1 rest) bno) := by
  have h4 := hRl.1
  have hcn := hcut.2.1
  refine bC.of (by decide) m_M_walk.1 (Nat.le_of_ble_eq_true rfl) ?_
  intro Γ G E0
  show bV D bcl Γ 1 (wM am cI cZ mp th cr fd fo n lo np ps pb ip nb fr ln tr nv ct rw dr en sw rest) 0 0 0 [(0, .ref (am 0))] []
  have loop : ∀ (d : Nat) (q : Nat) (frz lnz trz ctz rwz drz : Nat → Int32) (swz : Nat), d + q = r → dvR (chS lg q).2 frz lnz trz ctz rwz drz → bV D bcl Γ 1 (wM am cI cZ mp th cr fd fo n lo np ps pb ip (sNb (chS lg q).2) frz lnz trz (sNv (chS lg q).2) ctz rwz drz ((chS lg q).1) swz rest) 0 0 29 [(0, .ref (am 0))] [] := by
    intro d
    induction d with
    | zero =>
      intro q frz lnz trz ctz rwz drz swz hd hdv
      have hqr := chS_le (lg := lg) (q := q) r (by omega)
      refine bV.aload_n G d_M_walk_29 rfl ?_
      refine bV.getf G cl_M 0 19 rfl (by decide) bw_564 rfl d_M_walk_30 ?_
      refine bV.aload_n G d_M_walk_33 rfl ?_
      refine bV.getf G cl_M 0 5 rfl (by decide) bw_550 rfl d_M_walk_34 ?_
      refine bV.icmp_geN (tgt := 88) G d_M_walk_37 (by decide) (by omega) (by omega) (fun c37 => ?_) (fun c37 => ?_)
      · exact bV.vretO G E0 rfl (by decide) (by decide) d_M_walk_88 ⟨frz, lnz, trz, ctz, rwz, drz, swz, by obtain rfl : r = q := (by omega); exact hdv, by obtain rfl : r = q := (by omega); rfl⟩
      · have c37 := Nat.lt_of_not_le c37
        refine bV.aload_n G d_M_walk_40 rfl ?_
        refine bV.getf G cl_M 0 19 rfl (by decide) bw_564 rfl d_M_walk_41 ?_
        refine bV.aload_n G d_M_walk_44 rfl ?_
        refine bV.aload_n G d_M_walk_45 rfl ?_
        refine bV.getf G cl_M 0 19 rfl (by decide) bw_564 rfl d_M_walk_46 ?_
        refine bV.callVi G m_M_sizeOf bw_627 bw_s28 bw_625 (c_M_sizeOf (p := (chS lg q).1) hRl (by omega)) 0 rfl rfl rfl rfl rfl ⟨by decide, by decide⟩ ⟨by decide, by decide⟩ (Nat.le_of_ble_eq_true rfl) d_M_walk_49 (fun x9 ws9 h9 => ?_)
        obtain ⟨rfl, h9e⟩ := h9
        rw [h9e]
        try dsimp only
        have hsz49 := szM_le (n := n) (p := (chS lg q).1) hRl.2.2
        refine bV.iaddN G d_M_walk_52 ?_
        refine bV.aload_n G d_M_walk_53 rfl ?_
        refine bV.getf G cl_M 0 5 rfl (by decide) bw_550 rfl d_M_walk_54 ?_
        refine bV.icmp_gtN (tgt := 88) G d_M_walk_57 (by decide) (by omega) (by omega) (fun c57 => ?_) (fun c57 => ?_)
        · exact bV.vretO G E0 rfl (by decide) (by decide) d_M_walk_88 ⟨frz, lnz, trz, ctz, rwz, drz, swz, by obtain rfl : r = q := (by omega); exact hdv, by obtain rfl : r = q := (by omega); rfl⟩
        · exfalso; obtain rfl : r = q := (by omega); have z := szM_cut c37 (hcut.2.2.resolve_left (by omega)); omega
    | succ d ih =>
      intro q frz lnz trz ctz rwz drz swz hd hdv
      have hqr := chS_le (lg := lg) (q := q) r (by omega)
      refine bV.aload_n G d_M_walk_29 rfl ?_
      refine bV.getf G cl_M 0 19 rfl (by decide) bw_564 rfl d_M_walk_30 ?_
      refine bV.aload_n G d_M_walk_33 rfl ?_
      refine bV.getf G cl_M 0 5 rfl (by decide) bw_550 rfl d_M_walk_34 ?_
      refine bV.icmp_geN (tgt := 88) G d_M_walk_37 (by decide) (by omega) (by omega) (fun c37 => ?_) (fun c37 => ?_)
      · exfalso; omega
      · have hpq := chS_le (lg := lg) (q := q + 1) r (by omega)
        have hpq : (chS lg q).1 + rlen lg (chS lg q).1 ≤ n := by have z : (chS lg (q + 1)).1 = (chS lg q).1 + rlen lg (chS lg q).1 := rfl; omega
        have hszf := szM_full hpq
        have hrp := rlen_pos (lg := lg) (p := (chS lg q).1)
        refine bV.aload_n G d_M_walk_40 rfl ?_
        refine bV.getf G cl_M 0 19 rfl (by decide) bw_564 rfl d_M_walk_41 ?_
        refine bV.aload_n G d_M_walk_44 rfl ?_
        refine bV.aload_n G d_M_walk_45 rfl ?_
        refine bV.getf G cl_M 0 19 rfl (by decide) bw_564 rfl d_M_walk_46 ?_
        refine bV.callVi G m_M_sizeOf bw_627 bw_s28 bw_625 (c_M_sizeOf (p := (chS lg q).1) hRl (by omega)) 0 rfl rfl rfl rfl rfl ⟨by decide, by decide⟩ ⟨by decide, by decide⟩ (Nat.le_of_ble_eq_true rfl) d_M_walk_49 (fun x9 ws9 h9 => ?_)
        obtain ⟨rfl, h9e⟩ := h9
        rw [h9e]
        try dsimp only
        have hsz49 := szM_le (n := n) (p := (chS lg q).1) hRl.2.2
        refine bV.iaddN G d_M_walk_52 ?_
        refine bV.aload_n G d_M_walk_53 rfl ?_
        refine bV.getf G cl_M 0 5 rfl (by decide) bw_550 rfl d_M_walk_54 ?_
        refine bV.icmp_gtN (tgt := 88) G d_M_walk_57 (by decide) (by omega) (by omega) (fun c57 => ?_) (fun c57 => ?_)
        · exfalso; omega
        · refine bV.aload_n G d_M_walk_60 rfl ?_
          refine bV.aload_n G d_M_walk_61 rfl ?_
          refine bV.getf G cl_M 0 19 rfl (by decide) bw_564 rfl d_M_walk_62 ?_
          refine bV.callVo G m_M_act bw_631 bw_s29 bw_629 (c_M_act hRl (okS_ch q (fun q0 z => hcut.1 q0 (by omega))) (hcut.1 q (by omega)) hpq hdv) 0 rfl rfl rfl rfl rfl ⟨by decide, by decide⟩ ⟨by decide, by decide⟩ (Nat.le_of_ble_eq_true rfl) d_M_walk_65 (fun ws9 h9 => ?_)
          obtain ⟨fr1, ln1, tr1, ct1, rw1, dr1, sw1, hdv1, h9e⟩ := h9
          rw [h9e]
          refine bV.aload_n G d_M_walk_68 rfl ?_
          refine bV.dup G d_M_walk_69 rfl ?_
          refine bV.getf G cl_M 0 19 rfl (by decide) bw_564 rfl d_M_walk_70 ?_
          refine bV.aload_n G d_M_walk_73 rfl ?_
          refine bV.aload_n G d_M_walk_74 rfl ?_
          refine bV.getf G cl_M 0 19 rfl (by decide) bw_564 rfl d_M_walk_75 ?_
          refine bV.callVi G m_M_sizeOf bw_627 bw_s28 bw_625 (c_M_sizeOf (p := (chS lg q).1) hRl (by omega)) 0 rfl rfl rfl rfl rfl ⟨by decide, by decide⟩ ⟨by decide, by decide⟩ (Nat.le_of_ble_eq_true rfl) d_M_walk_78 (fun x9 ws9 h9 => ?_)
          obtain ⟨rfl, h9e⟩ := h9
          rw [h9e]
          try dsimp only
          have hsz78 := szM_le (n := n) (p := (chS lg q).1) hRl.2.2
          refine bV.iaddN G d_M_walk_81 ?_
          refine bV.putf G (ws' := (wM am cI cZ mp th cr fd fo n lo np ps pb ip (sNb (chS lg (q + 1)).2) fr1 ln1 tr1 (sNv (chS lg (q + 1)).2) ct1 rw1 dr1 (((chS lg q).1) + (szM lg n ((chS lg q).1))) sw1 rest)) cl_M 0 19 rfl (by decide) bw_564 rfl rfl rfl (Nat.le_of_ble_eq_true rfl) d_M_walk_82 rfl ?_
          refine bV.goto (tgt := 29) G d_M_walk_85 (by decide) ?_
          rw [hszf]
          exact ih (q + 1) fr1 ln1 tr1 ct1 rw1 dr1 sw1 (by omega) hdv1
  refine bV.aload_n G d_M_walk_0 rfl ?_
  refine bV.iconst (v := nI 0) G d_M_walk_1 (by decide) ?_
  refine bV.putf G (ws' := (wM am cI cZ mp th cr fd fo n lo np ps pb ip 0 fr ln tr nv ct rw dr en sw rest)) cl_M 0 11 rfl (by decide) bw_556 rfl rfl rfl (Nat.le_of_ble_eq_true rfl) d_M_walk_2 rfl ?_
  refine bV.aload_n G d_M_walk_5 rfl ?_
  refine bV.iconst (v := nI 0) G d_M_walk_6 (by decide) ?_
  refine bV.putf G (ws' := (wM am cI cZ mp th cr fd fo n lo np ps pb ip 0 fr ln tr 0 ct rw dr en sw rest)) cl_M 0 15 rfl (by decide) bw_560 rfl rfl rfl (Nat.le_of_ble_eq_true rfl) d_M_walk_7 rfl ?_
  refine bV.aload_n G d_M_walk_10 rfl ?_
  refine bV.getf G cl_M 0 16 rfl (by decide) bw_561 rfl d_M_walk_11 ?_
  refine bV.iconst (v := nI 0) G d_M_walk_14 (by decide) ?_
  refine bV.iconst (v := nI 0) G d_M_walk_15 (by decide) ?_
  refine bV.iastoreN G (ws' := (wM am cI cZ mp th cr fd fo n lo np ps pb ip 0 fr ln tr 0 (upd ct 0 ((nI (0)))) rw dr en sw rest)) 9 0 rfl rfl (by omega) (by omega) d_M_walk_16 rfl ?_
  refine bV.aload_n G d_M_walk_17 rfl ?_
  refine bV.getf G cl_M 0 18 rfl (by decide) bw_563 rfl d_M_walk_18 ?_
  refine bV.iconst (v := nI 0) G d_M_walk_21 (by decide) ?_
  refine bV.iconst (v := nI 0) G d_M_walk_22 (by decide) ?_
  refine bV.topi (x := nI 0) (y := bB false) (by decide) ?_
  refine bV.zastoreN G (ws' := (wM am cI cZ mp th cr fd fo n lo np ps pb ip 0 fr ln tr 0 (upd ct 0 ((nI (0)))) rw (upd dr 0 ((bB (false)))) en sw rest)) 11 1 rfl rfl (by omega) (by omega) d_M_walk_23 rfl ?_
  refine bV.aload_n G d_M_walk_24 rfl ?_
  refine bV.iconst (v := nI 0) G d_M_walk_25 (by decide) ?_
  refine bV.putf G (ws' := (wM am cI cZ mp th cr fd fo n lo np ps pb ip 0 fr ln tr 0 (upd ct 0 ((nI (0)))) rw (upd dr 0 ((bB (false)))) 0 sw rest)) cl_M 0 19 rfl (by decide) bw_564 rfl rfl rfl (Nat.le_of_ble_eq_true rfl) d_M_walk_26 rfl ?_
  exact loop r 0 fr ln tr (upd ct 0 (nI 0)) rw (upd dr 0 (bB false)) sw (by omega) ⟨fun b hb => absurd hb (Nat.not_lt_zero _), fun b hb => absurd hb (Nat.not_lt_zero _), fun b hb => absurd hb (Nat.not_lt_zero _), fun v hv => by obtain rfl : v = 0 := Nat.le_zero.mp hv; exact pk_us, fun v k hv hk => absurd (Nat.lt_of_lt_of_le hk (lenV_le _ _ _)) (Nat.not_lt_zero _), fun v hv => by obtain rfl : v = 0 := Nat.le_zero.mp hv; exact pk_us⟩
theorem d_M_isReady_0 : decode b_M_isReady 0 = .ok (.aload_n 0, 1) := by decide +kernel
theorem d_M_isReady_1 : decode b_M_isReady 1 = .ok (.aload_n 0, 1) := by decide +kernel
theorem d_M_isReady_2 : decode b_M_isReady 2 = .ok (.getfield 84, 3) := by decide +kernel
theorem d_M_isReady_5 : decode b_M_isReady 5 = .ok (.ifCond .eq 7, 3) := by decide +kernel
theorem d_M_isReady_8 : decode b_M_isReady 8 = .ok (.iload_n 1, 1) := by decide +kernel
theorem d_M_isReady_9 : decode b_M_isReady 9 = .ok (.goto 4, 3) := by decide +kernel
theorem d_M_isReady_12 : decode b_M_isReady 12 = .ok (.iconst 0, 1) := by decide +kernel
theorem d_M_isReady_13 : decode b_M_isReady 13 = .ok (.putfield 48, 3) := by decide +kernel
theorem d_M_isReady_16 : decode b_M_isReady 16 = .ok (.aload_n 0, 1) := by decide +kernel
theorem d_M_isReady_17 : decode b_M_isReady 17 = .ok (.getfield 84, 3) := by decide +kernel
theorem d_M_isReady_20 : decode b_M_isReady 20 = .ok (.ifCond .ne 7, 3) := by decide +kernel
theorem d_M_isReady_23 : decode b_M_isReady 23 = .ok (.aload_n 0, 1) := by decide +kernel
theorem d_M_isReady_24 : decode b_M_isReady 24 = .ok (.invokevirtual 88, 3) := by decide +kernel
theorem d_M_isReady_27 : decode b_M_isReady 27 = .ok (.aload_n 0, 1) := by decide +kernel
theorem d_M_isReady_28 : decode b_M_isReady 28 = .ok (.getfield 84, 3) := by decide +kernel
theorem d_M_isReady_31 : decode b_M_isReady 31 = .ok (.ifCond .ne 7, 3) := by decide +kernel
theorem d_M_isReady_34 : decode b_M_isReady 34 = .ok (.iconst 1, 1) := by decide +kernel
theorem d_M_isReady_35 : decode b_M_isReady 35 = .ok (.goto 4, 3) := by decide +kernel
theorem d_M_isReady_38 : decode b_M_isReady 38 = .ok (.iconst 0, 1) := by decide +kernel
theorem d_M_isReady_39 : decode b_M_isReady 39 = .ok (.ireturn, 1) := by decide +kernel
set_option maxRecDepth 20000 in
set_option maxHeartbeats 4000000 in
theorem c_M_isReady {D : va_G} {cI cZ cJ : ClassId} {am : Nat → Nat} {mp : Nat} {th : Nat} {cr : Bool} {fd : Nat} {fo : Nat → Int32} {n : Nat} {lo : Nat → Int32} {np : Nat} {ps : Nat → Int32} {pb : Nat → Int32} {ip : Nat → Int32} {nb : Nat} {fr : Nat → Int32} {ln : Nat → Int32} {tr : Nat → Int32} {nv : Nat} {ct : Nat → Int32} {rw : Nat → Int32} {dr : Nat → Int32} {en : Nat} {sw : Nat} {rest : va_W} {lg : Nat → Nat} {S : aS} {f : Nat} (hRl : lg_R lo n lg) (hok : cr = false → logOk lg n S) : bC D bcl (tys3 cI cZ cJ) y_M_isReady ({ frames := 4, cells := 0, slots := 0, locals := 87 }) (wM am cI cZ mp th cr fd fo n lo np ps pb ip nb fr ln tr nv ct rw dr en sw rest) [.ref (am 0), .int (nI (f))] (bI (fun x ws9 => (cr = true ∧ x = bB false ∧ ws9 = wM am cI cZ mp f cr fd fo n lo np ps pb ip nb fr ln tr nv ct rw dr en sw rest) ∨ (cr = false ∧ x = bB true ∧ ∃ (fr1 ln1 tr1 ct1 rw1 dr1 : Nat → Int32) (sw1 : Nat), dvR S fr1 ln1 tr1 ct1 rw1 dr1 ∧ ws9 = wM am cI cZ mp 0 cr fd fo n lo np ps pb ip (sNb S) fr1 ln1 tr1 (sNv S) ct1 rw1 dr1 n sw1 rest)) bno) := by
  refine bC.of (by decide) m_M_isReady.1 (Nat.le_of_ble_eq_true rfl) ?_
  intro Γ G E0
  show bV D bcl Γ 2 (wM am cI cZ mp th cr fd fo n lo np ps pb ip nb fr ln tr nv ct rw dr en sw rest) 0 0 0 [(0, .ref (am 0)), (1, .int (nI (f)))] []
  refine bV.aload_n G d_M_isReady_0 rfl ?_
  refine bV.aload_n G d_M_isReady_1 rfl ?_
  refine bV.getf G cl_M 0 2 rfl (by decide) bw_547 rfl d_M_isReady_2 ?_
  refine bV.if_eqB (tgt := 12) G d_M_isReady_5 (by decide) (fun c5 => ?_) (fun c5 => ?_)
  · refine bV.iconst (v := nI 0) G d_M_isReady_12 (by decide) ?_
    refine bV.putf G (ws' := (wM am cI cZ mp 0 cr fd fo n lo np ps pb ip nb fr ln tr nv ct rw dr en sw rest)) cl_M 0 0 rfl (by decide) bw_545 rfl rfl rfl (Nat.le_of_ble_eq_true rfl) d_M_isReady_13 rfl ?_
    refine bV.aload_n G d_M_isReady_16 rfl ?_
    refine bV.getf G cl_M 0 2 rfl (by decide) bw_547 rfl d_M_isReady_17 ?_
    refine bV.if_neB (tgt := 27) G d_M_isReady_20 (by decide) (fun c20 => ?_) (fun c20 => ?_)
    · exact absurd (c5.symm.trans c20) (by decide)
    · obtain ⟨r, hrc⟩ := hok c5
      refine bV.aload_n G d_M_isReady_23 rfl ?_
      refine bV.callVo G m_M_walk bw_623 bw_s27 bw_621 (c_M_walk (r := r) hRl ⟨hrc.1, by rw [hrc.2]; exact Nat.le_refl _, Or.inl (by rw [hrc.2])⟩) 0 rfl rfl rfl rfl rfl ⟨by decide, by decide⟩ ⟨by decide, by decide⟩ (Nat.le_of_ble_eq_true rfl) d_M_isReady_24 (fun ws9 h9 => ?_)
      obtain ⟨fr1, ln1, tr1, ct1, rw1, dr1, sw1, hdv1, h9e⟩ := h9
      rw [hrc.2] at hdv1 h9e
      rw [h9e]
      refine bV.aload_n G d_M_isReady_27 rfl ?_
      refine bV.getf G cl_M 0 2 rfl (by decide) bw_547 rfl d_M_isReady_28 ?_
      refine bV.if_neB (tgt := 38) G d_M_isReady_31 (by decide) (fun c31 => ?_) (fun c31 => ?_)
      · exact absurd (c5.symm.trans c31) (by decide)
      · refine bV.iconst (v := nI 1) G d_M_isReady_34 (by decide) ?_
        refine bV.goto (tgt := 39) G d_M_isReady_35 (by decide) ?_
        refine bV.topi (x := nI 1) (y := bB true) (by decide) ?_
        exact bV.iretI G E0 rfl (bB_n _) (by decide) (by decide) d_M_isReady_39 (Or.inr ⟨c5, rfl, fr1, ln1, tr1, ct1, rw1, dr1, sw1, hdv1, rfl⟩)
  · refine bV.iload_n G d_M_isReady_8 rfl ?_
    refine bV.goto (tgt := 13) G d_M_isReady_9 (by decide) ?_
    refine bV.putf G (ws' := (wM am cI cZ mp f cr fd fo n lo np ps pb ip nb fr ln tr nv ct rw dr en sw rest)) cl_M 0 0 rfl (by decide) bw_545 rfl rfl rfl (Nat.le_of_ble_eq_true rfl) d_M_isReady_13 rfl ?_
    refine bV.aload_n G d_M_isReady_16 rfl ?_
    refine bV.getf G cl_M 0 2 rfl (by decide) bw_547 rfl d_M_isReady_17 ?_
    refine bV.if_neB (tgt := 27) G d_M_isReady_20 (by decide) (fun c20 => ?_) (fun c20 => ?_)
    · refine bV.aload_n G d_M_isReady_27 rfl ?_
      refine bV.getf G cl_M 0 2 rfl (by decide) bw_547 rfl d_M_isReady_28 ?_
      refine bV.if_neB (tgt := 38) G d_M_isReady_31 (by decide) (fun c31 => ?_) (fun c31 => ?_)
      · refine bV.iconst (v := nI 0) G d_M_isReady_38 (by decide) ?_
        refine bV.topi (x := nI 0) (y := bB false) (by decide) ?_
        exact bV.iretI G E0 rfl (bB_n _) (by decide) (by decide) d_M_isReady_39 (Or.inl ⟨c5, rfl, rfl⟩)
      · exact absurd (c5.symm.trans c31) (by decide)
    · exact absurd (c5.symm.trans c20) (by decide)
end
