section
-- ===== PART A: goes FIRST, ahead of the names: the tables' words, and 'selects' of the private methods out of them =====
/-- a private method of a class that the tables say can be made, by its rows of tables_1 -/
def lw_okq (q : MethodName × Nat) : Prop := (q.1.cls ≠ "java/lang/invoke/MethodHandle" ∧ q.1.cls ≠ "java/lang/invoke/VarHandle") ∧ Cond.instantiable q.1.cls q.2 ∈ tables_1 ∧ Cond.privateMethod q.1 ∈ tables_1 ∧ Cond.instanceMethod q.1 ∈ tables_1
theorem lw_p0 : lw_okq (⟨"PageRescue$Log", "addRecord", "(IJ)V"⟩, 9) := ⟨⟨by decide +kernel, by decide +kernel⟩, List.mem_of_getElem? (i := 61) (by decide +kernel), List.mem_of_getElem? (i := 220) (by decide +kernel), List.mem_of_getElem? (i := 221) (by decide +kernel)⟩
theorem lw_p1 : lw_okq (⟨"PageRescue$Backups", "startOfLatest", "()I"⟩, 5) := ⟨⟨by decide +kernel, by decide +kernel⟩, List.mem_of_getElem? (i := 105) (by decide +kernel), List.mem_of_getElem? (i := 344) (by decide +kernel), List.mem_of_getElem? (i := 345) (by decide +kernel)⟩
theorem lw_p2 : lw_okq (⟨"PageRescue$Backups", "finish", "(LPageRescue$Backup;LPageRescue$Log;)V"⟩, 5) := ⟨⟨by decide +kernel, by decide +kernel⟩, List.mem_of_getElem? (i := 105) (by decide +kernel), List.mem_of_getElem? (i := 374) (by decide +kernel), List.mem_of_getElem? (i := 375) (by decide +kernel)⟩
theorem lw_p3 : lw_okq (⟨"java/util/ArrayList", "add", "(Ljava/lang/Object;[Ljava/lang/Object;I)V"⟩, 3) := ⟨⟨by decide +kernel, by decide +kernel⟩, List.mem_of_getElem? (i := 111) (by decide +kernel), List.mem_of_getElem? (i := 383) (by decide +kernel), List.mem_of_getElem? (i := 384) (by decide +kernel)⟩
theorem lw_p4 : lw_okq (⟨"java/util/ArrayList", "grow", "()[Ljava/lang/Object;"⟩, 3) := ⟨⟨by decide +kernel, by decide +kernel⟩, List.mem_of_getElem? (i := 111) (by decide +kernel), List.mem_of_getElem? (i := 387) (by decide +kernel), List.mem_of_getElem? (i := 388) (by decide +kernel)⟩
theorem lw_p5 : lw_okq (⟨"java/util/ArrayList", "grow", "(I)[Ljava/lang/Object;"⟩, 3) := ⟨⟨by decide +kernel, by decide +kernel⟩, List.mem_of_getElem? (i := 111) (by decide +kernel), List.mem_of_getElem? (i := 391) (by decide +kernel), List.mem_of_getElem? (i := 392) (by decide +kernel)⟩
theorem lw_p6 : lw_okq (⟨"PageRescue$Backups", "dropOldest", "()V"⟩, 5) := ⟨⟨by decide +kernel, by decide +kernel⟩, List.mem_of_getElem? (i := 105) (by decide +kernel), List.mem_of_getElem? (i := 430) (by decide +kernel), List.mem_of_getElem? (i := 431) (by decide +kernel)⟩
theorem lw_p7 : lw_okq (⟨"PageRescue", "recover", "()I"⟩, 7) := ⟨⟨by decide +kernel, by decide +kernel⟩, List.mem_of_getElem? (i := 18) (by decide +kernel), List.mem_of_getElem? (i := 447) (by decide +kernel), List.mem_of_getElem? (i := 448) (by decide +kernel)⟩
theorem lw_p8 : lw_okq (⟨"PageRescueModel", "room", "()I"⟩, 21) := ⟨⟨by decide +kernel, by decide +kernel⟩, List.mem_of_getElem? (i := 558) (by decide +kernel), List.mem_of_getElem? (i := 639) (by decide +kernel), List.mem_of_getElem? (i := 640) (by decide +kernel)⟩
theorem lw_p9 : lw_okq (⟨"PageRescueModel", "log", "(IIZ)I"⟩, 21) := ⟨⟨by decide +kernel, by decide +kernel⟩, List.mem_of_getElem? (i := 558) (by decide +kernel), List.mem_of_getElem? (i := 643) (by decide +kernel), List.mem_of_getElem? (i := 644) (by decide +kernel)⟩
theorem lw_p10 : lw_okq (⟨"PageRescueModel", "commits", "()I"⟩, 21) := ⟨⟨by decide +kernel, by decide +kernel⟩, List.mem_of_getElem? (i := 558) (by decide +kernel), List.mem_of_getElem? (i := 651) (by decide +kernel), List.mem_of_getElem? (i := 652) (by decide +kernel)⟩
theorem lw_p11 : lw_okq (⟨"PageRescueModel", "undo", "()V"⟩, 21) := ⟨⟨by decide +kernel, by decide +kernel⟩, List.mem_of_getElem? (i := 558) (by decide +kernel), List.mem_of_getElem? (i := 659) (by decide +kernel), List.mem_of_getElem? (i := 660) (by decide +kernel)⟩
theorem lw_p12 : lw_okq (⟨"PageRescueModel", "after", "(II)J"⟩, 21) := ⟨⟨by decide +kernel, by decide +kernel⟩, List.mem_of_getElem? (i := 558) (by decide +kernel), List.mem_of_getElem? (i := 663) (by decide +kernel), List.mem_of_getElem? (i := 664) (by decide +kernel)⟩
theorem lw_p13 : lw_okq (⟨"PageRescueModel", "numberOf", "(I)I"⟩, 21) := ⟨⟨by decide +kernel, by decide +kernel⟩, List.mem_of_getElem? (i := 558) (by decide +kernel), List.mem_of_getElem? (i := 677) (by decide +kernel), List.mem_of_getElem? (i := 678) (by decide +kernel)⟩
theorem lw_p14 : lw_okq (⟨"PageRescueModel", "fulls", "()I"⟩, 21) := ⟨⟨by decide +kernel, by decide +kernel⟩, List.mem_of_getElem? (i := 558) (by decide +kernel), List.mem_of_getElem? (i := 689) (by decide +kernel), List.mem_of_getElem? (i := 690) (by decide +kernel)⟩
theorem lw_p15 : lw_okq (⟨"PageRescueModel", "finish", "()V"⟩, 21) := ⟨⟨by decide +kernel, by decide +kernel⟩, List.mem_of_getElem? (i := 558) (by decide +kernel), List.mem_of_getElem? (i := 697) (by decide +kernel), List.mem_of_getElem? (i := 698) (by decide +kernel)⟩
def lw_privs_1 : List (MethodName × Nat) := [(⟨"PageRescue$Log", "addRecord", "(IJ)V"⟩, 9), (⟨"PageRescue$Backups", "startOfLatest", "()I"⟩, 5), (⟨"PageRescue$Backups", "finish", "(LPageRescue$Backup;LPageRescue$Log;)V"⟩, 5), (⟨"java/util/ArrayList", "add", "(Ljava/lang/Object;[Ljava/lang/Object;I)V"⟩, 3), (⟨"java/util/ArrayList", "grow", "()[Ljava/lang/Object;"⟩, 3), (⟨"java/util/ArrayList", "grow", "(I)[Ljava/lang/Object;"⟩, 3), (⟨"PageRescue$Backups", "dropOldest", "()V"⟩, 5), (⟨"PageRescue", "recover", "()I"⟩, 7), (⟨"PageRescueModel", "room", "()I"⟩, 21), (⟨"PageRescueModel", "log", "(IIZ)I"⟩, 21), (⟨"PageRescueModel", "commits", "()I"⟩, 21), (⟨"PageRescueModel", "undo", "()V"⟩, 21), (⟨"PageRescueModel", "after", "(II)J"⟩, 21), (⟨"PageRescueModel", "numberOf", "(I)I"⟩, 21), (⟨"PageRescueModel", "fulls", "()I"⟩, 21), (⟨"PageRescueModel", "finish", "()V"⟩, 21)]
theorem lw_r1 : ∀ q ∈ lw_privs_1, lw_okq q := List.forall_mem_cons.mpr ⟨lw_p0, List.forall_mem_cons.mpr ⟨lw_p1, List.forall_mem_cons.mpr ⟨lw_p2, List.forall_mem_cons.mpr ⟨lw_p3, List.forall_mem_cons.mpr ⟨lw_p4, List.forall_mem_cons.mpr ⟨lw_p5, List.forall_mem_cons.mpr ⟨lw_p6, List.forall_mem_cons.mpr ⟨lw_p7, List.forall_mem_cons.mpr ⟨lw_p8, List.forall_mem_cons.mpr ⟨lw_p9, List.forall_mem_cons.mpr ⟨lw_p10, List.forall_mem_cons.mpr ⟨lw_p11, List.forall_mem_cons.mpr ⟨lw_p12, List.forall_mem_cons.mpr ⟨lw_p13, List.forall_mem_cons.mpr ⟨lw_p14, List.forall_mem_cons.mpr ⟨lw_p15, fun _ h => absurd h List.not_mem_nil⟩⟩⟩⟩⟩⟩⟩⟩⟩⟩⟩⟩⟩⟩⟩⟩
theorem lw_p16 : lw_okq (⟨"PageRescueModel", "firstFull", "(I)I"⟩, 21) := ⟨⟨by decide +kernel, by decide +kernel⟩, List.mem_of_getElem? (i := 558) (by decide +kernel), List.mem_of_getElem? (i := 701) (by decide +kernel), List.mem_of_getElem? (i := 702) (by decide +kernel)⟩
theorem lw_p17 : lw_okq (⟨"PageRescueModel", "recover", "()I"⟩, 21) := ⟨⟨by decide +kernel, by decide +kernel⟩, List.mem_of_getElem? (i := 558) (by decide +kernel), List.mem_of_getElem? (i := 709) (by decide +kernel), List.mem_of_getElem? (i := 710) (by decide +kernel)⟩
theorem lw_p18 : lw_okq (⟨"PageRescueModel", "best", "(I)I"⟩, 21) := ⟨⟨by decide +kernel, by decide +kernel⟩, List.mem_of_getElem? (i := 558) (by decide +kernel), List.mem_of_getElem? (i := 713) (by decide +kernel), List.mem_of_getElem? (i := 714) (by decide +kernel)⟩
theorem lw_p19 : lw_okq (⟨"PageRescueModel", "changesOn", "(III)I"⟩, 21) := ⟨⟨by decide +kernel, by decide +kernel⟩, List.mem_of_getElem? (i := 558) (by decide +kernel), List.mem_of_getElem? (i := 717) (by decide +kernel), List.mem_of_getElem? (i := 718) (by decide +kernel)⟩
theorem lw_p20 : lw_okq (⟨"PageRescueModel", "commitRecord", "(I)I"⟩, 21) := ⟨⟨by decide +kernel, by decide +kernel⟩, List.mem_of_getElem? (i := 558) (by decide +kernel), List.mem_of_getElem? (i := 729) (by decide +kernel), List.mem_of_getElem? (i := 730) (by decide +kernel)⟩
theorem lw_p21 : lw_okq (⟨"PageRescueModel", "begun", "()I"⟩, 21) := ⟨⟨by decide +kernel, by decide +kernel⟩, List.mem_of_getElem? (i := 558) (by decide +kernel), List.mem_of_getElem? (i := 749) (by decide +kernel), List.mem_of_getElem? (i := 750) (by decide +kernel)⟩
def lw_privs_2 : List (MethodName × Nat) := [(⟨"PageRescueModel", "firstFull", "(I)I"⟩, 21), (⟨"PageRescueModel", "recover", "()I"⟩, 21), (⟨"PageRescueModel", "best", "(I)I"⟩, 21), (⟨"PageRescueModel", "changesOn", "(III)I"⟩, 21), (⟨"PageRescueModel", "commitRecord", "(I)I"⟩, 21), (⟨"PageRescueModel", "begun", "()I"⟩, 21)]
theorem lw_r2 : ∀ q ∈ lw_privs_2, lw_okq q := List.forall_mem_cons.mpr ⟨lw_p16, List.forall_mem_cons.mpr ⟨lw_p17, List.forall_mem_cons.mpr ⟨lw_p18, List.forall_mem_cons.mpr ⟨lw_p19, List.forall_mem_cons.mpr ⟨lw_p20, List.forall_mem_cons.mpr ⟨lw_p21, fun _ h => absurd h List.not_mem_nil⟩⟩⟩⟩⟩⟩
def lw_privs : List (MethodName × Nat) := lw_privs_1 ++ (lw_privs_2)
def lw_tbl : List Cond := k2_sels lw_privs ++ tables_1
theorem lw_privs_ok : ∀ q ∈ lw_privs, lw_okq q := by
  show ∀ q ∈ lw_privs_1 ++ (lw_privs_2), lw_okq q
  exact List.forall_mem_append.mpr ⟨lw_r1, lw_r2⟩
end
section
/-! names: classes, fields in the order of their slots, methods: written by program -/
def R_Pr : String := "PageRescue"
def R_Lg : String := "PageRescue$Log"
def R_Tx : String := "PageRescue$Transaction"
def R_Dk : String := "PageRescue$Disk"
def R_Bk : String := "PageRescue$Backup"
def R_Bs : String := "PageRescue$Backups"
def R_Md : String := "PageRescueModel"
def R_Lw : String := "PageRescueLaw"
def R_Al : String := "java/util/ArrayList"
def R_Ab : String := "java/util/AbstractList"
def R_Ac : String := "java/util/AbstractCollection"
def R_Ar : String := "java/util/Arrays"
def R_Ob : String := "java/util/Objects"
def R_Pq : String := "jdk/internal/util/Preconditions"
def R_As : String := "jdk/internal/util/ArraysSupport"
def R_Mt : String := "java/lang/Math"
def R_Oj : String := "java/lang/Object"
def R_Sy : String := "java/lang/System"
def F_Pr : u_T := fun k => match k with
  | 0 => ("PageRescue", "log", "LPageRescue$Log;", true)
  | 1 => ("PageRescue", "transaction", "LPageRescue$Transaction;", true)
  | 2 => ("PageRescue", "disk", "LPageRescue$Disk;", true)
  | 3 => ("PageRescue", "backups", "LPageRescue$Backups;", true)
  | 4 => ("PageRescue", "scratch", "[J", true)
  | 5 => ("PageRescue", "scratchOpen", "Z", false)
  | _ => ("PageRescue", "redoFrom", "[I", true)
def t_Pr : Nat → FieldType := fun k => match k with
  | 0 => (.object "PageRescue$Log")
  | 1 => (.object "PageRescue$Transaction")
  | 2 => (.object "PageRescue$Disk")
  | 3 => (.object "PageRescue$Backups")
  | 4 => (.array .long)
  | 5 => .boolean
  | _ => (.array .int)
theorem n_Pr : ∀ a, a < 7 → ∀ b, b < 7 → a ≠ b → (F_Pr a).2.1 ≠ (F_Pr b).2.1 := by decide +kernel
theorem t_Pr_ok : ∀ k, k < 7 → parseFieldDescriptor (F_Pr k).2.2.1 = some (t_Pr k) := by decide +kernel
def F_Lg : u_T := fun k => match k with
  | 0 => ("PageRescue$Log", "size", "I", true)
  | 1 => ("PageRescue$Log", "keys", "[I", true)
  | 2 => ("PageRescue$Log", "contents", "[J", true)
  | 3 => ("PageRescue$Log", "table", "[J", true)
  | 4 => ("PageRescue$Log", "pageNumbers", "[I", true)
  | 5 => ("PageRescue$Log", "latest", "I", false)
  | 6 => ("PageRescue$Log", "commits", "I", false)
  | 7 => ("PageRescue$Log", "archived", "I", false)
  | _ => ("PageRescue$Log", "purged", "I", false)
def t_Lg : Nat → FieldType := fun k => match k with
  | 0 => .int
  | 1 => (.array .int)
  | 2 => (.array .long)
  | 3 => (.array .long)
  | 4 => (.array .int)
  | 5 => .int
  | 6 => .int
  | 7 => .int
  | _ => .int
theorem n_Lg : ∀ a, a < 9 → ∀ b, b < 9 → a ≠ b → (F_Lg a).2.1 ≠ (F_Lg b).2.1 := by decide +kernel
theorem t_Lg_ok : ∀ k, k < 9 → parseFieldDescriptor (F_Lg k).2.2.1 = some (t_Lg k) := by decide +kernel
def F_Tx : u_T := fun k => match k with
  | 0 => ("PageRescue$Transaction", "keys", "[I", true)
  | 1 => ("PageRescue$Transaction", "replaced", "[J", true)
  | 2 => ("PageRescue$Transaction", "changes", "I", false)
  | _ => ("PageRescue$Transaction", "isOpen", "Z", false)
def t_Tx : Nat → FieldType := fun k => match k with
  | 0 => (.array .int)
  | 1 => (.array .long)
  | 2 => .int
  | _ => .boolean
theorem n_Tx : ∀ a, a < 4 → ∀ b, b < 4 → a ≠ b → (F_Tx a).2.1 ≠ (F_Tx b).2.1 := by decide +kernel
theorem t_Tx_ok : ∀ k, k < 4 → parseFieldDescriptor (F_Tx k).2.2.1 = some (t_Tx k) := by decide +kernel
def F_Dk : u_T := fun k => match k with
  | 0 => ("PageRescue$Disk", "numbers", "[I", true)
  | _ => ("PageRescue$Disk", "torn", "[Z", true)
def t_Dk : Nat → FieldType := fun k => match k with
  | 0 => (.array .int)
  | _ => (.array .boolean)
theorem n_Dk : ∀ a, a < 2 → ∀ b, b < 2 → a ≠ b → (F_Dk a).2.1 ≠ (F_Dk b).2.1 := by decide +kernel
theorem t_Dk_ok : ∀ k, k < 2 → parseFieldDescriptor (F_Dk k).2.2.1 = some (t_Dk k) := by decide +kernel
def F_Bk : u_T := fun k => match k with
  | 0 => ("PageRescue$Backup", "full", "Z", true)
  | 1 => ("PageRescue$Backup", "start", "I", true)
  | 2 => ("PageRescue$Backup", "imageNumbers", "[I", true)
  | 3 => ("PageRescue$Backup", "end", "I", false)
  | 4 => ("PageRescue$Backup", "images", "I", false)
  | _ => ("PageRescue$Backup", "visited", "I", false)
def t_Bk : Nat → FieldType := fun k => match k with
  | 0 => .boolean
  | 1 => .int
  | 2 => (.array .int)
  | 3 => .int
  | 4 => .int
  | _ => .int
theorem n_Bk : ∀ a, a < 6 → ∀ b, b < 6 → a ≠ b → (F_Bk a).2.1 ≠ (F_Bk b).2.1 := by decide +kernel
theorem t_Bk_ok : ∀ k, k < 6 → parseFieldDescriptor (F_Bk k).2.2.1 = some (t_Bk k) := by decide +kernel
def F_Bs : u_T := fun k => match k with
  | 0 => ("PageRescue$Backups", "keep", "I", true)
  | 1 => ("PageRescue$Backups", "finished", "Ljava/util/ArrayList;", true)
  | 2 => ("PageRescue$Backups", "running", "LPageRescue$Backup;", false)
  | 3 => ("PageRescue$Backups", "oldestKept", "I", false)
  | _ => ("PageRescue$Backups", "fullKept", "I", false)
def t_Bs : Nat → FieldType := fun k => match k with
  | 0 => .int
  | 1 => (.object "java/util/ArrayList")
  | 2 => (.object "PageRescue$Backup")
  | 3 => .int
  | _ => .int
theorem n_Bs : ∀ a, a < 5 → ∀ b, b < 5 → a ≠ b → (F_Bs a).2.1 ≠ (F_Bs b).2.1 := by decide +kernel
theorem t_Bs_ok : ∀ k, k < 5 → parseFieldDescriptor (F_Bs k).2.2.1 = some (t_Bs k) := by decide +kernel
def F_Md : u_T := fun k => match k with
  | 0 => ("PageRescueModel", "size", "I", true)
  | 1 => ("PageRescueModel", "keep", "I", true)
  | 2 => ("PageRescueModel", "key", "[I", true)
  | 3 => ("PageRescueModel", "value", "[I", true)
  | 4 => ("PageRescueModel", "has", "[Z", true)
  | 5 => ("PageRescueModel", "records", "I", false)
  | 6 => ("PageRescueModel", "open", "Z", false)
  | 7 => ("PageRescueModel", "mine", "[I", true)
  | 8 => ("PageRescueModel", "changes", "I", false)
  | 9 => ("PageRescueModel", "archived", "I", false)
  | 10 => ("PageRescueModel", "purged", "I", false)
  | 11 => ("PageRescueModel", "image", "[I", true)
  | 12 => ("PageRescueModel", "readable", "[Z", true)
  | 13 => ("PageRescueModel", "kept", "[Z", true)
  | 14 => ("PageRescueModel", "full", "[Z", true)
  | 15 => ("PageRescueModel", "start", "[I", true)
  | 16 => ("PageRescueModel", "end", "[I", true)
  | 17 => ("PageRescueModel", "copy", "[I", true)
  | 18 => ("PageRescueModel", "backups", "I", false)
  | 19 => ("PageRescueModel", "left", "I", false)
  | _ => ("PageRescueModel", "scratch", "I", false)
def t_Md : Nat → FieldType := fun k => match k with
  | 0 => .int
  | 1 => .int
  | 2 => (.array .int)
  | 3 => (.array .int)
  | 4 => (.array .boolean)
  | 5 => .int
  | 6 => .boolean
  | 7 => (.array .int)
  | 8 => .int
  | 9 => .int
  | 10 => .int
  | 11 => (.array .int)
  | 12 => (.array .boolean)
  | 13 => (.array .boolean)
  | 14 => (.array .boolean)
  | 15 => (.array .int)
  | 16 => (.array .int)
  | 17 => (.array .int)
  | 18 => .int
  | 19 => .int
  | _ => .int
theorem n_Md : ∀ a, a < 21 → ∀ b, b < 21 → a ≠ b → (F_Md a).2.1 ≠ (F_Md b).2.1 := by decide +kernel
theorem t_Md_ok : ∀ k, k < 21 → parseFieldDescriptor (F_Md k).2.2.1 = some (t_Md k) := by decide +kernel
def F_Al : u_T := fun k => match k with
  | 0 => ("java/util/ArrayList", "elementData", "[Ljava/lang/Object;", false)
  | 1 => ("java/util/ArrayList", "size", "I", false)
  | _ => ("java/util/AbstractList", "modCount", "I", false)
def t_Al : Nat → FieldType := fun k => match k with
  | 0 => (.array (.object "java/lang/Object"))
  | 1 => .int
  | _ => .int
theorem n_Al : ∀ a, a < 3 → ∀ b, b < 3 → a ≠ b → (F_Al a).2.1 ≠ (F_Al b).2.1 := by decide +kernel
theorem t_Al_ok : ∀ k, k < 3 → parseFieldDescriptor (F_Al k).2.2.1 = some (t_Al k) := by decide +kernel
abbrev vwCl : List vw_C := [(R_Pr, F_Pr, 7), (R_Lg, F_Lg, 9), (R_Tx, F_Tx, 4), (R_Dk, F_Dk, 2), (R_Bk, F_Bk, 6), (R_Bs, F_Bs, 5), (R_Md, F_Md, 21), (R_Al, F_Al, 3)]
def zws : List Cond := lw_tbl.filter goodWord
theorem zws_t (i : Nat) {w : Cond} (h : tables_1[i]? = some w) (hg : goodWord w = true) : w ∈ zws := List.mem_filter.mpr ⟨List.mem_append_right _ (List.mem_of_getElem? h), hg⟩
theorem zws_p (i : Nat) {w : Cond} (h : (k2_sels lw_privs)[i]? = some w) (hg : goodWord w = true) : w ∈ zws := List.mem_filter.mpr ⟨List.mem_append_left _ (List.mem_of_getElem? h), hg⟩
theorem zGood : GoodIn zws zws := fun w h => ⟨h, good_of_word (List.mem_filter.mp h).2⟩
theorem zgI {y : MethodName} {b : ByteArray} {n : Nat} {r : Option FieldType} (h : Cond.code y b n r ∈ zws) : GoodIn zws (Cond.code y b n r :: zws) := fun w hw => (List.mem_cons.mp hw).elim (fun e => e ▸ zGood _ h) (fun h2 => zGood w h2)
theorem zgL {l : List Cond} {ws : List Cond} (hl : ∀ w ∈ l, w ∈ zws) (h : GoodIn zws ws) : GoodIn zws (l ++ ws) := fun w hw => (List.mem_append.mp hw).elim (fun h1 => zGood w (hl w h1)) (h w)
theorem zgV {own C : String} {idx : Nat} {y : MethodName} {b : ByteArray} {n : Nat} {r : Option FieldType} (h1 : Cond.methodLink own idx y ∈ zws) (h2 : Cond.instanceMethod y ∈ zws) (h3 : Cond.selects C y y ∈ zws) (h4 : Cond.initialized C ∈ zws) (h : Cond.code y b n r ∈ zws) : GoodIn zws (wsV own idx C y (Cond.code y b n r :: zws)) := by
  refine zgL (fun w hw => ?_) (zgI h)
  simp only [List.mem_cons, List.not_mem_nil, or_false] at hw
  rcases hw with rfl | rfl | rfl | rfl <;> assumption
theorem zgS {own : String} {idx : Nat} {y : MethodName} {b : ByteArray} {n : Nat} {r : Option FieldType} (h1 : Cond.methodLink own idx y ∈ zws) (h2 : Cond.static y ∈ zws) (h4 : Cond.initialized y.cls ∈ zws) (h : Cond.code y b n r ∈ zws) : GoodIn zws (va_wsS own idx y (Cond.code y b n r :: zws)) := by
  refine zgL (fun w hw => ?_) (zgI h)
  simp only [List.mem_cons, List.not_mem_nil, or_false] at hw
  rcases hw with rfl | rfl | rfl <;> assumption
abbrev b_Pr_init : ByteArray := prog_1_method_1_code
def y_Pr_init : MethodName := ⟨R_Pr, "<init>", "(II)V"⟩
def w_Pr_init : List Cond := .code y_Pr_init b_Pr_init 3 none :: zws
abbrev b_Oj_init : ByteArray := object_method_1_code
def y_Oj_init : MethodName := ⟨R_Oj, "<init>", "()V"⟩
def w_Oj_init : List Cond := .code y_Oj_init b_Oj_init 1 none :: zws
abbrev b_Tx_init : ByteArray := prog_6_method_1_code
def y_Tx_init : MethodName := ⟨R_Tx, "<init>", "()V"⟩
def w_Tx_init : List Cond := .code y_Tx_init b_Tx_init 1 none :: zws
abbrev b_Dk_init : ByteArray := prog_4_method_1_code
def y_Dk_init : MethodName := ⟨R_Dk, "<init>", "()V"⟩
def w_Dk_init : List Cond := .code y_Dk_init b_Dk_init 1 none :: zws
abbrev b_Lg_init : ByteArray := prog_5_method_1_code
def y_Lg_init : MethodName := ⟨R_Lg, "<init>", "(I)V"⟩
def w_Lg_init : List Cond := .code y_Lg_init b_Lg_init 2 none :: zws
abbrev b_Ar_fill_2J : ByteArray := prog_17_method_101_code
def y_Ar_fill_2J : MethodName := ⟨R_Ar, "fill", "([JJ)V"⟩
def w_Ar_fill_2J : List Cond := .code y_Ar_fill_2J b_Ar_fill_2J 5 none :: zws
abbrev b_Bs_init : ByteArray := prog_3_method_1_code
def y_Bs_init : MethodName := ⟨R_Bs, "<init>", "(I)V"⟩
def w_Bs_init : List Cond := .code y_Bs_init b_Bs_init 2 none :: zws
abbrev b_Al_init : ByteArray := prog_16_method_2_code
def y_Al_init : MethodName := ⟨R_Al, "<init>", "()V"⟩
def w_Al_init : List Cond := .code y_Al_init b_Al_init 1 none :: zws
abbrev b_Ab_init : ByteArray := prog_15_method_1_code
def y_Ab_init : MethodName := ⟨R_Ab, "<init>", "()V"⟩
def w_Ab_init : List Cond := .code y_Ab_init b_Ab_init 1 none :: zws
abbrev b_Ac_init : ByteArray := prog_14_method_1_code
def y_Ac_init : MethodName := ⟨R_Ac, "<init>", "()V"⟩
def w_Ac_init : List Cond := .code y_Ac_init b_Ac_init 1 none :: zws
abbrev b_Pr_begin : ByteArray := prog_1_method_2_code
def y_Pr_begin : MethodName := ⟨R_Pr, "begin", "()I"⟩
def w_Pr_begin : List Cond := .code y_Pr_begin b_Pr_begin 1 (some .int) :: zws
abbrev b_Tx_isOpen : ByteArray := prog_6_method_2_code
def y_Tx_isOpen : MethodName := ⟨R_Tx, "isOpen", "()Z"⟩
def w_Tx_isOpen : List Cond := .code y_Tx_isOpen b_Tx_isOpen 1 (some .boolean) :: zws
abbrev b_Tx_open : ByteArray := prog_6_method_5_code
def y_Tx_open : MethodName := ⟨R_Tx, "open", "()V"⟩
def w_Tx_open : List Cond := .code y_Tx_open b_Tx_open 1 none :: zws
abbrev b_Pr_put : ByteArray := prog_1_method_3_code
def y_Pr_put : MethodName := ⟨R_Pr, "put", "(IIZ)I"⟩
def w_Pr_put : List Cond := .code y_Pr_put b_Pr_put 5 (some .int) :: zws
abbrev b_Pr_isKey : ByteArray := prog_1_method_19_code
def y_Pr_isKey : MethodName := ⟨R_Pr, "isKey", "(I)Z"⟩
def w_Pr_isKey : List Cond := .code y_Pr_isKey b_Pr_isKey 1 (some .boolean) :: zws
abbrev b_Tx_takesAChange : ByteArray := prog_6_method_4_code
def y_Tx_takesAChange : MethodName := ⟨R_Tx, "takesAChange", "()Z"⟩
def w_Tx_takesAChange : List Cond := .code y_Tx_takesAChange b_Tx_takesAChange 1 (some .boolean) :: zws
abbrev b_Tx_changes : ByteArray := prog_6_method_3_code
def y_Tx_changes : MethodName := ⟨R_Tx, "changes", "()I"⟩
def w_Tx_changes : List Cond := .code y_Tx_changes b_Tx_changes 1 (some .int) :: zws
abbrev b_Lg_left : ByteArray := prog_5_method_8_code
def y_Lg_left : MethodName := ⟨R_Lg, "left", "()I"⟩
def w_Lg_left : List Cond := .code y_Lg_left b_Lg_left 1 (some .int) :: zws
abbrev b_Lg_contentOf : ByteArray := prog_5_method_6_code
def y_Lg_contentOf : MethodName := ⟨R_Lg, "contentOf", "(I)J"⟩
def w_Lg_contentOf : List Cond := .code y_Lg_contentOf b_Lg_contentOf 2 (some .long) :: zws
abbrev b_Tx_remember : ByteArray := prog_6_method_7_code
def y_Tx_remember : MethodName := ⟨R_Tx, "remember", "(IJ)V"⟩
def w_Tx_remember : List Cond := .code y_Tx_remember b_Tx_remember 4 none :: zws
abbrev b_Lg_addChange : ByteArray := prog_5_method_10_code
def y_Lg_addChange : MethodName := ⟨R_Lg, "addChange", "(IJ)I"⟩
def w_Lg_addChange : List Cond := .code y_Lg_addChange b_Lg_addChange 4 (some .int) :: zws
abbrev b_Lg_addRecord : ByteArray := prog_5_method_13_code
def y_Lg_addRecord : MethodName := ⟨R_Lg, "addRecord", "(IJ)V"⟩
def w_Lg_addRecord : List Cond := .code y_Lg_addRecord b_Lg_addRecord 4 none :: zws
abbrev b_Pr_commit : ByteArray := prog_1_method_4_code
def y_Pr_commit : MethodName := ⟨R_Pr, "commit", "()I"⟩
def w_Pr_commit : List Cond := .code y_Pr_commit b_Pr_commit 1 (some .int) :: zws
abbrev b_Tx_close : ByteArray := prog_6_method_6_code
def y_Tx_close : MethodName := ⟨R_Tx, "close", "()V"⟩
def w_Tx_close : List Cond := .code y_Tx_close b_Tx_close 1 none :: zws
abbrev b_Lg_addCommit : ByteArray := prog_5_method_11_code
def y_Lg_addCommit : MethodName := ⟨R_Lg, "addCommit", "()I"⟩
def w_Lg_addCommit : List Cond := .code y_Lg_addCommit b_Lg_addCommit 1 (some .int) :: zws
abbrev b_Pr_abort : ByteArray := prog_1_method_5_code
def y_Pr_abort : MethodName := ⟨R_Pr, "abort", "()I"⟩
def w_Pr_abort : List Cond := .code y_Pr_abort b_Pr_abort 2 (some .int) :: zws
abbrev b_Tx_undoIn : ByteArray := prog_6_method_8_code
def y_Tx_undoIn : MethodName := ⟨R_Tx, "undoIn", "(LPageRescue$Log;)V"⟩
def w_Tx_undoIn : List Cond := .code y_Tx_undoIn b_Tx_undoIn 3 none :: zws
abbrev b_Lg_addEnd : ByteArray := prog_5_method_12_code
def y_Lg_addEnd : MethodName := ⟨R_Lg, "addEnd", "()V"⟩
def w_Lg_addEnd : List Cond := .code y_Lg_addEnd b_Lg_addEnd 1 none :: zws
abbrev b_Pr_get : ByteArray := prog_1_method_6_code
def y_Pr_get : MethodName := ⟨R_Pr, "get", "(I)J"⟩
def w_Pr_get : List Cond := .code y_Pr_get b_Pr_get 2 (some .long) :: zws
abbrev b_Pr_write : ByteArray := prog_1_method_7_code
def y_Pr_write : MethodName := ⟨R_Pr, "write", "(I)I"⟩
def w_Pr_write : List Cond := .code y_Pr_write b_Pr_write 3 (some .int) :: zws
abbrev b_Pr_isPage : ByteArray := prog_1_method_20_code
def y_Pr_isPage : MethodName := ⟨R_Pr, "isPage", "(I)Z"⟩
def w_Pr_isPage : List Cond := .code y_Pr_isPage b_Pr_isPage 1 (some .boolean) :: zws
abbrev b_Lg_numberOfPage : ByteArray := prog_5_method_7_code
def y_Lg_numberOfPage : MethodName := ⟨R_Lg, "numberOfPage", "(I)I"⟩
def w_Lg_numberOfPage : List Cond := .code y_Lg_numberOfPage b_Lg_numberOfPage 2 (some .int) :: zws
abbrev b_Dk_store : ByteArray := prog_4_method_2_code
def y_Dk_store : MethodName := ⟨R_Dk, "store", "(II)V"⟩
def w_Dk_store : List Cond := .code y_Dk_store b_Dk_store 3 none :: zws
abbrev b_Pr_archive : ByteArray := prog_1_method_8_code
def y_Pr_archive : MethodName := ⟨R_Pr, "archive", "()I"⟩
def w_Pr_archive : List Cond := .code y_Pr_archive b_Pr_archive 1 (some .int) :: zws
abbrev b_Lg_archiveOldest : ByteArray := prog_5_method_14_code
def y_Lg_archiveOldest : MethodName := ⟨R_Lg, "archiveOldest", "()I"⟩
def w_Lg_archiveOldest : List Cond := .code y_Lg_archiveOldest b_Lg_archiveOldest 1 (some .int) :: zws
abbrev b_Pr_backup : ByteArray := prog_1_method_9_code
def y_Pr_backup : MethodName := ⟨R_Pr, "backup", "(Z)I"⟩
def w_Pr_backup : List Cond := .code y_Pr_backup b_Pr_backup 2 (some .int) :: zws
abbrev b_Lg_latest : ByteArray := prog_5_method_2_code
def y_Lg_latest : MethodName := ⟨R_Lg, "latest", "()I"⟩
def w_Lg_latest : List Cond := .code y_Lg_latest b_Lg_latest 1 (some .int) :: zws
abbrev b_Bs_start : ByteArray := prog_3_method_6_code
def y_Bs_start : MethodName := ⟨R_Bs, "start", "(ZI)I"⟩
def w_Bs_start : List Cond := .code y_Bs_start b_Bs_start 3 (some .int) :: zws
abbrev b_Bs_howMany : ByteArray := prog_3_method_2_code
def y_Bs_howMany : MethodName := ⟨R_Bs, "howMany", "()I"⟩
def w_Bs_howMany : List Cond := .code y_Bs_howMany b_Bs_howMany 1 (some .int) :: zws
abbrev b_Al_size : ByteArray := prog_16_method_8_code
def y_Al_size : MethodName := ⟨R_Al, "size", "()I"⟩
def w_Al_size : List Cond := .code y_Al_size b_Al_size 1 (some .int) :: zws
abbrev b_Bk_init : ByteArray := prog_2_method_1_code
def y_Bk_init : MethodName := ⟨R_Bk, "<init>", "(ZI)V"⟩
def w_Bk_init : List Cond := .code y_Bk_init b_Bk_init 3 none :: zws
abbrev b_Ar_fill_2I : ByteArray := prog_17_method_103_code
def y_Ar_fill_2I : MethodName := ⟨R_Ar, "fill", "([II)V"⟩
def w_Ar_fill_2I : List Cond := .code y_Ar_fill_2I b_Ar_fill_2I 4 none :: zws
abbrev b_Pr_step : ByteArray := prog_1_method_10_code
def y_Pr_step : MethodName := ⟨R_Pr, "step", "(I)I"⟩
def w_Pr_step : List Cond := .code y_Pr_step b_Pr_step 2 (some .int) :: zws
abbrev b_Bs_visit : ByteArray := prog_3_method_8_code
def y_Bs_visit : MethodName := ⟨R_Bs, "visit", "(ILPageRescue$Log;)I"⟩
def w_Bs_visit : List Cond := .code y_Bs_visit b_Bs_visit 6 (some .int) :: zws
abbrev b_Bs_startOfLatest : ByteArray := prog_3_method_9_code
def y_Bs_startOfLatest : MethodName := ⟨R_Bs, "startOfLatest", "()I"⟩
def w_Bs_startOfLatest : List Cond := .code y_Bs_startOfLatest b_Bs_startOfLatest 1 (some .int) :: zws
abbrev b_Al_isEmpty : ByteArray := prog_16_method_9_code
def y_Al_isEmpty : MethodName := ⟨R_Al, "isEmpty", "()Z"⟩
def w_Al_isEmpty : List Cond := .code y_Al_isEmpty b_Al_isEmpty 1 (some .boolean) :: zws
abbrev b_Bs_numbered : ByteArray := prog_3_method_3_code
def y_Bs_numbered : MethodName := ⟨R_Bs, "numbered", "(I)LPageRescue$Backup;"⟩
def w_Bs_numbered : List Cond := .code y_Bs_numbered b_Bs_numbered 2 (some (.object "PageRescue$Backup")) :: zws
abbrev b_Al_get : ByteArray := prog_16_method_20_code
def y_Al_get : MethodName := ⟨R_Al, "get", "(I)Ljava/lang/Object;"⟩
def w_Al_get : List Cond := .code y_Al_get b_Al_get 2 (some (.object "java/lang/Object")) :: zws
abbrev b_Ob_checkIndex : ByteArray := prog_20_method_17_code
def y_Ob_checkIndex : MethodName := ⟨R_Ob, "checkIndex", "(II)I"⟩
def w_Ob_checkIndex : List Cond := .code y_Ob_checkIndex b_Ob_checkIndex 2 (some .int) :: zws
abbrev b_Pq_checkIndex : ByteArray := prog_24_method_11_code
def y_Pq_checkIndex : MethodName := ⟨R_Pq, "checkIndex", "(IILjava/util/function/BiFunction;)I"⟩
def w_Pq_checkIndex : List Cond := .code y_Pq_checkIndex b_Pq_checkIndex 3 (some .int) :: zws
abbrev b_Al_elementData : ByteArray := prog_16_method_18_code
def y_Al_elementData : MethodName := ⟨R_Al, "elementData", "(I)Ljava/lang/Object;"⟩
def w_Al_elementData : List Cond := .code y_Al_elementData b_Al_elementData 2 (some (.object "java/lang/Object")) :: zws
abbrev b_Bk_takeImage : ByteArray := prog_2_method_2_code
def y_Bk_takeImage : MethodName := ⟨R_Bk, "takeImage", "(II)V"⟩
def w_Bk_takeImage : List Cond := .code y_Bk_takeImage b_Bk_takeImage 3 none :: zws
abbrev b_Bs_finish : ByteArray := prog_3_method_10_code
def y_Bs_finish : MethodName := ⟨R_Bs, "finish", "(LPageRescue$Backup;LPageRescue$Log;)V"⟩
def w_Bs_finish : List Cond := .code y_Bs_finish b_Bs_finish 3 none :: zws
abbrev b_Al_add_1 : ByteArray := prog_16_method_25_code
def y_Al_add_1 : MethodName := ⟨R_Al, "add", "(Ljava/lang/Object;)Z"⟩
def w_Al_add_1 : List Cond := .code y_Al_add_1 b_Al_add_1 2 (some .boolean) :: zws
abbrev b_Al_add_3 : ByteArray := prog_16_method_24_code
def y_Al_add_3 : MethodName := ⟨R_Al, "add", "(Ljava/lang/Object;[Ljava/lang/Object;I)V"⟩
def w_Al_add_3 : List Cond := .code y_Al_add_3 b_Al_add_3 4 none :: zws
abbrev b_Al_grow_0 : ByteArray := prog_16_method_7_code
def y_Al_grow_0 : MethodName := ⟨R_Al, "grow", "()[Ljava/lang/Object;"⟩
def w_Al_grow_0 : List Cond := .code y_Al_grow_0 b_Al_grow_0 1 (some (.array (.object "java/lang/Object"))) :: zws
abbrev b_Al_grow_1 : ByteArray := prog_16_method_6_code
def y_Al_grow_1 : MethodName := ⟨R_Al, "grow", "(I)[Ljava/lang/Object;"⟩
def w_Al_grow_1 : List Cond := .code y_Al_grow_1 b_Al_grow_1 4 (some (.array (.object "java/lang/Object"))) :: zws
abbrev b_As_newLength : ByteArray := prog_23_method_27_code
def y_As_newLength : MethodName := ⟨R_As, "newLength", "(III)I"⟩
def w_As_newLength : List Cond := .code y_As_newLength b_As_newLength 4 (some .int) :: zws
abbrev b_As_hugeLength : ByteArray := prog_23_method_28_code
def y_As_hugeLength : MethodName := ⟨R_As, "hugeLength", "(II)I"⟩
def w_As_hugeLength : List Cond := .code y_As_hugeLength b_As_hugeLength 3 (some .int) :: zws
abbrev b_Ar_copyOf_2 : ByteArray := prog_17_method_119_code
def y_Ar_copyOf_2 : MethodName := ⟨R_Ar, "copyOf", "([Ljava/lang/Object;I)[Ljava/lang/Object;"⟩
def w_Ar_copyOf_2 : List Cond := .code y_Ar_copyOf_2 b_Ar_copyOf_2 2 (some (.array (.object "java/lang/Object"))) :: zws
abbrev b_Ar_copyOf_3 : ByteArray := prog_17_method_120_code
def y_Ar_copyOf_3 : MethodName := ⟨R_Ar, "copyOf", "([Ljava/lang/Object;ILjava/lang/Class;)[Ljava/lang/Object;"⟩
def w_Ar_copyOf_3 : List Cond := .code y_Ar_copyOf_3 b_Ar_copyOf_3 4 (some (.array (.object "java/lang/Object"))) :: zws
abbrev b_Bs_dropOldest : ByteArray := prog_3_method_11_code
def y_Bs_dropOldest : MethodName := ⟨R_Bs, "dropOldest", "()V"⟩
def w_Bs_dropOldest : List Cond := .code y_Bs_dropOldest b_Bs_dropOldest 1 none :: zws
abbrev b_Lg_purgeUpTo : ByteArray := prog_5_method_15_code
def y_Lg_purgeUpTo : MethodName := ⟨R_Lg, "purgeUpTo", "(I)V"⟩
def w_Lg_purgeUpTo : List Cond := .code y_Lg_purgeUpTo b_Lg_purgeUpTo 2 none :: zws
abbrev b_Pr_crash : ByteArray := prog_1_method_11_code
def y_Pr_crash : MethodName := ⟨R_Pr, "crash", "(I)I"⟩
def w_Pr_crash : List Cond := .code y_Pr_crash b_Pr_crash 2 (some .int) :: zws
abbrev b_Dk_tear : ByteArray := prog_4_method_3_code
def y_Dk_tear : MethodName := ⟨R_Dk, "tear", "(I)V"⟩
def w_Dk_tear : List Cond := .code y_Dk_tear b_Dk_tear 2 none :: zws
abbrev b_Pr_recover : ByteArray := prog_1_method_18_code
def y_Pr_recover : MethodName := ⟨R_Pr, "recover", "()I"⟩
def w_Pr_recover : List Cond := .code y_Pr_recover b_Pr_recover 2 (some .int) :: zws
abbrev b_Bs_giveUp : ByteArray := prog_3_method_7_code
def y_Bs_giveUp : MethodName := ⟨R_Bs, "giveUp", "()V"⟩
def w_Bs_giveUp : List Cond := .code y_Bs_giveUp b_Bs_giveUp 1 none :: zws
abbrev b_Dk_bestNumberOf : ByteArray := prog_4_method_6_code
def y_Dk_bestNumberOf : MethodName := ⟨R_Dk, "bestNumberOf", "(I)I"⟩
def w_Dk_bestNumberOf : List Cond := .code y_Dk_bestNumberOf b_Dk_bestNumberOf 2 (some .int) :: zws
abbrev b_Bs_bestNumberOf : ByteArray := prog_3_method_13_code
def y_Bs_bestNumberOf : MethodName := ⟨R_Bs, "bestNumberOf", "(I)I"⟩
def w_Bs_bestNumberOf : List Cond := .code y_Bs_bestNumberOf b_Bs_bestNumberOf 4 (some .int) :: zws
abbrev b_Bk_imageNumberOf : ByteArray := prog_2_method_4_code
def y_Bk_imageNumberOf : MethodName := ⟨R_Bk, "imageNumberOf", "(I)I"⟩
def w_Bk_imageNumberOf : List Cond := .code y_Bk_imageNumberOf b_Bk_imageNumberOf 2 (some .int) :: zws
abbrev b_Lg_changesAbove : ByteArray := prog_5_method_17_code
def y_Lg_changesAbove : MethodName := ⟨R_Lg, "changesAbove", "([II)I"⟩
def w_Lg_changesAbove : List Cond := .code y_Lg_changesAbove b_Lg_changesAbove 6 (some .int) :: zws
abbrev b_Pr_lose : ByteArray := prog_1_method_12_code
def y_Pr_lose : MethodName := ⟨R_Pr, "lose", "()I"⟩
def w_Pr_lose : List Cond := .code y_Pr_lose b_Pr_lose 2 (some .int) :: zws
abbrev b_Pr_restore : ByteArray := prog_1_method_13_code
def y_Pr_restore : MethodName := ⟨R_Pr, "restore", "(I)I"⟩
def w_Pr_restore : List Cond := .code y_Pr_restore b_Pr_restore 5 (some .int) :: zws
abbrev b_Lg_commits : ByteArray := prog_5_method_3_code
def y_Lg_commits : MethodName := ⟨R_Lg, "commits", "()I"⟩
def w_Lg_commits : List Cond := .code y_Lg_commits b_Lg_commits 1 (some .int) :: zws
abbrev b_Lg_recordOfCommit : ByteArray := prog_5_method_16_code
def y_Lg_recordOfCommit : MethodName := ⟨R_Lg, "recordOfCommit", "(I)I"⟩
def w_Lg_recordOfCommit : List Cond := .code y_Lg_recordOfCommit b_Lg_recordOfCommit 4 (some .int) :: zws
abbrev b_Bs_latestEndedBefore : ByteArray := prog_3_method_14_code
def y_Bs_latestEndedBefore : MethodName := ⟨R_Bs, "latestEndedBefore", "(I)I"⟩
def w_Bs_latestEndedBefore : List Cond := .code y_Bs_latestEndedBefore b_Bs_latestEndedBefore 3 (some .int) :: zws
abbrev b_Lg_purged : ByteArray := prog_5_method_5_code
def y_Lg_purged : MethodName := ⟨R_Lg, "purged", "()I"⟩
def w_Lg_purged : List Cond := .code y_Lg_purged b_Lg_purged 1 (some .int) :: zws
abbrev b_Bs_imageInChain : ByteArray := prog_3_method_15_code
def y_Bs_imageInChain : MethodName := ⟨R_Bs, "imageInChain", "(II)I"⟩
def w_Bs_imageInChain : List Cond := .code y_Bs_imageInChain b_Bs_imageInChain 4 (some .int) :: zws
abbrev b_Bk_hasImageOf : ByteArray := prog_2_method_3_code
def y_Bk_hasImageOf : MethodName := ⟨R_Bk, "hasImageOf", "(I)Z"⟩
def w_Bk_hasImageOf : List Cond := .code y_Bk_hasImageOf b_Bk_hasImageOf 2 (some .boolean) :: zws
abbrev b_Lg_tableUpTo : ByteArray := prog_5_method_18_code
def y_Lg_tableUpTo : MethodName := ⟨R_Lg, "tableUpTo", "(I[J)V"⟩
def w_Lg_tableUpTo : List Cond := .code y_Lg_tableUpTo b_Lg_tableUpTo 5 none :: zws
abbrev b_Pr_look : ByteArray := prog_1_method_14_code
def y_Pr_look : MethodName := ⟨R_Pr, "look", "(I)J"⟩
def w_Pr_look : List Cond := .code y_Pr_look b_Pr_look 2 (some .long) :: zws
abbrev b_Pr_page : ByteArray := prog_1_method_15_code
def y_Pr_page : MethodName := ⟨R_Pr, "page", "(II)I"⟩
def w_Pr_page : List Cond := .code y_Pr_page b_Pr_page 3 (some .int) :: zws
abbrev b_Dk_numberOf : ByteArray := prog_4_method_4_code
def y_Dk_numberOf : MethodName := ⟨R_Dk, "numberOf", "(I)I"⟩
def w_Dk_numberOf : List Cond := .code y_Dk_numberOf b_Dk_numberOf 2 (some .int) :: zws
abbrev b_Dk_isReadable : ByteArray := prog_4_method_5_code
def y_Dk_isReadable : MethodName := ⟨R_Dk, "isReadable", "(I)Z"⟩
def w_Dk_isReadable : List Cond := .code y_Dk_isReadable b_Dk_isReadable 2 (some .boolean) :: zws
abbrev b_Bs_keptImagesOf : ByteArray := prog_3_method_12_code
def y_Bs_keptImagesOf : MethodName := ⟨R_Bs, "keptImagesOf", "(I)I"⟩
def w_Bs_keptImagesOf : List Cond := .code y_Bs_keptImagesOf b_Bs_keptImagesOf 4 (some .int) :: zws
abbrev b_Pr_ofBackup : ByteArray := prog_1_method_16_code
def y_Pr_ofBackup : MethodName := ⟨R_Pr, "ofBackup", "(II)I"⟩
def w_Pr_ofBackup : List Cond := .code y_Pr_ofBackup b_Pr_ofBackup 4 (some .int) :: zws
abbrev b_Bs_isKept : ByteArray := prog_3_method_4_code
def y_Bs_isKept : MethodName := ⟨R_Bs, "isKept", "(I)Z"⟩
def w_Bs_isKept : List Cond := .code y_Bs_isKept b_Bs_isKept 2 (some .boolean) :: zws
abbrev b_Pr_count : ByteArray := prog_1_method_17_code
def y_Pr_count : MethodName := ⟨R_Pr, "count", "(I)I"⟩
def w_Pr_count : List Cond := .code y_Pr_count b_Pr_count 2 (some .int) :: zws
abbrev b_Lg_online : ByteArray := prog_5_method_9_code
def y_Lg_online : MethodName := ⟨R_Lg, "online", "()I"⟩
def w_Lg_online : List Cond := .code y_Lg_online b_Lg_online 2 (some .int) :: zws
abbrev b_Lg_archived : ByteArray := prog_5_method_4_code
def y_Lg_archived : MethodName := ⟨R_Lg, "archived", "()I"⟩
def w_Lg_archived : List Cond := .code y_Lg_archived b_Lg_archived 1 (some .int) :: zws
abbrev b_Bs_stillToVisit : ByteArray := prog_3_method_5_code
def y_Bs_stillToVisit : MethodName := ⟨R_Bs, "stillToVisit", "()I"⟩
def w_Bs_stillToVisit : List Cond := .code y_Bs_stillToVisit b_Bs_stillToVisit 1 (some .int) :: zws
abbrev b_Lw_cell : ByteArray := method_2_code
def y_Lw_cell : MethodName := ⟨R_Lw, "cell", "([II)I"⟩
def w_Lw_cell : List Cond := .code y_Lw_cell b_Lw_cell 2 (some .int) :: zws
abbrev b_Md_init : ByteArray := prog_8_method_1_code
def y_Md_init : MethodName := ⟨R_Md, "<init>", "(II)V"⟩
def w_Md_init : List Cond := .code y_Md_init b_Md_init 4 none :: zws
abbrev b_Md_begin : ByteArray := prog_8_method_10_code
def y_Md_begin : MethodName := ⟨R_Md, "begin", "()I"⟩
def w_Md_begin : List Cond := .code y_Md_begin b_Md_begin 1 (some .int) :: zws
abbrev b_Md_put : ByteArray := prog_8_method_11_code
def y_Md_put : MethodName := ⟨R_Md, "put", "(IIZ)I"⟩
def w_Md_put : List Cond := .code y_Md_put b_Md_put 4 (some .int) :: zws
abbrev b_Md_in : ByteArray := prog_8_method_2_code
def y_Md_in : MethodName := ⟨R_Md, "in", "(II)Z"⟩
def w_Md_in : List Cond := .code y_Md_in b_Md_in 2 (some .boolean) :: zws
abbrev b_Md_room : ByteArray := prog_8_method_5_code
def y_Md_room : MethodName := ⟨R_Md, "room", "()I"⟩
def w_Md_room : List Cond := .code y_Md_room b_Md_room 1 (some .int) :: zws
abbrev b_Md_log : ByteArray := prog_8_method_3_code
def y_Md_log : MethodName := ⟨R_Md, "log", "(IIZ)I"⟩
def w_Md_log : List Cond := .code y_Md_log b_Md_log 4 (some .int) :: zws
abbrev b_Md_commit : ByteArray := prog_8_method_13_code
def y_Md_commit : MethodName := ⟨R_Md, "commit", "()I"⟩
def w_Md_commit : List Cond := .code y_Md_commit b_Md_commit 2 (some .int) :: zws
abbrev b_Md_commits : ByteArray := prog_8_method_12_code
def y_Md_commits : MethodName := ⟨R_Md, "commits", "()I"⟩
def w_Md_commits : List Cond := .code y_Md_commits b_Md_commits 3 (some .int) :: zws
abbrev b_Md_abort : ByteArray := prog_8_method_14_code
def y_Md_abort : MethodName := ⟨R_Md, "abort", "()I"⟩
def w_Md_abort : List Cond := .code y_Md_abort b_Md_abort 2 (some .int) :: zws
abbrev b_Md_undo : ByteArray := prog_8_method_9_code
def y_Md_undo : MethodName := ⟨R_Md, "undo", "()V"⟩
def w_Md_undo : List Cond := .code y_Md_undo b_Md_undo 5 none :: zws
abbrev b_Md_after : ByteArray := prog_8_method_4_code
def y_Md_after : MethodName := ⟨R_Md, "after", "(II)J"⟩
def w_Md_after : List Cond := .code y_Md_after b_Md_after 4 (some .long) :: zws
abbrev b_Md_get : ByteArray := prog_8_method_15_code
def y_Md_get : MethodName := ⟨R_Md, "get", "(I)J"⟩
def w_Md_get : List Cond := .code y_Md_get b_Md_get 2 (some .long) :: zws
abbrev b_Md_write : ByteArray := prog_8_method_16_code
def y_Md_write : MethodName := ⟨R_Md, "write", "(I)I"⟩
def w_Md_write : List Cond := .code y_Md_write b_Md_write 2 (some .int) :: zws
abbrev b_Md_numberOf : ByteArray := prog_8_method_7_code
def y_Md_numberOf : MethodName := ⟨R_Md, "numberOf", "(I)I"⟩
def w_Md_numberOf : List Cond := .code y_Md_numberOf b_Md_numberOf 3 (some .int) :: zws
abbrev b_Md_archive : ByteArray := prog_8_method_17_code
def y_Md_archive : MethodName := ⟨R_Md, "archive", "()I"⟩
def w_Md_archive : List Cond := .code y_Md_archive b_Md_archive 1 (some .int) :: zws
abbrev b_Md_backup : ByteArray := prog_8_method_19_code
def y_Md_backup : MethodName := ⟨R_Md, "backup", "(Z)I"⟩
def w_Md_backup : List Cond := .code y_Md_backup b_Md_backup 4 (some .int) :: zws
abbrev b_Md_fulls : ByteArray := prog_8_method_18_code
def y_Md_fulls : MethodName := ⟨R_Md, "fulls", "()I"⟩
def w_Md_fulls : List Cond := .code y_Md_fulls b_Md_fulls 3 (some .int) :: zws
abbrev b_Md_step : ByteArray := prog_8_method_22_code
def y_Md_step : MethodName := ⟨R_Md, "step", "(I)I"⟩
def w_Md_step : List Cond := .code y_Md_step b_Md_step 6 (some .int) :: zws
abbrev b_Md_finish : ByteArray := prog_8_method_21_code
def y_Md_finish : MethodName := ⟨R_Md, "finish", "()V"⟩
def w_Md_finish : List Cond := .code y_Md_finish b_Md_finish 3 none :: zws
abbrev b_Md_firstFull : ByteArray := prog_8_method_20_code
def y_Md_firstFull : MethodName := ⟨R_Md, "firstFull", "(I)I"⟩
def w_Md_firstFull : List Cond := .code y_Md_firstFull b_Md_firstFull 3 (some .int) :: zws
abbrev b_Md_crash : ByteArray := prog_8_method_25_code
def y_Md_crash : MethodName := ⟨R_Md, "crash", "(I)I"⟩
def w_Md_crash : List Cond := .code y_Md_crash b_Md_crash 2 (some .int) :: zws
abbrev b_Md_recover : ByteArray := prog_8_method_24_code
def y_Md_recover : MethodName := ⟨R_Md, "recover", "()I"⟩
def w_Md_recover : List Cond := .code y_Md_recover b_Md_recover 3 (some .int) :: zws
abbrev b_Md_best : ByteArray := prog_8_method_23_code
def y_Md_best : MethodName := ⟨R_Md, "best", "(I)I"⟩
def w_Md_best : List Cond := .code y_Md_best b_Md_best 4 (some .int) :: zws
abbrev b_Md_changesOn : ByteArray := prog_8_method_8_code
def y_Md_changesOn : MethodName := ⟨R_Md, "changesOn", "(III)I"⟩
def w_Md_changesOn : List Cond := .code y_Md_changesOn b_Md_changesOn 6 (some .int) :: zws
abbrev b_Md_lose : ByteArray := prog_8_method_26_code
def y_Md_lose : MethodName := ⟨R_Md, "lose", "()I"⟩
def w_Md_lose : List Cond := .code y_Md_lose b_Md_lose 2 (some .int) :: zws
abbrev b_Md_restore : ByteArray := prog_8_method_28_code
def y_Md_restore : MethodName := ⟨R_Md, "restore", "(I)I"⟩
def w_Md_restore : List Cond := .code y_Md_restore b_Md_restore 9 (some .int) :: zws
abbrev b_Md_commitRecord : ByteArray := prog_8_method_27_code
def y_Md_commitRecord : MethodName := ⟨R_Md, "commitRecord", "(I)I"⟩
def w_Md_commitRecord : List Cond := .code y_Md_commitRecord b_Md_commitRecord 4 (some .int) :: zws
abbrev b_Md_look : ByteArray := prog_8_method_29_code
def y_Md_look : MethodName := ⟨R_Md, "look", "(I)J"⟩
def w_Md_look : List Cond := .code y_Md_look b_Md_look 2 (some .long) :: zws
abbrev b_Md_page : ByteArray := prog_8_method_30_code
def y_Md_page : MethodName := ⟨R_Md, "page", "(II)I"⟩
def w_Md_page : List Cond := .code y_Md_page b_Md_page 5 (some .int) :: zws
abbrev b_Md_ofBackup : ByteArray := prog_8_method_31_code
def y_Md_ofBackup : MethodName := ⟨R_Md, "ofBackup", "(II)I"⟩
def w_Md_ofBackup : List Cond := .code y_Md_ofBackup b_Md_ofBackup 5 (some .int) :: zws
abbrev b_Md_count : ByteArray := prog_8_method_32_code
def y_Md_count : MethodName := ⟨R_Md, "count", "(I)I"⟩
def w_Md_count : List Cond := .code y_Md_count b_Md_count 2 (some .int) :: zws
abbrev b_Md_begun : ByteArray := prog_8_method_6_code
def y_Md_begun : MethodName := ⟨R_Md, "begun", "()I"⟩
def w_Md_begun : List Cond := .code y_Md_begun b_Md_begun 1 (some .int) :: zws
end
section
/-! the tables' words, by their places -/
theorem wd_0 : (Cond.initialized "PageRescueLaw") ∈ zws := zws_t 0 (by decide +kernel) (by decide +kernel)
theorem wd_1 : (Cond.initialized "PageRescue") ∈ zws := zws_t 1 (by decide +kernel) (by decide +kernel)
theorem wd_2 : (Cond.initialized "PageRescue$Transaction") ∈ zws := zws_t 2 (by decide +kernel) (by decide +kernel)
theorem wd_3 : (Cond.initialized "PageRescue$Disk") ∈ zws := zws_t 3 (by decide +kernel) (by decide +kernel)
theorem wd_4 : (Cond.initialized "PageRescue$Log") ∈ zws := zws_t 4 (by decide +kernel) (by decide +kernel)
theorem wd_5 : (Cond.initialized "java/lang/Math") ∈ zws := zws_t 5 (by decide +kernel) (by decide +kernel)
theorem wd_6 : (Cond.initialized "java/util/Arrays") ∈ zws := zws_t 6 (by decide +kernel) (by decide +kernel)
theorem wd_7 : (Cond.initialized "PageRescue$Backups") ∈ zws := zws_t 7 (by decide +kernel) (by decide +kernel)
theorem wd_8 : (Cond.initialized "java/util/AbstractCollection") ∈ zws := zws_t 8 (by decide +kernel) (by decide +kernel)
theorem wd_9 : (Cond.initialized "java/util/AbstractList") ∈ zws := zws_t 9 (by decide +kernel) (by decide +kernel)
theorem wd_10 : (Cond.initialized "java/util/ArrayList") ∈ zws := zws_t 10 (by decide +kernel) (by decide +kernel)
theorem wd_11 : (Cond.initialized "PageRescueModel") ∈ zws := zws_t 11 (by decide +kernel) (by decide +kernel)
theorem wd_12 : (Cond.initialized "PageRescue$Backup") ∈ zws := zws_t 12 (by decide +kernel) (by decide +kernel)
theorem wd_13 : (Cond.initialized "java/util/Objects") ∈ zws := zws_t 13 (by decide +kernel) (by decide +kernel)
theorem wd_14 : (Cond.initialized "jdk/internal/util/Preconditions") ∈ zws := zws_t 14 (by decide +kernel) (by decide +kernel)
theorem wd_15 : (Cond.initialized "jdk/internal/util/ArraysSupport") ∈ zws := zws_t 15 (by decide +kernel) (by decide +kernel)
theorem wd_16 : (Cond.initialized "java/lang/System") ∈ zws := zws_t 16 (by decide +kernel) (by decide +kernel)
theorem wd_17 : (Cond.classLink "PageRescueLaw" (7 : Nat) "PageRescue") ∈ zws := zws_t 17 (by decide +kernel) (by decide +kernel)
theorem wd_18 : (Cond.instantiable "PageRescue" (7 : Nat)) ∈ zws := zws_t 18 (by decide +kernel) (by decide +kernel)
theorem wd_19 : (Cond.methodLink "PageRescueLaw" (15 : Nat) ({ cls := "PageRescue", name := "<init>", desc := "(II)V" } : MethodName)) ∈ zws := zws_t 19 (by decide +kernel) (by decide +kernel)
theorem wd_20 : (Cond.instanceMethod ({ cls := "PageRescue", name := "<init>", desc := "(II)V" } : MethodName)) ∈ zws := zws_t 20 (by decide +kernel) (by decide +kernel)
theorem wd_21 : (Cond.code ({ cls := "PageRescue", name := "<init>", desc := "(II)V" } : MethodName) prog_1_method_1_code (3 : Nat) (Option.none : Option FieldType)) ∈ zws := zws_t 21 (by decide +kernel) (by decide +kernel)
theorem wd_22 : (Cond.methodLink "PageRescue" (1 : Nat) ({ cls := "java/lang/Object", name := "<init>", desc := "()V" } : MethodName)) ∈ zws := zws_t 22 (by decide +kernel) (by decide +kernel)
theorem wd_23 : (Cond.instanceMethod ({ cls := "java/lang/Object", name := "<init>", desc := "()V" } : MethodName)) ∈ zws := zws_t 23 (by decide +kernel) (by decide +kernel)
theorem wd_24 : (Cond.code ({ cls := "java/lang/Object", name := "<init>", desc := "()V" } : MethodName) object_method_1_code (1 : Nat) (Option.none : Option FieldType)) ∈ zws := zws_t 24 (by decide +kernel) (by decide +kernel)
theorem wd_25 : (Cond.classLink "PageRescue" (7 : Nat) "PageRescue$Transaction") ∈ zws := zws_t 25 (by decide +kernel) (by decide +kernel)
theorem wd_26 : (Cond.instantiable "PageRescue$Transaction" (4 : Nat)) ∈ zws := zws_t 26 (by decide +kernel) (by decide +kernel)
theorem wd_28 : (Cond.instanceMethod ({ cls := "PageRescue$Transaction", name := "<init>", desc := "()V" } : MethodName)) ∈ zws := zws_t 28 (by decide +kernel) (by decide +kernel)
theorem wd_29 : (Cond.code ({ cls := "PageRescue$Transaction", name := "<init>", desc := "()V" } : MethodName) prog_6_method_1_code (1 : Nat) (Option.none : Option FieldType)) ∈ zws := zws_t 29 (by decide +kernel) (by decide +kernel)
theorem wd_30 : (Cond.methodLink "PageRescue$Transaction" (3 : Nat) ({ cls := "java/lang/Object", name := "<init>", desc := "()V" } : MethodName)) ∈ zws := zws_t 30 (by decide +kernel) (by decide +kernel)
theorem wd_31 : (Cond.fieldLink "PageRescue$Transaction" (9 : Nat) "PageRescue$Transaction" "keys" "[I") ∈ zws := zws_t 31 (by decide +kernel) (by decide +kernel)
theorem wd_32 : (Cond.fieldLink "PageRescue$Transaction" (15 : Nat) "PageRescue$Transaction" "replaced" "[J") ∈ zws := zws_t 32 (by decide +kernel) (by decide +kernel)
theorem wd_33 : (Cond.fieldLink "PageRescue$Transaction" (19 : Nat) "PageRescue$Transaction" "changes" "I") ∈ zws := zws_t 33 (by decide +kernel) (by decide +kernel)
theorem wd_34 : (Cond.fieldLink "PageRescue$Transaction" (23 : Nat) "PageRescue$Transaction" "isOpen" "Z") ∈ zws := zws_t 34 (by decide +kernel) (by decide +kernel)
theorem wd_44 : (Cond.arrayClass FieldType.int) ∈ zws := zws_t 44 (by decide +kernel) (by decide +kernel)
theorem wd_45 : (Cond.arrayClass FieldType.long) ∈ zws := zws_t 45 (by decide +kernel) (by decide +kernel)
theorem wd_46 : (Cond.classLink "PageRescue" (16 : Nat) "PageRescue$Disk") ∈ zws := zws_t 46 (by decide +kernel) (by decide +kernel)
theorem wd_47 : (Cond.instantiable "PageRescue$Disk" (2 : Nat)) ∈ zws := zws_t 47 (by decide +kernel) (by decide +kernel)
theorem wd_49 : (Cond.instanceMethod ({ cls := "PageRescue$Disk", name := "<init>", desc := "()V" } : MethodName)) ∈ zws := zws_t 49 (by decide +kernel) (by decide +kernel)
theorem wd_50 : (Cond.code ({ cls := "PageRescue$Disk", name := "<init>", desc := "()V" } : MethodName) prog_4_method_1_code (1 : Nat) (Option.none : Option FieldType)) ∈ zws := zws_t 50 (by decide +kernel) (by decide +kernel)
theorem wd_51 : (Cond.methodLink "PageRescue$Disk" (3 : Nat) ({ cls := "java/lang/Object", name := "<init>", desc := "()V" } : MethodName)) ∈ zws := zws_t 51 (by decide +kernel) (by decide +kernel)
theorem wd_52 : (Cond.fieldLink "PageRescue$Disk" (9 : Nat) "PageRescue$Disk" "numbers" "[I") ∈ zws := zws_t 52 (by decide +kernel) (by decide +kernel)
theorem wd_53 : (Cond.fieldLink "PageRescue$Disk" (15 : Nat) "PageRescue$Disk" "torn" "[Z") ∈ zws := zws_t 53 (by decide +kernel) (by decide +kernel)
theorem wd_59 : (Cond.arrayClass FieldType.boolean) ∈ zws := zws_t 59 (by decide +kernel) (by decide +kernel)
theorem wd_60 : (Cond.classLink "PageRescue" (35 : Nat) "PageRescue$Log") ∈ zws := zws_t 60 (by decide +kernel) (by decide +kernel)
theorem wd_61 : (Cond.instantiable "PageRescue$Log" (9 : Nat)) ∈ zws := zws_t 61 (by decide +kernel) (by decide +kernel)
theorem wd_62 : (Cond.methodLink "PageRescue" (37 : Nat) ({ cls := "java/lang/Math", name := "min", desc := "(II)I" } : MethodName)) ∈ zws := zws_t 62 (by decide +kernel) (by decide +kernel)
theorem wd_63 : (Cond.static ({ cls := "java/lang/Math", name := "min", desc := "(II)I" } : MethodName)) ∈ zws := zws_t 63 (by decide +kernel) (by decide +kernel)
theorem wd_64 : (Cond.code ({ cls := "java/lang/Math", name := "min", desc := "(II)I" } : MethodName) prog_12_method_69_code (2 : Nat) (Option.some FieldType.int)) ∈ zws := zws_t 64 (by decide +kernel) (by decide +kernel)
theorem wd_65 : (Cond.methodLink "PageRescue" (43 : Nat) ({ cls := "java/lang/Math", name := "max", desc := "(II)I" } : MethodName)) ∈ zws := zws_t 65 (by decide +kernel) (by decide +kernel)
theorem wd_66 : (Cond.static ({ cls := "java/lang/Math", name := "max", desc := "(II)I" } : MethodName)) ∈ zws := zws_t 66 (by decide +kernel) (by decide +kernel)
theorem wd_67 : (Cond.code ({ cls := "java/lang/Math", name := "max", desc := "(II)I" } : MethodName) prog_12_method_65_code (2 : Nat) (Option.some FieldType.int)) ∈ zws := zws_t 67 (by decide +kernel) (by decide +kernel)
theorem wd_68 : (Cond.methodLink "PageRescue" (46 : Nat) ({ cls := "PageRescue$Log", name := "<init>", desc := "(I)V" } : MethodName)) ∈ zws := zws_t 68 (by decide +kernel) (by decide +kernel)
theorem wd_69 : (Cond.instanceMethod ({ cls := "PageRescue$Log", name := "<init>", desc := "(I)V" } : MethodName)) ∈ zws := zws_t 69 (by decide +kernel) (by decide +kernel)
theorem wd_70 : (Cond.code ({ cls := "PageRescue$Log", name := "<init>", desc := "(I)V" } : MethodName) prog_5_method_1_code (2 : Nat) (Option.none : Option FieldType)) ∈ zws := zws_t 70 (by decide +kernel) (by decide +kernel)
theorem wd_71 : (Cond.methodLink "PageRescue$Log" (3 : Nat) ({ cls := "java/lang/Object", name := "<init>", desc := "()V" } : MethodName)) ∈ zws := zws_t 71 (by decide +kernel) (by decide +kernel)
theorem wd_72 : (Cond.constantLong "PageRescue$Log" (41 : Nat) (1000000000000 : Int64)) ∈ zws := zws_t 72 (by decide +kernel) (by decide +kernel)
theorem wd_73 : (Cond.methodLink "PageRescue$Log" (43 : Nat) ({ cls := "java/util/Arrays", name := "fill", desc := "([JJ)V" } : MethodName)) ∈ zws := zws_t 73 (by decide +kernel) (by decide +kernel)
theorem wd_74 : (Cond.static ({ cls := "java/util/Arrays", name := "fill", desc := "([JJ)V" } : MethodName)) ∈ zws := zws_t 74 (by decide +kernel) (by decide +kernel)
theorem wd_75 : (Cond.code ({ cls := "java/util/Arrays", name := "fill", desc := "([JJ)V" } : MethodName) prog_17_method_101_code (5 : Nat) (Option.none : Option FieldType)) ∈ zws := zws_t 75 (by decide +kernel) (by decide +kernel)
theorem wd_76 : (Cond.fieldLink "PageRescue$Log" (38 : Nat) "PageRescue$Log" "size" "I") ∈ zws := zws_t 76 (by decide +kernel) (by decide +kernel)
theorem wd_77 : (Cond.fieldLink "PageRescue$Log" (9 : Nat) "PageRescue$Log" "keys" "[I") ∈ zws := zws_t 77 (by decide +kernel) (by decide +kernel)
theorem wd_78 : (Cond.fieldLink "PageRescue$Log" (15 : Nat) "PageRescue$Log" "contents" "[J") ∈ zws := zws_t 78 (by decide +kernel) (by decide +kernel)
theorem wd_79 : (Cond.fieldLink "PageRescue$Log" (19 : Nat) "PageRescue$Log" "table" "[J") ∈ zws := zws_t 79 (by decide +kernel) (by decide +kernel)
theorem wd_80 : (Cond.fieldLink "PageRescue$Log" (22 : Nat) "PageRescue$Log" "pageNumbers" "[I") ∈ zws := zws_t 80 (by decide +kernel) (by decide +kernel)
theorem wd_81 : (Cond.fieldLink "PageRescue$Log" (25 : Nat) "PageRescue$Log" "latest" "I") ∈ zws := zws_t 81 (by decide +kernel) (by decide +kernel)
theorem wd_82 : (Cond.fieldLink "PageRescue$Log" (29 : Nat) "PageRescue$Log" "commits" "I") ∈ zws := zws_t 82 (by decide +kernel) (by decide +kernel)
theorem wd_83 : (Cond.fieldLink "PageRescue$Log" (32 : Nat) "PageRescue$Log" "archived" "I") ∈ zws := zws_t 83 (by decide +kernel) (by decide +kernel)
theorem wd_84 : (Cond.fieldLink "PageRescue$Log" (35 : Nat) "PageRescue$Log" "purged" "I") ∈ zws := zws_t 84 (by decide +kernel) (by decide +kernel)
theorem wd_104 : (Cond.classLink "PageRescue" (53 : Nat) "PageRescue$Backups") ∈ zws := zws_t 104 (by decide +kernel) (by decide +kernel)
theorem wd_105 : (Cond.instantiable "PageRescue$Backups" (5 : Nat)) ∈ zws := zws_t 105 (by decide +kernel) (by decide +kernel)
theorem wd_106 : (Cond.methodLink "PageRescue" (55 : Nat) ({ cls := "PageRescue$Backups", name := "<init>", desc := "(I)V" } : MethodName)) ∈ zws := zws_t 106 (by decide +kernel) (by decide +kernel)
theorem wd_107 : (Cond.instanceMethod ({ cls := "PageRescue$Backups", name := "<init>", desc := "(I)V" } : MethodName)) ∈ zws := zws_t 107 (by decide +kernel) (by decide +kernel)
theorem wd_108 : (Cond.code ({ cls := "PageRescue$Backups", name := "<init>", desc := "(I)V" } : MethodName) prog_3_method_1_code (2 : Nat) (Option.none : Option FieldType)) ∈ zws := zws_t 108 (by decide +kernel) (by decide +kernel)
theorem wd_109 : (Cond.methodLink "PageRescue$Backups" (3 : Nat) ({ cls := "java/lang/Object", name := "<init>", desc := "()V" } : MethodName)) ∈ zws := zws_t 109 (by decide +kernel) (by decide +kernel)
theorem wd_110 : (Cond.classLink "PageRescue$Backups" (9 : Nat) "java/util/ArrayList") ∈ zws := zws_t 110 (by decide +kernel) (by decide +kernel)
theorem wd_111 : (Cond.instantiable "java/util/ArrayList" (3 : Nat)) ∈ zws := zws_t 111 (by decide +kernel) (by decide +kernel)
theorem wd_112 : (Cond.methodLink "PageRescue$Backups" (11 : Nat) ({ cls := "java/util/ArrayList", name := "<init>", desc := "()V" } : MethodName)) ∈ zws := zws_t 112 (by decide +kernel) (by decide +kernel)
theorem wd_113 : (Cond.instanceMethod ({ cls := "java/util/ArrayList", name := "<init>", desc := "()V" } : MethodName)) ∈ zws := zws_t 113 (by decide +kernel) (by decide +kernel)
theorem wd_114 : (Cond.code ({ cls := "java/util/ArrayList", name := "<init>", desc := "()V" } : MethodName) prog_16_method_2_code (1 : Nat) (Option.none : Option FieldType)) ∈ zws := zws_t 114 (by decide +kernel) (by decide +kernel)
theorem wd_115 : (Cond.methodLink "java/util/ArrayList" (1 : Nat) ({ cls := "java/util/AbstractList", name := "<init>", desc := "()V" } : MethodName)) ∈ zws := zws_t 115 (by decide +kernel) (by decide +kernel)
theorem wd_116 : (Cond.instanceMethod ({ cls := "java/util/AbstractList", name := "<init>", desc := "()V" } : MethodName)) ∈ zws := zws_t 116 (by decide +kernel) (by decide +kernel)
theorem wd_117 : (Cond.code ({ cls := "java/util/AbstractList", name := "<init>", desc := "()V" } : MethodName) prog_15_method_1_code (1 : Nat) (Option.none : Option FieldType)) ∈ zws := zws_t 117 (by decide +kernel) (by decide +kernel)
theorem wd_118 : (Cond.methodLink "java/util/AbstractList" (1 : Nat) ({ cls := "java/util/AbstractCollection", name := "<init>", desc := "()V" } : MethodName)) ∈ zws := zws_t 118 (by decide +kernel) (by decide +kernel)
theorem wd_119 : (Cond.instanceMethod ({ cls := "java/util/AbstractCollection", name := "<init>", desc := "()V" } : MethodName)) ∈ zws := zws_t 119 (by decide +kernel) (by decide +kernel)
theorem wd_120 : (Cond.code ({ cls := "java/util/AbstractCollection", name := "<init>", desc := "()V" } : MethodName) prog_14_method_1_code (1 : Nat) (Option.none : Option FieldType)) ∈ zws := zws_t 120 (by decide +kernel) (by decide +kernel)
theorem wd_121 : (Cond.methodLink "java/util/AbstractCollection" (1 : Nat) ({ cls := "java/lang/Object", name := "<init>", desc := "()V" } : MethodName)) ∈ zws := zws_t 121 (by decide +kernel) (by decide +kernel)
theorem wd_122 : (Cond.fieldLink "java/util/ArrayList" (39 : Nat) "java/util/ArrayList" "DEFAULTCAPACITY_EMPTY_ELEMENTDATA" "[Ljava/lang/Object;") ∈ zws := zws_t 122 (by decide +kernel) (by decide +kernel)
theorem wd_124 : (Cond.fieldLink "java/util/ArrayList" (9 : Nat) "java/util/ArrayList" "elementData" "[Ljava/lang/Object;") ∈ zws := zws_t 124 (by decide +kernel) (by decide +kernel)
theorem wd_125 : (Cond.fieldLink "java/util/ArrayList" (48 : Nat) "java/util/ArrayList" "size" "I") ∈ zws := zws_t 125 (by decide +kernel) (by decide +kernel)
theorem wd_126 : (Cond.fieldLink "java/util/AbstractList" (7 : Nat) "java/util/AbstractList" "modCount" "I") ∈ zws := zws_t 126 (by decide +kernel) (by decide +kernel)
theorem wd_127 : (Cond.fieldLink "java/util/ArrayList" (63 : Nat) "java/util/ArrayList" "modCount" "I") ∈ zws := zws_t 127 (by decide +kernel) (by decide +kernel)
theorem wd_128 : (Cond.sameField "java/util/ArrayList" "java/util/AbstractList" "modCount" "I") ∈ zws := zws_t 128 (by decide +kernel) (by decide +kernel)
theorem wd_136 : (Cond.fieldLink "PageRescue$Backups" (29 : Nat) "PageRescue$Backups" "keep" "I") ∈ zws := zws_t 136 (by decide +kernel) (by decide +kernel)
theorem wd_137 : (Cond.fieldLink "PageRescue$Backups" (12 : Nat) "PageRescue$Backups" "finished" "Ljava/util/ArrayList;") ∈ zws := zws_t 137 (by decide +kernel) (by decide +kernel)
theorem wd_138 : (Cond.fieldLink "PageRescue$Backups" (18 : Nat) "PageRescue$Backups" "running" "LPageRescue$Backup;") ∈ zws := zws_t 138 (by decide +kernel) (by decide +kernel)
theorem wd_139 : (Cond.fieldLink "PageRescue$Backups" (22 : Nat) "PageRescue$Backups" "oldestKept" "I") ∈ zws := zws_t 139 (by decide +kernel) (by decide +kernel)
theorem wd_140 : (Cond.fieldLink "PageRescue$Backups" (26 : Nat) "PageRescue$Backups" "fullKept" "I") ∈ zws := zws_t 140 (by decide +kernel) (by decide +kernel)
theorem wd_152 : (Cond.fieldLink "PageRescue" (49 : Nat) "PageRescue" "log" "LPageRescue$Log;") ∈ zws := zws_t 152 (by decide +kernel) (by decide +kernel)
theorem wd_153 : (Cond.fieldLink "PageRescue" (10 : Nat) "PageRescue" "transaction" "LPageRescue$Transaction;") ∈ zws := zws_t 153 (by decide +kernel) (by decide +kernel)
theorem wd_154 : (Cond.fieldLink "PageRescue" (19 : Nat) "PageRescue" "disk" "LPageRescue$Disk;") ∈ zws := zws_t 154 (by decide +kernel) (by decide +kernel)
theorem wd_155 : (Cond.fieldLink "PageRescue" (56 : Nat) "PageRescue" "backups" "LPageRescue$Backups;") ∈ zws := zws_t 155 (by decide +kernel) (by decide +kernel)
theorem wd_156 : (Cond.fieldLink "PageRescue" (23 : Nat) "PageRescue" "scratch" "[J") ∈ zws := zws_t 156 (by decide +kernel) (by decide +kernel)
theorem wd_157 : (Cond.fieldLink "PageRescue" (27 : Nat) "PageRescue" "scratchOpen" "Z") ∈ zws := zws_t 157 (by decide +kernel) (by decide +kernel)
theorem wd_158 : (Cond.fieldLink "PageRescue" (31 : Nat) "PageRescue" "redoFrom" "[I") ∈ zws := zws_t 158 (by decide +kernel) (by decide +kernel)
theorem wd_174 : (Cond.methodLink "PageRescueLaw" (21 : Nat) ({ cls := "PageRescue", name := "begin", desc := "()I" } : MethodName)) ∈ zws := zws_t 174 (by decide +kernel) (by decide +kernel)
theorem wd_175 : (Cond.instanceMethod ({ cls := "PageRescue", name := "begin", desc := "()I" } : MethodName)) ∈ zws := zws_t 175 (by decide +kernel) (by decide +kernel)
theorem wd_176 : (Cond.selects "PageRescue" ({ cls := "PageRescue", name := "begin", desc := "()I" } : MethodName) ({ cls := "PageRescue", name := "begin", desc := "()I" } : MethodName)) ∈ zws := zws_t 176 (by decide +kernel) (by decide +kernel)
theorem wd_177 : (Cond.code ({ cls := "PageRescue", name := "begin", desc := "()I" } : MethodName) prog_1_method_2_code (1 : Nat) (Option.some FieldType.int)) ∈ zws := zws_t 177 (by decide +kernel) (by decide +kernel)
theorem wd_178 : (Cond.methodLink "PageRescue" (60 : Nat) ({ cls := "PageRescue$Transaction", name := "isOpen", desc := "()Z" } : MethodName)) ∈ zws := zws_t 178 (by decide +kernel) (by decide +kernel)
theorem wd_179 : (Cond.instanceMethod ({ cls := "PageRescue$Transaction", name := "isOpen", desc := "()Z" } : MethodName)) ∈ zws := zws_t 179 (by decide +kernel) (by decide +kernel)
theorem wd_180 : (Cond.selects "PageRescue$Transaction" ({ cls := "PageRescue$Transaction", name := "isOpen", desc := "()Z" } : MethodName) ({ cls := "PageRescue$Transaction", name := "isOpen", desc := "()Z" } : MethodName)) ∈ zws := zws_t 180 (by decide +kernel) (by decide +kernel)
theorem wd_181 : (Cond.code ({ cls := "PageRescue$Transaction", name := "isOpen", desc := "()Z" } : MethodName) prog_6_method_2_code (1 : Nat) (Option.some FieldType.boolean)) ∈ zws := zws_t 181 (by decide +kernel) (by decide +kernel)
theorem wd_182 : (Cond.methodLink "PageRescue" (64 : Nat) ({ cls := "PageRescue$Transaction", name := "open", desc := "()V" } : MethodName)) ∈ zws := zws_t 182 (by decide +kernel) (by decide +kernel)
theorem wd_183 : (Cond.instanceMethod ({ cls := "PageRescue$Transaction", name := "open", desc := "()V" } : MethodName)) ∈ zws := zws_t 183 (by decide +kernel) (by decide +kernel)
theorem wd_184 : (Cond.selects "PageRescue$Transaction" ({ cls := "PageRescue$Transaction", name := "open", desc := "()V" } : MethodName) ({ cls := "PageRescue$Transaction", name := "open", desc := "()V" } : MethodName)) ∈ zws := zws_t 184 (by decide +kernel) (by decide +kernel)
theorem wd_185 : (Cond.code ({ cls := "PageRescue$Transaction", name := "open", desc := "()V" } : MethodName) prog_6_method_5_code (1 : Nat) (Option.none : Option FieldType)) ∈ zws := zws_t 185 (by decide +kernel) (by decide +kernel)
theorem wd_186 : (Cond.methodLink "PageRescueLaw" (26 : Nat) ({ cls := "PageRescue", name := "put", desc := "(IIZ)I" } : MethodName)) ∈ zws := zws_t 186 (by decide +kernel) (by decide +kernel)
theorem wd_187 : (Cond.instanceMethod ({ cls := "PageRescue", name := "put", desc := "(IIZ)I" } : MethodName)) ∈ zws := zws_t 187 (by decide +kernel) (by decide +kernel)
theorem wd_188 : (Cond.selects "PageRescue" ({ cls := "PageRescue", name := "put", desc := "(IIZ)I" } : MethodName) ({ cls := "PageRescue", name := "put", desc := "(IIZ)I" } : MethodName)) ∈ zws := zws_t 188 (by decide +kernel) (by decide +kernel)
theorem wd_189 : (Cond.code ({ cls := "PageRescue", name := "put", desc := "(IIZ)I" } : MethodName) prog_1_method_3_code (5 : Nat) (Option.some FieldType.int)) ∈ zws := zws_t 189 (by decide +kernel) (by decide +kernel)
theorem wd_190 : (Cond.methodLink "PageRescue" (67 : Nat) ({ cls := "PageRescue", name := "isKey", desc := "(I)Z" } : MethodName)) ∈ zws := zws_t 190 (by decide +kernel) (by decide +kernel)
theorem wd_191 : (Cond.static ({ cls := "PageRescue", name := "isKey", desc := "(I)Z" } : MethodName)) ∈ zws := zws_t 191 (by decide +kernel) (by decide +kernel)
theorem wd_192 : (Cond.code ({ cls := "PageRescue", name := "isKey", desc := "(I)Z" } : MethodName) prog_1_method_19_code (1 : Nat) (Option.some FieldType.boolean)) ∈ zws := zws_t 192 (by decide +kernel) (by decide +kernel)
theorem wd_193 : (Cond.methodLink "PageRescue" (71 : Nat) ({ cls := "PageRescue$Transaction", name := "takesAChange", desc := "()Z" } : MethodName)) ∈ zws := zws_t 193 (by decide +kernel) (by decide +kernel)
theorem wd_194 : (Cond.instanceMethod ({ cls := "PageRescue$Transaction", name := "takesAChange", desc := "()Z" } : MethodName)) ∈ zws := zws_t 194 (by decide +kernel) (by decide +kernel)
theorem wd_195 : (Cond.selects "PageRescue$Transaction" ({ cls := "PageRescue$Transaction", name := "takesAChange", desc := "()Z" } : MethodName) ({ cls := "PageRescue$Transaction", name := "takesAChange", desc := "()Z" } : MethodName)) ∈ zws := zws_t 195 (by decide +kernel) (by decide +kernel)
theorem wd_196 : (Cond.code ({ cls := "PageRescue$Transaction", name := "takesAChange", desc := "()Z" } : MethodName) prog_6_method_4_code (1 : Nat) (Option.some FieldType.boolean)) ∈ zws := zws_t 196 (by decide +kernel) (by decide +kernel)
theorem wd_197 : (Cond.methodLink "PageRescue" (74 : Nat) ({ cls := "PageRescue$Transaction", name := "changes", desc := "()I" } : MethodName)) ∈ zws := zws_t 197 (by decide +kernel) (by decide +kernel)
theorem wd_198 : (Cond.instanceMethod ({ cls := "PageRescue$Transaction", name := "changes", desc := "()I" } : MethodName)) ∈ zws := zws_t 198 (by decide +kernel) (by decide +kernel)
theorem wd_199 : (Cond.selects "PageRescue$Transaction" ({ cls := "PageRescue$Transaction", name := "changes", desc := "()I" } : MethodName) ({ cls := "PageRescue$Transaction", name := "changes", desc := "()I" } : MethodName)) ∈ zws := zws_t 199 (by decide +kernel) (by decide +kernel)
theorem wd_200 : (Cond.code ({ cls := "PageRescue$Transaction", name := "changes", desc := "()I" } : MethodName) prog_6_method_3_code (1 : Nat) (Option.some FieldType.int)) ∈ zws := zws_t 200 (by decide +kernel) (by decide +kernel)
theorem wd_201 : (Cond.methodLink "PageRescue" (78 : Nat) ({ cls := "PageRescue$Log", name := "left", desc := "()I" } : MethodName)) ∈ zws := zws_t 201 (by decide +kernel) (by decide +kernel)
theorem wd_202 : (Cond.instanceMethod ({ cls := "PageRescue$Log", name := "left", desc := "()I" } : MethodName)) ∈ zws := zws_t 202 (by decide +kernel) (by decide +kernel)
theorem wd_203 : (Cond.selects "PageRescue$Log" ({ cls := "PageRescue$Log", name := "left", desc := "()I" } : MethodName) ({ cls := "PageRescue$Log", name := "left", desc := "()I" } : MethodName)) ∈ zws := zws_t 203 (by decide +kernel) (by decide +kernel)
theorem wd_204 : (Cond.code ({ cls := "PageRescue$Log", name := "left", desc := "()I" } : MethodName) prog_5_method_8_code (1 : Nat) (Option.some FieldType.int)) ∈ zws := zws_t 204 (by decide +kernel) (by decide +kernel)
theorem wd_205 : (Cond.methodLink "PageRescue$Log" (49 : Nat) ({ cls := "java/lang/Math", name := "min", desc := "(II)I" } : MethodName)) ∈ zws := zws_t 205 (by decide +kernel) (by decide +kernel)
theorem wd_206 : (Cond.methodLink "PageRescue" (81 : Nat) ({ cls := "PageRescue$Log", name := "contentOf", desc := "(I)J" } : MethodName)) ∈ zws := zws_t 206 (by decide +kernel) (by decide +kernel)
theorem wd_207 : (Cond.instanceMethod ({ cls := "PageRescue$Log", name := "contentOf", desc := "(I)J" } : MethodName)) ∈ zws := zws_t 207 (by decide +kernel) (by decide +kernel)
theorem wd_208 : (Cond.selects "PageRescue$Log" ({ cls := "PageRescue$Log", name := "contentOf", desc := "(I)J" } : MethodName) ({ cls := "PageRescue$Log", name := "contentOf", desc := "(I)J" } : MethodName)) ∈ zws := zws_t 208 (by decide +kernel) (by decide +kernel)
theorem wd_209 : (Cond.code ({ cls := "PageRescue$Log", name := "contentOf", desc := "(I)J" } : MethodName) prog_5_method_6_code (2 : Nat) (Option.some FieldType.long)) ∈ zws := zws_t 209 (by decide +kernel) (by decide +kernel)
theorem wd_210 : (Cond.methodLink "PageRescue" (85 : Nat) ({ cls := "PageRescue$Transaction", name := "remember", desc := "(IJ)V" } : MethodName)) ∈ zws := zws_t 210 (by decide +kernel) (by decide +kernel)
theorem wd_211 : (Cond.instanceMethod ({ cls := "PageRescue$Transaction", name := "remember", desc := "(IJ)V" } : MethodName)) ∈ zws := zws_t 211 (by decide +kernel) (by decide +kernel)
theorem wd_212 : (Cond.selects "PageRescue$Transaction" ({ cls := "PageRescue$Transaction", name := "remember", desc := "(IJ)V" } : MethodName) ({ cls := "PageRescue$Transaction", name := "remember", desc := "(IJ)V" } : MethodName)) ∈ zws := zws_t 212 (by decide +kernel) (by decide +kernel)
theorem wd_213 : (Cond.code ({ cls := "PageRescue$Transaction", name := "remember", desc := "(IJ)V" } : MethodName) prog_6_method_7_code (4 : Nat) (Option.none : Option FieldType)) ∈ zws := zws_t 213 (by decide +kernel) (by decide +kernel)
theorem wd_214 : (Cond.constantLong "PageRescue" (89 : Nat) (1000000000000 : Int64)) ∈ zws := zws_t 214 (by decide +kernel) (by decide +kernel)
theorem wd_215 : (Cond.methodLink "PageRescue" (91 : Nat) ({ cls := "PageRescue$Log", name := "addChange", desc := "(IJ)I" } : MethodName)) ∈ zws := zws_t 215 (by decide +kernel) (by decide +kernel)
theorem wd_216 : (Cond.instanceMethod ({ cls := "PageRescue$Log", name := "addChange", desc := "(IJ)I" } : MethodName)) ∈ zws := zws_t 216 (by decide +kernel) (by decide +kernel)
theorem wd_217 : (Cond.selects "PageRescue$Log" ({ cls := "PageRescue$Log", name := "addChange", desc := "(IJ)I" } : MethodName) ({ cls := "PageRescue$Log", name := "addChange", desc := "(IJ)I" } : MethodName)) ∈ zws := zws_t 217 (by decide +kernel) (by decide +kernel)
theorem wd_218 : (Cond.code ({ cls := "PageRescue$Log", name := "addChange", desc := "(IJ)I" } : MethodName) prog_5_method_10_code (4 : Nat) (Option.some FieldType.int)) ∈ zws := zws_t 218 (by decide +kernel) (by decide +kernel)
theorem wd_219 : (Cond.methodLink "PageRescue$Log" (55 : Nat) ({ cls := "PageRescue$Log", name := "addRecord", desc := "(IJ)V" } : MethodName)) ∈ zws := zws_t 219 (by decide +kernel) (by decide +kernel)
theorem wd_221 : (Cond.instanceMethod ({ cls := "PageRescue$Log", name := "addRecord", desc := "(IJ)V" } : MethodName)) ∈ zws := zws_t 221 (by decide +kernel) (by decide +kernel)
theorem wd_222 : (Cond.code ({ cls := "PageRescue$Log", name := "addRecord", desc := "(IJ)V" } : MethodName) prog_5_method_13_code (4 : Nat) (Option.none : Option FieldType)) ∈ zws := zws_t 222 (by decide +kernel) (by decide +kernel)
theorem wd_223 : (Cond.methodLink "PageRescueLaw" (31 : Nat) ({ cls := "PageRescue", name := "commit", desc := "()I" } : MethodName)) ∈ zws := zws_t 223 (by decide +kernel) (by decide +kernel)
theorem wd_224 : (Cond.instanceMethod ({ cls := "PageRescue", name := "commit", desc := "()I" } : MethodName)) ∈ zws := zws_t 224 (by decide +kernel) (by decide +kernel)
theorem wd_225 : (Cond.selects "PageRescue" ({ cls := "PageRescue", name := "commit", desc := "()I" } : MethodName) ({ cls := "PageRescue", name := "commit", desc := "()I" } : MethodName)) ∈ zws := zws_t 225 (by decide +kernel) (by decide +kernel)
theorem wd_226 : (Cond.code ({ cls := "PageRescue", name := "commit", desc := "()I" } : MethodName) prog_1_method_4_code (1 : Nat) (Option.some FieldType.int)) ∈ zws := zws_t 226 (by decide +kernel) (by decide +kernel)
theorem wd_227 : (Cond.methodLink "PageRescue" (95 : Nat) ({ cls := "PageRescue$Transaction", name := "close", desc := "()V" } : MethodName)) ∈ zws := zws_t 227 (by decide +kernel) (by decide +kernel)
theorem wd_228 : (Cond.instanceMethod ({ cls := "PageRescue$Transaction", name := "close", desc := "()V" } : MethodName)) ∈ zws := zws_t 228 (by decide +kernel) (by decide +kernel)
theorem wd_229 : (Cond.selects "PageRescue$Transaction" ({ cls := "PageRescue$Transaction", name := "close", desc := "()V" } : MethodName) ({ cls := "PageRescue$Transaction", name := "close", desc := "()V" } : MethodName)) ∈ zws := zws_t 229 (by decide +kernel) (by decide +kernel)
theorem wd_230 : (Cond.code ({ cls := "PageRescue$Transaction", name := "close", desc := "()V" } : MethodName) prog_6_method_6_code (1 : Nat) (Option.none : Option FieldType)) ∈ zws := zws_t 230 (by decide +kernel) (by decide +kernel)
theorem wd_231 : (Cond.methodLink "PageRescue" (98 : Nat) ({ cls := "PageRescue$Log", name := "addCommit", desc := "()I" } : MethodName)) ∈ zws := zws_t 231 (by decide +kernel) (by decide +kernel)
theorem wd_232 : (Cond.instanceMethod ({ cls := "PageRescue$Log", name := "addCommit", desc := "()I" } : MethodName)) ∈ zws := zws_t 232 (by decide +kernel) (by decide +kernel)
theorem wd_233 : (Cond.selects "PageRescue$Log" ({ cls := "PageRescue$Log", name := "addCommit", desc := "()I" } : MethodName) ({ cls := "PageRescue$Log", name := "addCommit", desc := "()I" } : MethodName)) ∈ zws := zws_t 233 (by decide +kernel) (by decide +kernel)
theorem wd_234 : (Cond.code ({ cls := "PageRescue$Log", name := "addCommit", desc := "()I" } : MethodName) prog_5_method_11_code (1 : Nat) (Option.some FieldType.int)) ∈ zws := zws_t 234 (by decide +kernel) (by decide +kernel)
theorem wd_235 : (Cond.methodLink "PageRescueLaw" (35 : Nat) ({ cls := "PageRescue", name := "abort", desc := "()I" } : MethodName)) ∈ zws := zws_t 235 (by decide +kernel) (by decide +kernel)
theorem wd_236 : (Cond.instanceMethod ({ cls := "PageRescue", name := "abort", desc := "()I" } : MethodName)) ∈ zws := zws_t 236 (by decide +kernel) (by decide +kernel)
theorem wd_237 : (Cond.selects "PageRescue" ({ cls := "PageRescue", name := "abort", desc := "()I" } : MethodName) ({ cls := "PageRescue", name := "abort", desc := "()I" } : MethodName)) ∈ zws := zws_t 237 (by decide +kernel) (by decide +kernel)
theorem wd_238 : (Cond.code ({ cls := "PageRescue", name := "abort", desc := "()I" } : MethodName) prog_1_method_5_code (2 : Nat) (Option.some FieldType.int)) ∈ zws := zws_t 238 (by decide +kernel) (by decide +kernel)
theorem wd_239 : (Cond.methodLink "PageRescue" (101 : Nat) ({ cls := "PageRescue$Transaction", name := "undoIn", desc := "(LPageRescue$Log;)V" } : MethodName)) ∈ zws := zws_t 239 (by decide +kernel) (by decide +kernel)
theorem wd_240 : (Cond.instanceMethod ({ cls := "PageRescue$Transaction", name := "undoIn", desc := "(LPageRescue$Log;)V" } : MethodName)) ∈ zws := zws_t 240 (by decide +kernel) (by decide +kernel)
theorem wd_241 : (Cond.selects "PageRescue$Transaction" ({ cls := "PageRescue$Transaction", name := "undoIn", desc := "(LPageRescue$Log;)V" } : MethodName) ({ cls := "PageRescue$Transaction", name := "undoIn", desc := "(LPageRescue$Log;)V" } : MethodName)) ∈ zws := zws_t 241 (by decide +kernel) (by decide +kernel)
theorem wd_242 : (Cond.code ({ cls := "PageRescue$Transaction", name := "undoIn", desc := "(LPageRescue$Log;)V" } : MethodName) prog_6_method_8_code (3 : Nat) (Option.none : Option FieldType)) ∈ zws := zws_t 242 (by decide +kernel) (by decide +kernel)
theorem wd_243 : (Cond.methodLink "PageRescue$Transaction" (27 : Nat) ({ cls := "PageRescue$Log", name := "addChange", desc := "(IJ)I" } : MethodName)) ∈ zws := zws_t 243 (by decide +kernel) (by decide +kernel)
theorem wd_244 : (Cond.methodLink "PageRescue$Transaction" (33 : Nat) ({ cls := "PageRescue$Log", name := "addEnd", desc := "()V" } : MethodName)) ∈ zws := zws_t 244 (by decide +kernel) (by decide +kernel)
theorem wd_245 : (Cond.instanceMethod ({ cls := "PageRescue$Log", name := "addEnd", desc := "()V" } : MethodName)) ∈ zws := zws_t 245 (by decide +kernel) (by decide +kernel)
theorem wd_246 : (Cond.selects "PageRescue$Log" ({ cls := "PageRescue$Log", name := "addEnd", desc := "()V" } : MethodName) ({ cls := "PageRescue$Log", name := "addEnd", desc := "()V" } : MethodName)) ∈ zws := zws_t 246 (by decide +kernel) (by decide +kernel)
theorem wd_247 : (Cond.code ({ cls := "PageRescue$Log", name := "addEnd", desc := "()V" } : MethodName) prog_5_method_12_code (1 : Nat) (Option.none : Option FieldType)) ∈ zws := zws_t 247 (by decide +kernel) (by decide +kernel)
theorem wd_248 : (Cond.methodLink "PageRescue$Transaction" (36 : Nat) ({ cls := "PageRescue$Transaction", name := "close", desc := "()V" } : MethodName)) ∈ zws := zws_t 248 (by decide +kernel) (by decide +kernel)
theorem wd_249 : (Cond.methodLink "PageRescueLaw" (39 : Nat) ({ cls := "PageRescue", name := "get", desc := "(I)J" } : MethodName)) ∈ zws := zws_t 249 (by decide +kernel) (by decide +kernel)
theorem wd_250 : (Cond.instanceMethod ({ cls := "PageRescue", name := "get", desc := "(I)J" } : MethodName)) ∈ zws := zws_t 250 (by decide +kernel) (by decide +kernel)
theorem wd_251 : (Cond.selects "PageRescue" ({ cls := "PageRescue", name := "get", desc := "(I)J" } : MethodName) ({ cls := "PageRescue", name := "get", desc := "(I)J" } : MethodName)) ∈ zws := zws_t 251 (by decide +kernel) (by decide +kernel)
theorem wd_252 : (Cond.code ({ cls := "PageRescue", name := "get", desc := "(I)J" } : MethodName) prog_1_method_6_code (2 : Nat) (Option.some FieldType.long)) ∈ zws := zws_t 252 (by decide +kernel) (by decide +kernel)
theorem wd_253 : (Cond.constantLong "PageRescue" (105 : Nat) (-1000000000000 : Int64)) ∈ zws := zws_t 253 (by decide +kernel) (by decide +kernel)
theorem wd_254 : (Cond.methodLink "PageRescueLaw" (44 : Nat) ({ cls := "PageRescue", name := "write", desc := "(I)I" } : MethodName)) ∈ zws := zws_t 254 (by decide +kernel) (by decide +kernel)
theorem wd_255 : (Cond.instanceMethod ({ cls := "PageRescue", name := "write", desc := "(I)I" } : MethodName)) ∈ zws := zws_t 255 (by decide +kernel) (by decide +kernel)
theorem wd_256 : (Cond.selects "PageRescue" ({ cls := "PageRescue", name := "write", desc := "(I)I" } : MethodName) ({ cls := "PageRescue", name := "write", desc := "(I)I" } : MethodName)) ∈ zws := zws_t 256 (by decide +kernel) (by decide +kernel)
theorem wd_257 : (Cond.code ({ cls := "PageRescue", name := "write", desc := "(I)I" } : MethodName) prog_1_method_7_code (3 : Nat) (Option.some FieldType.int)) ∈ zws := zws_t 257 (by decide +kernel) (by decide +kernel)
theorem wd_258 : (Cond.methodLink "PageRescue" (107 : Nat) ({ cls := "PageRescue", name := "isPage", desc := "(I)Z" } : MethodName)) ∈ zws := zws_t 258 (by decide +kernel) (by decide +kernel)
theorem wd_259 : (Cond.static ({ cls := "PageRescue", name := "isPage", desc := "(I)Z" } : MethodName)) ∈ zws := zws_t 259 (by decide +kernel) (by decide +kernel)
theorem wd_260 : (Cond.code ({ cls := "PageRescue", name := "isPage", desc := "(I)Z" } : MethodName) prog_1_method_20_code (1 : Nat) (Option.some FieldType.boolean)) ∈ zws := zws_t 260 (by decide +kernel) (by decide +kernel)
theorem wd_261 : (Cond.methodLink "PageRescue" (110 : Nat) ({ cls := "PageRescue$Log", name := "numberOfPage", desc := "(I)I" } : MethodName)) ∈ zws := zws_t 261 (by decide +kernel) (by decide +kernel)
theorem wd_262 : (Cond.instanceMethod ({ cls := "PageRescue$Log", name := "numberOfPage", desc := "(I)I" } : MethodName)) ∈ zws := zws_t 262 (by decide +kernel) (by decide +kernel)
theorem wd_263 : (Cond.selects "PageRescue$Log" ({ cls := "PageRescue$Log", name := "numberOfPage", desc := "(I)I" } : MethodName) ({ cls := "PageRescue$Log", name := "numberOfPage", desc := "(I)I" } : MethodName)) ∈ zws := zws_t 263 (by decide +kernel) (by decide +kernel)
theorem wd_264 : (Cond.code ({ cls := "PageRescue$Log", name := "numberOfPage", desc := "(I)I" } : MethodName) prog_5_method_7_code (2 : Nat) (Option.some FieldType.int)) ∈ zws := zws_t 264 (by decide +kernel) (by decide +kernel)
theorem wd_265 : (Cond.methodLink "PageRescue" (114 : Nat) ({ cls := "PageRescue$Disk", name := "store", desc := "(II)V" } : MethodName)) ∈ zws := zws_t 265 (by decide +kernel) (by decide +kernel)
theorem wd_266 : (Cond.instanceMethod ({ cls := "PageRescue$Disk", name := "store", desc := "(II)V" } : MethodName)) ∈ zws := zws_t 266 (by decide +kernel) (by decide +kernel)
theorem wd_267 : (Cond.selects "PageRescue$Disk" ({ cls := "PageRescue$Disk", name := "store", desc := "(II)V" } : MethodName) ({ cls := "PageRescue$Disk", name := "store", desc := "(II)V" } : MethodName)) ∈ zws := zws_t 267 (by decide +kernel) (by decide +kernel)
theorem wd_268 : (Cond.code ({ cls := "PageRescue$Disk", name := "store", desc := "(II)V" } : MethodName) prog_4_method_2_code (3 : Nat) (Option.none : Option FieldType)) ∈ zws := zws_t 268 (by decide +kernel) (by decide +kernel)
theorem wd_269 : (Cond.methodLink "PageRescueLaw" (49 : Nat) ({ cls := "PageRescue", name := "archive", desc := "()I" } : MethodName)) ∈ zws := zws_t 269 (by decide +kernel) (by decide +kernel)
theorem wd_270 : (Cond.instanceMethod ({ cls := "PageRescue", name := "archive", desc := "()I" } : MethodName)) ∈ zws := zws_t 270 (by decide +kernel) (by decide +kernel)
theorem wd_271 : (Cond.selects "PageRescue" ({ cls := "PageRescue", name := "archive", desc := "()I" } : MethodName) ({ cls := "PageRescue", name := "archive", desc := "()I" } : MethodName)) ∈ zws := zws_t 271 (by decide +kernel) (by decide +kernel)
theorem wd_272 : (Cond.code ({ cls := "PageRescue", name := "archive", desc := "()I" } : MethodName) prog_1_method_8_code (1 : Nat) (Option.some FieldType.int)) ∈ zws := zws_t 272 (by decide +kernel) (by decide +kernel)
theorem wd_273 : (Cond.methodLink "PageRescue" (118 : Nat) ({ cls := "PageRescue$Log", name := "archiveOldest", desc := "()I" } : MethodName)) ∈ zws := zws_t 273 (by decide +kernel) (by decide +kernel)
theorem wd_274 : (Cond.instanceMethod ({ cls := "PageRescue$Log", name := "archiveOldest", desc := "()I" } : MethodName)) ∈ zws := zws_t 274 (by decide +kernel) (by decide +kernel)
theorem wd_275 : (Cond.selects "PageRescue$Log" ({ cls := "PageRescue$Log", name := "archiveOldest", desc := "()I" } : MethodName) ({ cls := "PageRescue$Log", name := "archiveOldest", desc := "()I" } : MethodName)) ∈ zws := zws_t 275 (by decide +kernel) (by decide +kernel)
theorem wd_276 : (Cond.code ({ cls := "PageRescue$Log", name := "archiveOldest", desc := "()I" } : MethodName) prog_5_method_14_code (1 : Nat) (Option.some FieldType.int)) ∈ zws := zws_t 276 (by decide +kernel) (by decide +kernel)
theorem wd_277 : (Cond.methodLink "PageRescueLaw" (53 : Nat) ({ cls := "PageRescue", name := "backup", desc := "(Z)I" } : MethodName)) ∈ zws := zws_t 277 (by decide +kernel) (by decide +kernel)
theorem wd_278 : (Cond.instanceMethod ({ cls := "PageRescue", name := "backup", desc := "(Z)I" } : MethodName)) ∈ zws := zws_t 278 (by decide +kernel) (by decide +kernel)
theorem wd_279 : (Cond.selects "PageRescue" ({ cls := "PageRescue", name := "backup", desc := "(Z)I" } : MethodName) ({ cls := "PageRescue", name := "backup", desc := "(Z)I" } : MethodName)) ∈ zws := zws_t 279 (by decide +kernel) (by decide +kernel)
theorem wd_280 : (Cond.code ({ cls := "PageRescue", name := "backup", desc := "(Z)I" } : MethodName) prog_1_method_9_code (2 : Nat) (Option.some FieldType.int)) ∈ zws := zws_t 280 (by decide +kernel) (by decide +kernel)
theorem wd_281 : (Cond.methodLink "PageRescue" (121 : Nat) ({ cls := "PageRescue$Log", name := "latest", desc := "()I" } : MethodName)) ∈ zws := zws_t 281 (by decide +kernel) (by decide +kernel)
theorem wd_282 : (Cond.instanceMethod ({ cls := "PageRescue$Log", name := "latest", desc := "()I" } : MethodName)) ∈ zws := zws_t 282 (by decide +kernel) (by decide +kernel)
theorem wd_283 : (Cond.selects "PageRescue$Log" ({ cls := "PageRescue$Log", name := "latest", desc := "()I" } : MethodName) ({ cls := "PageRescue$Log", name := "latest", desc := "()I" } : MethodName)) ∈ zws := zws_t 283 (by decide +kernel) (by decide +kernel)
theorem wd_284 : (Cond.code ({ cls := "PageRescue$Log", name := "latest", desc := "()I" } : MethodName) prog_5_method_2_code (1 : Nat) (Option.some FieldType.int)) ∈ zws := zws_t 284 (by decide +kernel) (by decide +kernel)
theorem wd_285 : (Cond.methodLink "PageRescue" (124 : Nat) ({ cls := "PageRescue$Backups", name := "start", desc := "(ZI)I" } : MethodName)) ∈ zws := zws_t 285 (by decide +kernel) (by decide +kernel)
theorem wd_286 : (Cond.instanceMethod ({ cls := "PageRescue$Backups", name := "start", desc := "(ZI)I" } : MethodName)) ∈ zws := zws_t 286 (by decide +kernel) (by decide +kernel)
theorem wd_287 : (Cond.selects "PageRescue$Backups" ({ cls := "PageRescue$Backups", name := "start", desc := "(ZI)I" } : MethodName) ({ cls := "PageRescue$Backups", name := "start", desc := "(ZI)I" } : MethodName)) ∈ zws := zws_t 287 (by decide +kernel) (by decide +kernel)
theorem wd_288 : (Cond.code ({ cls := "PageRescue$Backups", name := "start", desc := "(ZI)I" } : MethodName) prog_3_method_6_code (3 : Nat) (Option.some FieldType.int)) ∈ zws := zws_t 288 (by decide +kernel) (by decide +kernel)
theorem wd_289 : (Cond.methodLink "PageRescue$Backups" (45 : Nat) ({ cls := "PageRescue$Backups", name := "howMany", desc := "()I" } : MethodName)) ∈ zws := zws_t 289 (by decide +kernel) (by decide +kernel)
theorem wd_290 : (Cond.instanceMethod ({ cls := "PageRescue$Backups", name := "howMany", desc := "()I" } : MethodName)) ∈ zws := zws_t 290 (by decide +kernel) (by decide +kernel)
theorem wd_291 : (Cond.selects "PageRescue$Backups" ({ cls := "PageRescue$Backups", name := "howMany", desc := "()I" } : MethodName) ({ cls := "PageRescue$Backups", name := "howMany", desc := "()I" } : MethodName)) ∈ zws := zws_t 291 (by decide +kernel) (by decide +kernel)
theorem wd_292 : (Cond.code ({ cls := "PageRescue$Backups", name := "howMany", desc := "()I" } : MethodName) prog_3_method_2_code (1 : Nat) (Option.some FieldType.int)) ∈ zws := zws_t 292 (by decide +kernel) (by decide +kernel)
theorem wd_293 : (Cond.methodLink "PageRescue$Backups" (32 : Nat) ({ cls := "java/util/ArrayList", name := "size", desc := "()I" } : MethodName)) ∈ zws := zws_t 293 (by decide +kernel) (by decide +kernel)
theorem wd_294 : (Cond.instanceMethod ({ cls := "java/util/ArrayList", name := "size", desc := "()I" } : MethodName)) ∈ zws := zws_t 294 (by decide +kernel) (by decide +kernel)
theorem wd_295 : (Cond.selects "java/util/ArrayList" ({ cls := "java/util/ArrayList", name := "size", desc := "()I" } : MethodName) ({ cls := "java/util/ArrayList", name := "size", desc := "()I" } : MethodName)) ∈ zws := zws_t 295 (by decide +kernel) (by decide +kernel)
theorem wd_296 : (Cond.code ({ cls := "java/util/ArrayList", name := "size", desc := "()I" } : MethodName) prog_16_method_8_code (1 : Nat) (Option.some FieldType.int)) ∈ zws := zws_t 296 (by decide +kernel) (by decide +kernel)
theorem wd_297 : (Cond.classLink "PageRescue$Backups" (40 : Nat) "PageRescue$Backup") ∈ zws := zws_t 297 (by decide +kernel) (by decide +kernel)
theorem wd_298 : (Cond.instantiable "PageRescue$Backup" (6 : Nat)) ∈ zws := zws_t 298 (by decide +kernel) (by decide +kernel)
theorem wd_299 : (Cond.methodLink "PageRescue$Backups" (48 : Nat) ({ cls := "PageRescue$Backup", name := "<init>", desc := "(ZI)V" } : MethodName)) ∈ zws := zws_t 299 (by decide +kernel) (by decide +kernel)
theorem wd_300 : (Cond.instanceMethod ({ cls := "PageRescue$Backup", name := "<init>", desc := "(ZI)V" } : MethodName)) ∈ zws := zws_t 300 (by decide +kernel) (by decide +kernel)
theorem wd_301 : (Cond.code ({ cls := "PageRescue$Backup", name := "<init>", desc := "(ZI)V" } : MethodName) prog_2_method_1_code (3 : Nat) (Option.none : Option FieldType)) ∈ zws := zws_t 301 (by decide +kernel) (by decide +kernel)
theorem wd_302 : (Cond.methodLink "PageRescue$Backup" (3 : Nat) ({ cls := "java/lang/Object", name := "<init>", desc := "()V" } : MethodName)) ∈ zws := zws_t 302 (by decide +kernel) (by decide +kernel)
theorem wd_303 : (Cond.methodLink "PageRescue$Backup" (32 : Nat) ({ cls := "java/util/Arrays", name := "fill", desc := "([II)V" } : MethodName)) ∈ zws := zws_t 303 (by decide +kernel) (by decide +kernel)
theorem wd_304 : (Cond.static ({ cls := "java/util/Arrays", name := "fill", desc := "([II)V" } : MethodName)) ∈ zws := zws_t 304 (by decide +kernel) (by decide +kernel)
theorem wd_305 : (Cond.code ({ cls := "java/util/Arrays", name := "fill", desc := "([II)V" } : MethodName) prog_17_method_103_code (4 : Nat) (Option.none : Option FieldType)) ∈ zws := zws_t 305 (by decide +kernel) (by decide +kernel)
theorem wd_306 : (Cond.fieldLink "PageRescue$Backup" (25 : Nat) "PageRescue$Backup" "full" "Z") ∈ zws := zws_t 306 (by decide +kernel) (by decide +kernel)
theorem wd_307 : (Cond.fieldLink "PageRescue$Backups" (63 : Nat) "PageRescue$Backup" "full" "Z") ∈ zws := zws_t 307 (by decide +kernel) (by decide +kernel)
theorem wd_308 : (Cond.fieldLink "PageRescue" (180 : Nat) "PageRescue$Backup" "full" "Z") ∈ zws := zws_t 308 (by decide +kernel) (by decide +kernel)
theorem wd_309 : (Cond.fieldLink "PageRescue$Backup" (29 : Nat) "PageRescue$Backup" "start" "I") ∈ zws := zws_t 309 (by decide +kernel) (by decide +kernel)
theorem wd_310 : (Cond.fieldLink "PageRescue$Backups" (86 : Nat) "PageRescue$Backup" "start" "I") ∈ zws := zws_t 310 (by decide +kernel) (by decide +kernel)
theorem wd_311 : (Cond.fieldLink "PageRescue" (185 : Nat) "PageRescue$Backup" "start" "I") ∈ zws := zws_t 311 (by decide +kernel) (by decide +kernel)
theorem wd_312 : (Cond.fieldLink "PageRescue$Backup" (9 : Nat) "PageRescue$Backup" "imageNumbers" "[I") ∈ zws := zws_t 312 (by decide +kernel) (by decide +kernel)
theorem wd_313 : (Cond.fieldLink "PageRescue$Backup" (15 : Nat) "PageRescue$Backup" "end" "I") ∈ zws := zws_t 313 (by decide +kernel) (by decide +kernel)
theorem wd_314 : (Cond.fieldLink "PageRescue$Backups" (92 : Nat) "PageRescue$Backup" "end" "I") ∈ zws := zws_t 314 (by decide +kernel) (by decide +kernel)
theorem wd_315 : (Cond.fieldLink "PageRescue" (188 : Nat) "PageRescue$Backup" "end" "I") ∈ zws := zws_t 315 (by decide +kernel) (by decide +kernel)
theorem wd_316 : (Cond.fieldLink "PageRescue$Backup" (19 : Nat) "PageRescue$Backup" "images" "I") ∈ zws := zws_t 316 (by decide +kernel) (by decide +kernel)
theorem wd_317 : (Cond.fieldLink "PageRescue" (191 : Nat) "PageRescue$Backup" "images" "I") ∈ zws := zws_t 317 (by decide +kernel) (by decide +kernel)
theorem wd_318 : (Cond.fieldLink "PageRescue$Backup" (22 : Nat) "PageRescue$Backup" "visited" "I") ∈ zws := zws_t 318 (by decide +kernel) (by decide +kernel)
theorem wd_319 : (Cond.fieldLink "PageRescue$Backups" (42 : Nat) "PageRescue$Backup" "visited" "I") ∈ zws := zws_t 319 (by decide +kernel) (by decide +kernel)
theorem wd_333 : (Cond.methodLink "PageRescueLaw" (58 : Nat) ({ cls := "PageRescue", name := "step", desc := "(I)I" } : MethodName)) ∈ zws := zws_t 333 (by decide +kernel) (by decide +kernel)
theorem wd_334 : (Cond.instanceMethod ({ cls := "PageRescue", name := "step", desc := "(I)I" } : MethodName)) ∈ zws := zws_t 334 (by decide +kernel) (by decide +kernel)
theorem wd_335 : (Cond.selects "PageRescue" ({ cls := "PageRescue", name := "step", desc := "(I)I" } : MethodName) ({ cls := "PageRescue", name := "step", desc := "(I)I" } : MethodName)) ∈ zws := zws_t 335 (by decide +kernel) (by decide +kernel)
theorem wd_336 : (Cond.code ({ cls := "PageRescue", name := "step", desc := "(I)I" } : MethodName) prog_1_method_10_code (2 : Nat) (Option.some FieldType.int)) ∈ zws := zws_t 336 (by decide +kernel) (by decide +kernel)
theorem wd_337 : (Cond.methodLink "PageRescue" (128 : Nat) ({ cls := "PageRescue$Backups", name := "visit", desc := "(ILPageRescue$Log;)I" } : MethodName)) ∈ zws := zws_t 337 (by decide +kernel) (by decide +kernel)
theorem wd_338 : (Cond.instanceMethod ({ cls := "PageRescue$Backups", name := "visit", desc := "(ILPageRescue$Log;)I" } : MethodName)) ∈ zws := zws_t 338 (by decide +kernel) (by decide +kernel)
theorem wd_339 : (Cond.selects "PageRescue$Backups" ({ cls := "PageRescue$Backups", name := "visit", desc := "(ILPageRescue$Log;)I" } : MethodName) ({ cls := "PageRescue$Backups", name := "visit", desc := "(ILPageRescue$Log;)I" } : MethodName)) ∈ zws := zws_t 339 (by decide +kernel) (by decide +kernel)
theorem wd_340 : (Cond.code ({ cls := "PageRescue$Backups", name := "visit", desc := "(ILPageRescue$Log;)I" } : MethodName) prog_3_method_8_code (6 : Nat) (Option.some FieldType.int)) ∈ zws := zws_t 340 (by decide +kernel) (by decide +kernel)
theorem wd_341 : (Cond.methodLink "PageRescue$Backups" (51 : Nat) ({ cls := "java/lang/Math", name := "min", desc := "(II)I" } : MethodName)) ∈ zws := zws_t 341 (by decide +kernel) (by decide +kernel)
theorem wd_342 : (Cond.methodLink "PageRescue$Backups" (57 : Nat) ({ cls := "PageRescue$Log", name := "numberOfPage", desc := "(I)I" } : MethodName)) ∈ zws := zws_t 342 (by decide +kernel) (by decide +kernel)
theorem wd_343 : (Cond.methodLink "PageRescue$Backups" (67 : Nat) ({ cls := "PageRescue$Backups", name := "startOfLatest", desc := "()I" } : MethodName)) ∈ zws := zws_t 343 (by decide +kernel) (by decide +kernel)
theorem wd_345 : (Cond.instanceMethod ({ cls := "PageRescue$Backups", name := "startOfLatest", desc := "()I" } : MethodName)) ∈ zws := zws_t 345 (by decide +kernel) (by decide +kernel)
theorem wd_346 : (Cond.code ({ cls := "PageRescue$Backups", name := "startOfLatest", desc := "()I" } : MethodName) prog_3_method_9_code (1 : Nat) (Option.some FieldType.int)) ∈ zws := zws_t 346 (by decide +kernel) (by decide +kernel)
theorem wd_347 : (Cond.methodLink "PageRescue$Backups" (78 : Nat) ({ cls := "java/util/ArrayList", name := "isEmpty", desc := "()Z" } : MethodName)) ∈ zws := zws_t 347 (by decide +kernel) (by decide +kernel)
theorem wd_348 : (Cond.instanceMethod ({ cls := "java/util/ArrayList", name := "isEmpty", desc := "()Z" } : MethodName)) ∈ zws := zws_t 348 (by decide +kernel) (by decide +kernel)
theorem wd_349 : (Cond.selects "java/util/ArrayList" ({ cls := "java/util/ArrayList", name := "isEmpty", desc := "()Z" } : MethodName) ({ cls := "java/util/ArrayList", name := "isEmpty", desc := "()Z" } : MethodName)) ∈ zws := zws_t 349 (by decide +kernel) (by decide +kernel)
theorem wd_350 : (Cond.code ({ cls := "java/util/ArrayList", name := "isEmpty", desc := "()Z" } : MethodName) prog_16_method_9_code (1 : Nat) (Option.some FieldType.boolean)) ∈ zws := zws_t 350 (by decide +kernel) (by decide +kernel)
theorem wd_351 : (Cond.methodLink "PageRescue$Backups" (82 : Nat) ({ cls := "PageRescue$Backups", name := "numbered", desc := "(I)LPageRescue$Backup;" } : MethodName)) ∈ zws := zws_t 351 (by decide +kernel) (by decide +kernel)
theorem wd_352 : (Cond.instanceMethod ({ cls := "PageRescue$Backups", name := "numbered", desc := "(I)LPageRescue$Backup;" } : MethodName)) ∈ zws := zws_t 352 (by decide +kernel) (by decide +kernel)
theorem wd_353 : (Cond.selects "PageRescue$Backups" ({ cls := "PageRescue$Backups", name := "numbered", desc := "(I)LPageRescue$Backup;" } : MethodName) ({ cls := "PageRescue$Backups", name := "numbered", desc := "(I)LPageRescue$Backup;" } : MethodName)) ∈ zws := zws_t 353 (by decide +kernel) (by decide +kernel)
theorem wd_354 : (Cond.code ({ cls := "PageRescue$Backups", name := "numbered", desc := "(I)LPageRescue$Backup;" } : MethodName) prog_3_method_3_code (2 : Nat) (Option.some (FieldType.object "PageRescue$Backup"))) ∈ zws := zws_t 354 (by decide +kernel) (by decide +kernel)
theorem wd_355 : (Cond.methodLink "PageRescue$Backups" (36 : Nat) ({ cls := "java/util/ArrayList", name := "get", desc := "(I)Ljava/lang/Object;" } : MethodName)) ∈ zws := zws_t 355 (by decide +kernel) (by decide +kernel)
theorem wd_356 : (Cond.instanceMethod ({ cls := "java/util/ArrayList", name := "get", desc := "(I)Ljava/lang/Object;" } : MethodName)) ∈ zws := zws_t 356 (by decide +kernel) (by decide +kernel)
theorem wd_357 : (Cond.selects "java/util/ArrayList" ({ cls := "java/util/ArrayList", name := "get", desc := "(I)Ljava/lang/Object;" } : MethodName) ({ cls := "java/util/ArrayList", name := "get", desc := "(I)Ljava/lang/Object;" } : MethodName)) ∈ zws := zws_t 357 (by decide +kernel) (by decide +kernel)
theorem wd_358 : (Cond.code ({ cls := "java/util/ArrayList", name := "get", desc := "(I)Ljava/lang/Object;" } : MethodName) prog_16_method_20_code (2 : Nat) (Option.some (FieldType.object "java/lang/Object"))) ∈ zws := zws_t 358 (by decide +kernel) (by decide +kernel)
theorem wd_359 : (Cond.methodLink "java/util/ArrayList" (118 : Nat) ({ cls := "java/util/Objects", name := "checkIndex", desc := "(II)I" } : MethodName)) ∈ zws := zws_t 359 (by decide +kernel) (by decide +kernel)
theorem wd_360 : (Cond.static ({ cls := "java/util/Objects", name := "checkIndex", desc := "(II)I" } : MethodName)) ∈ zws := zws_t 360 (by decide +kernel) (by decide +kernel)
theorem wd_361 : (Cond.code ({ cls := "java/util/Objects", name := "checkIndex", desc := "(II)I" } : MethodName) prog_20_method_17_code (2 : Nat) (Option.some FieldType.int)) ∈ zws := zws_t 361 (by decide +kernel) (by decide +kernel)
theorem wd_362 : (Cond.methodLink "java/util/Objects" (105 : Nat) ({ cls := "jdk/internal/util/Preconditions", name := "checkIndex", desc := "(IILjava/util/function/BiFunction;)I" } : MethodName)) ∈ zws := zws_t 362 (by decide +kernel) (by decide +kernel)
theorem wd_363 : (Cond.static ({ cls := "jdk/internal/util/Preconditions", name := "checkIndex", desc := "(IILjava/util/function/BiFunction;)I" } : MethodName)) ∈ zws := zws_t 363 (by decide +kernel) (by decide +kernel)
theorem wd_364 : (Cond.code ({ cls := "jdk/internal/util/Preconditions", name := "checkIndex", desc := "(IILjava/util/function/BiFunction;)I" } : MethodName) prog_24_method_11_code (3 : Nat) (Option.some FieldType.int)) ∈ zws := zws_t 364 (by decide +kernel) (by decide +kernel)
theorem wd_365 : (Cond.methodLink "java/util/ArrayList" (123 : Nat) ({ cls := "java/util/ArrayList", name := "elementData", desc := "(I)Ljava/lang/Object;" } : MethodName)) ∈ zws := zws_t 365 (by decide +kernel) (by decide +kernel)
theorem wd_366 : (Cond.instanceMethod ({ cls := "java/util/ArrayList", name := "elementData", desc := "(I)Ljava/lang/Object;" } : MethodName)) ∈ zws := zws_t 366 (by decide +kernel) (by decide +kernel)
theorem wd_367 : (Cond.selects "java/util/ArrayList" ({ cls := "java/util/ArrayList", name := "elementData", desc := "(I)Ljava/lang/Object;" } : MethodName) ({ cls := "java/util/ArrayList", name := "elementData", desc := "(I)Ljava/lang/Object;" } : MethodName)) ∈ zws := zws_t 367 (by decide +kernel) (by decide +kernel)
theorem wd_368 : (Cond.code ({ cls := "java/util/ArrayList", name := "elementData", desc := "(I)Ljava/lang/Object;" } : MethodName) prog_16_method_18_code (2 : Nat) (Option.some (FieldType.object "java/lang/Object"))) ∈ zws := zws_t 368 (by decide +kernel) (by decide +kernel)
theorem wd_369 : (Cond.methodLink "PageRescue$Backups" (70 : Nat) ({ cls := "PageRescue$Backup", name := "takeImage", desc := "(II)V" } : MethodName)) ∈ zws := zws_t 369 (by decide +kernel) (by decide +kernel)
theorem wd_370 : (Cond.instanceMethod ({ cls := "PageRescue$Backup", name := "takeImage", desc := "(II)V" } : MethodName)) ∈ zws := zws_t 370 (by decide +kernel) (by decide +kernel)
theorem wd_371 : (Cond.selects "PageRescue$Backup" ({ cls := "PageRescue$Backup", name := "takeImage", desc := "(II)V" } : MethodName) ({ cls := "PageRescue$Backup", name := "takeImage", desc := "(II)V" } : MethodName)) ∈ zws := zws_t 371 (by decide +kernel) (by decide +kernel)
theorem wd_372 : (Cond.code ({ cls := "PageRescue$Backup", name := "takeImage", desc := "(II)V" } : MethodName) prog_2_method_2_code (3 : Nat) (Option.none : Option FieldType)) ∈ zws := zws_t 372 (by decide +kernel) (by decide +kernel)
theorem wd_373 : (Cond.methodLink "PageRescue$Backups" (74 : Nat) ({ cls := "PageRescue$Backups", name := "finish", desc := "(LPageRescue$Backup;LPageRescue$Log;)V" } : MethodName)) ∈ zws := zws_t 373 (by decide +kernel) (by decide +kernel)
theorem wd_375 : (Cond.instanceMethod ({ cls := "PageRescue$Backups", name := "finish", desc := "(LPageRescue$Backup;LPageRescue$Log;)V" } : MethodName)) ∈ zws := zws_t 375 (by decide +kernel) (by decide +kernel)
theorem wd_376 : (Cond.code ({ cls := "PageRescue$Backups", name := "finish", desc := "(LPageRescue$Backup;LPageRescue$Log;)V" } : MethodName) prog_3_method_10_code (3 : Nat) (Option.none : Option FieldType)) ∈ zws := zws_t 376 (by decide +kernel) (by decide +kernel)
theorem wd_377 : (Cond.methodLink "PageRescue$Backups" (89 : Nat) ({ cls := "PageRescue$Log", name := "latest", desc := "()I" } : MethodName)) ∈ zws := zws_t 377 (by decide +kernel) (by decide +kernel)
theorem wd_378 : (Cond.methodLink "PageRescue$Backups" (95 : Nat) ({ cls := "java/util/ArrayList", name := "add", desc := "(Ljava/lang/Object;)Z" } : MethodName)) ∈ zws := zws_t 378 (by decide +kernel) (by decide +kernel)
theorem wd_379 : (Cond.instanceMethod ({ cls := "java/util/ArrayList", name := "add", desc := "(Ljava/lang/Object;)Z" } : MethodName)) ∈ zws := zws_t 379 (by decide +kernel) (by decide +kernel)
theorem wd_380 : (Cond.selects "java/util/ArrayList" ({ cls := "java/util/ArrayList", name := "add", desc := "(Ljava/lang/Object;)Z" } : MethodName) ({ cls := "java/util/ArrayList", name := "add", desc := "(Ljava/lang/Object;)Z" } : MethodName)) ∈ zws := zws_t 380 (by decide +kernel) (by decide +kernel)
theorem wd_381 : (Cond.code ({ cls := "java/util/ArrayList", name := "add", desc := "(Ljava/lang/Object;)Z" } : MethodName) prog_16_method_25_code (2 : Nat) (Option.some FieldType.boolean)) ∈ zws := zws_t 381 (by decide +kernel) (by decide +kernel)
theorem wd_382 : (Cond.methodLink "java/util/ArrayList" (131 : Nat) ({ cls := "java/util/ArrayList", name := "add", desc := "(Ljava/lang/Object;[Ljava/lang/Object;I)V" } : MethodName)) ∈ zws := zws_t 382 (by decide +kernel) (by decide +kernel)
theorem wd_384 : (Cond.instanceMethod ({ cls := "java/util/ArrayList", name := "add", desc := "(Ljava/lang/Object;[Ljava/lang/Object;I)V" } : MethodName)) ∈ zws := zws_t 384 (by decide +kernel) (by decide +kernel)
theorem wd_385 : (Cond.code ({ cls := "java/util/ArrayList", name := "add", desc := "(Ljava/lang/Object;[Ljava/lang/Object;I)V" } : MethodName) prog_16_method_24_code (4 : Nat) (Option.none : Option FieldType)) ∈ zws := zws_t 385 (by decide +kernel) (by decide +kernel)
theorem wd_386 : (Cond.methodLink "java/util/ArrayList" (129 : Nat) ({ cls := "java/util/ArrayList", name := "grow", desc := "()[Ljava/lang/Object;" } : MethodName)) ∈ zws := zws_t 386 (by decide +kernel) (by decide +kernel)
theorem wd_388 : (Cond.instanceMethod ({ cls := "java/util/ArrayList", name := "grow", desc := "()[Ljava/lang/Object;" } : MethodName)) ∈ zws := zws_t 388 (by decide +kernel) (by decide +kernel)
theorem wd_389 : (Cond.code ({ cls := "java/util/ArrayList", name := "grow", desc := "()[Ljava/lang/Object;" } : MethodName) prog_16_method_7_code (1 : Nat) (Option.some (FieldType.array (FieldType.object "java/lang/Object")))) ∈ zws := zws_t 389 (by decide +kernel) (by decide +kernel)
theorem wd_390 : (Cond.methodLink "java/util/ArrayList" (69 : Nat) ({ cls := "java/util/ArrayList", name := "grow", desc := "(I)[Ljava/lang/Object;" } : MethodName)) ∈ zws := zws_t 390 (by decide +kernel) (by decide +kernel)
theorem wd_392 : (Cond.instanceMethod ({ cls := "java/util/ArrayList", name := "grow", desc := "(I)[Ljava/lang/Object;" } : MethodName)) ∈ zws := zws_t 392 (by decide +kernel) (by decide +kernel)
theorem wd_393 : (Cond.code ({ cls := "java/util/ArrayList", name := "grow", desc := "(I)[Ljava/lang/Object;" } : MethodName) prog_16_method_6_code (4 : Nat) (Option.some (FieldType.array (FieldType.object "java/lang/Object")))) ∈ zws := zws_t 393 (by decide +kernel) (by decide +kernel)
theorem wd_394 : (Cond.methodLink "java/util/ArrayList" (73 : Nat) ({ cls := "jdk/internal/util/ArraysSupport", name := "newLength", desc := "(III)I" } : MethodName)) ∈ zws := zws_t 394 (by decide +kernel) (by decide +kernel)
theorem wd_395 : (Cond.static ({ cls := "jdk/internal/util/ArraysSupport", name := "newLength", desc := "(III)I" } : MethodName)) ∈ zws := zws_t 395 (by decide +kernel) (by decide +kernel)
theorem wd_396 : (Cond.code ({ cls := "jdk/internal/util/ArraysSupport", name := "newLength", desc := "(III)I" } : MethodName) prog_23_method_27_code (4 : Nat) (Option.some FieldType.int)) ∈ zws := zws_t 396 (by decide +kernel) (by decide +kernel)
theorem wd_397 : (Cond.methodLink "jdk/internal/util/ArraysSupport" (194 : Nat) ({ cls := "java/lang/Math", name := "max", desc := "(II)I" } : MethodName)) ∈ zws := zws_t 397 (by decide +kernel) (by decide +kernel)
theorem wd_398 : (Cond.constant "jdk/internal/util/ArraysSupport" (200 : Nat) (2147483639 : Int32)) ∈ zws := zws_t 398 (by decide +kernel) (by decide +kernel)
theorem wd_399 : (Cond.methodLink "jdk/internal/util/ArraysSupport" (201 : Nat) ({ cls := "jdk/internal/util/ArraysSupport", name := "hugeLength", desc := "(II)I" } : MethodName)) ∈ zws := zws_t 399 (by decide +kernel) (by decide +kernel)
theorem wd_400 : (Cond.static ({ cls := "jdk/internal/util/ArraysSupport", name := "hugeLength", desc := "(II)I" } : MethodName)) ∈ zws := zws_t 400 (by decide +kernel) (by decide +kernel)
theorem wd_401 : (Cond.code ({ cls := "jdk/internal/util/ArraysSupport", name := "hugeLength", desc := "(II)I" } : MethodName) prog_23_method_28_code (3 : Nat) (Option.some FieldType.int)) ∈ zws := zws_t 401 (by decide +kernel) (by decide +kernel)
theorem wd_402 : (Cond.methodLink "java/util/ArrayList" (66 : Nat) ({ cls := "java/util/Arrays", name := "copyOf", desc := "([Ljava/lang/Object;I)[Ljava/lang/Object;" } : MethodName)) ∈ zws := zws_t 402 (by decide +kernel) (by decide +kernel)
theorem wd_403 : (Cond.static ({ cls := "java/util/Arrays", name := "copyOf", desc := "([Ljava/lang/Object;I)[Ljava/lang/Object;" } : MethodName)) ∈ zws := zws_t 403 (by decide +kernel) (by decide +kernel)
theorem wd_404 : (Cond.code ({ cls := "java/util/Arrays", name := "copyOf", desc := "([Ljava/lang/Object;I)[Ljava/lang/Object;" } : MethodName) prog_17_method_119_code (2 : Nat) (Option.some (FieldType.array (FieldType.object "java/lang/Object")))) ∈ zws := zws_t 404 (by decide +kernel) (by decide +kernel)
theorem wd_405 : (Cond.methodLink "java/util/Arrays" (86 : Nat) ({ cls := "java/lang/Object", name := "getClass", desc := "()Ljava/lang/Class;" } : MethodName)) ∈ zws := zws_t 405 (by decide +kernel) (by decide +kernel)
theorem wd_406 : (Cond.instanceMethod ({ cls := "java/lang/Object", name := "getClass", desc := "()Ljava/lang/Class;" } : MethodName)) ∈ zws := zws_t 406 (by decide +kernel) (by decide +kernel)
theorem wd_408 : (Cond.selects "PageRescue" ({ cls := "java/lang/Object", name := "getClass", desc := "()Ljava/lang/Class;" } : MethodName) ({ cls := "java/lang/Object", name := "getClass", desc := "()Ljava/lang/Class;" } : MethodName)) ∈ zws := zws_t 408 (by decide +kernel) (by decide +kernel)
theorem wd_409 : (Cond.selects "PageRescue$Backup" ({ cls := "java/lang/Object", name := "getClass", desc := "()Ljava/lang/Class;" } : MethodName) ({ cls := "java/lang/Object", name := "getClass", desc := "()Ljava/lang/Class;" } : MethodName)) ∈ zws := zws_t 409 (by decide +kernel) (by decide +kernel)
theorem wd_410 : (Cond.selects "PageRescue$Backups" ({ cls := "java/lang/Object", name := "getClass", desc := "()Ljava/lang/Class;" } : MethodName) ({ cls := "java/lang/Object", name := "getClass", desc := "()Ljava/lang/Class;" } : MethodName)) ∈ zws := zws_t 410 (by decide +kernel) (by decide +kernel)
theorem wd_411 : (Cond.selects "PageRescue$Disk" ({ cls := "java/lang/Object", name := "getClass", desc := "()Ljava/lang/Class;" } : MethodName) ({ cls := "java/lang/Object", name := "getClass", desc := "()Ljava/lang/Class;" } : MethodName)) ∈ zws := zws_t 411 (by decide +kernel) (by decide +kernel)
theorem wd_412 : (Cond.selects "PageRescue$Log" ({ cls := "java/lang/Object", name := "getClass", desc := "()Ljava/lang/Class;" } : MethodName) ({ cls := "java/lang/Object", name := "getClass", desc := "()Ljava/lang/Class;" } : MethodName)) ∈ zws := zws_t 412 (by decide +kernel) (by decide +kernel)
theorem wd_413 : (Cond.selects "PageRescue$Transaction" ({ cls := "java/lang/Object", name := "getClass", desc := "()Ljava/lang/Class;" } : MethodName) ({ cls := "java/lang/Object", name := "getClass", desc := "()Ljava/lang/Class;" } : MethodName)) ∈ zws := zws_t 413 (by decide +kernel) (by decide +kernel)
theorem wd_414 : (Cond.selects "PageRescueModel" ({ cls := "java/lang/Object", name := "getClass", desc := "()Ljava/lang/Class;" } : MethodName) ({ cls := "java/lang/Object", name := "getClass", desc := "()Ljava/lang/Class;" } : MethodName)) ∈ zws := zws_t 414 (by decide +kernel) (by decide +kernel)
theorem wd_415 : (Cond.selects "java/util/ArrayList" ({ cls := "java/lang/Object", name := "getClass", desc := "()Ljava/lang/Class;" } : MethodName) ({ cls := "java/lang/Object", name := "getClass", desc := "()Ljava/lang/Class;" } : MethodName)) ∈ zws := zws_t 415 (by decide +kernel) (by decide +kernel)
theorem wd_416 : (Cond.native ({ cls := "java/lang/Object", name := "getClass", desc := "()Ljava/lang/Class;" } : MethodName)) ∈ zws := zws_t 416 (by decide +kernel) (by decide +kernel)
theorem wd_417 : (Cond.methodLink "java/util/Arrays" (300 : Nat) ({ cls := "java/util/Arrays", name := "copyOf", desc := "([Ljava/lang/Object;ILjava/lang/Class;)[Ljava/lang/Object;" } : MethodName)) ∈ zws := zws_t 417 (by decide +kernel) (by decide +kernel)
theorem wd_418 : (Cond.static ({ cls := "java/util/Arrays", name := "copyOf", desc := "([Ljava/lang/Object;ILjava/lang/Class;)[Ljava/lang/Object;" } : MethodName)) ∈ zws := zws_t 418 (by decide +kernel) (by decide +kernel)
theorem wd_419 : (Cond.code ({ cls := "java/util/Arrays", name := "copyOf", desc := "([Ljava/lang/Object;ILjava/lang/Class;)[Ljava/lang/Object;" } : MethodName) prog_17_method_120_code (4 : Nat) (Option.some (FieldType.array (FieldType.object "java/lang/Object")))) ∈ zws := zws_t 419 (by decide +kernel) (by decide +kernel)
theorem wd_420 : (Cond.classLink "java/util/Arrays" (110 : Nat) "[Ljava/lang/Object;") ∈ zws := zws_t 420 (by decide +kernel) (by decide +kernel)
theorem wd_422 : (Cond.classLink "java/util/Arrays" (2 : Nat) "java/lang/Object") ∈ zws := zws_t 422 (by decide +kernel) (by decide +kernel)
theorem wd_423 : (Cond.methodLink "java/util/Arrays" (304 : Nat) ({ cls := "java/lang/Math", name := "min", desc := "(II)I" } : MethodName)) ∈ zws := zws_t 423 (by decide +kernel) (by decide +kernel)
theorem wd_424 : (Cond.methodLink "java/util/Arrays" (150 : Nat) ({ cls := "java/lang/System", name := "arraycopy", desc := "(Ljava/lang/Object;ILjava/lang/Object;II)V" } : MethodName)) ∈ zws := zws_t 424 (by decide +kernel) (by decide +kernel)
theorem wd_425 : (Cond.static ({ cls := "java/lang/System", name := "arraycopy", desc := "(Ljava/lang/Object;ILjava/lang/Object;II)V" } : MethodName)) ∈ zws := zws_t 425 (by decide +kernel) (by decide +kernel)
theorem wd_426 : (Cond.native ({ cls := "java/lang/System", name := "arraycopy", desc := "(Ljava/lang/Object;ILjava/lang/Object;II)V" } : MethodName)) ∈ zws := zws_t 426 (by decide +kernel) (by decide +kernel)
theorem wd_427 : (Cond.methodLink "java/util/ArrayList" (79 : Nat) ({ cls := "java/lang/Math", name := "max", desc := "(II)I" } : MethodName)) ∈ zws := zws_t 427 (by decide +kernel) (by decide +kernel)
theorem wd_428 : (Cond.classLink "java/util/ArrayList" (7 : Nat) "java/lang/Object") ∈ zws := zws_t 428 (by decide +kernel) (by decide +kernel)
theorem wd_429 : (Cond.methodLink "PageRescue$Backups" (99 : Nat) ({ cls := "PageRescue$Backups", name := "dropOldest", desc := "()V" } : MethodName)) ∈ zws := zws_t 429 (by decide +kernel) (by decide +kernel)
theorem wd_431 : (Cond.instanceMethod ({ cls := "PageRescue$Backups", name := "dropOldest", desc := "()V" } : MethodName)) ∈ zws := zws_t 431 (by decide +kernel) (by decide +kernel)
theorem wd_432 : (Cond.code ({ cls := "PageRescue$Backups", name := "dropOldest", desc := "()V" } : MethodName) prog_3_method_11_code (1 : Nat) (Option.none : Option FieldType)) ∈ zws := zws_t 432 (by decide +kernel) (by decide +kernel)
theorem wd_433 : (Cond.methodLink "PageRescue$Backups" (102 : Nat) ({ cls := "PageRescue$Log", name := "purgeUpTo", desc := "(I)V" } : MethodName)) ∈ zws := zws_t 433 (by decide +kernel) (by decide +kernel)
theorem wd_434 : (Cond.instanceMethod ({ cls := "PageRescue$Log", name := "purgeUpTo", desc := "(I)V" } : MethodName)) ∈ zws := zws_t 434 (by decide +kernel) (by decide +kernel)
theorem wd_435 : (Cond.selects "PageRescue$Log" ({ cls := "PageRescue$Log", name := "purgeUpTo", desc := "(I)V" } : MethodName) ({ cls := "PageRescue$Log", name := "purgeUpTo", desc := "(I)V" } : MethodName)) ∈ zws := zws_t 435 (by decide +kernel) (by decide +kernel)
theorem wd_436 : (Cond.code ({ cls := "PageRescue$Log", name := "purgeUpTo", desc := "(I)V" } : MethodName) prog_5_method_15_code (2 : Nat) (Option.none : Option FieldType)) ∈ zws := zws_t 436 (by decide +kernel) (by decide +kernel)
theorem wd_437 : (Cond.methodLink "PageRescue$Log" (59 : Nat) ({ cls := "java/lang/Math", name := "max", desc := "(II)I" } : MethodName)) ∈ zws := zws_t 437 (by decide +kernel) (by decide +kernel)
theorem wd_438 : (Cond.methodLink "PageRescueLaw" (62 : Nat) ({ cls := "PageRescue", name := "crash", desc := "(I)I" } : MethodName)) ∈ zws := zws_t 438 (by decide +kernel) (by decide +kernel)
theorem wd_439 : (Cond.instanceMethod ({ cls := "PageRescue", name := "crash", desc := "(I)I" } : MethodName)) ∈ zws := zws_t 439 (by decide +kernel) (by decide +kernel)
theorem wd_440 : (Cond.selects "PageRescue" ({ cls := "PageRescue", name := "crash", desc := "(I)I" } : MethodName) ({ cls := "PageRescue", name := "crash", desc := "(I)I" } : MethodName)) ∈ zws := zws_t 440 (by decide +kernel) (by decide +kernel)
theorem wd_441 : (Cond.code ({ cls := "PageRescue", name := "crash", desc := "(I)I" } : MethodName) prog_1_method_11_code (2 : Nat) (Option.some FieldType.int)) ∈ zws := zws_t 441 (by decide +kernel) (by decide +kernel)
theorem wd_442 : (Cond.methodLink "PageRescue" (132 : Nat) ({ cls := "PageRescue$Disk", name := "tear", desc := "(I)V" } : MethodName)) ∈ zws := zws_t 442 (by decide +kernel) (by decide +kernel)
theorem wd_443 : (Cond.instanceMethod ({ cls := "PageRescue$Disk", name := "tear", desc := "(I)V" } : MethodName)) ∈ zws := zws_t 443 (by decide +kernel) (by decide +kernel)
theorem wd_444 : (Cond.selects "PageRescue$Disk" ({ cls := "PageRescue$Disk", name := "tear", desc := "(I)V" } : MethodName) ({ cls := "PageRescue$Disk", name := "tear", desc := "(I)V" } : MethodName)) ∈ zws := zws_t 444 (by decide +kernel) (by decide +kernel)
theorem wd_445 : (Cond.code ({ cls := "PageRescue$Disk", name := "tear", desc := "(I)V" } : MethodName) prog_4_method_3_code (2 : Nat) (Option.none : Option FieldType)) ∈ zws := zws_t 445 (by decide +kernel) (by decide +kernel)
theorem wd_446 : (Cond.methodLink "PageRescue" (135 : Nat) ({ cls := "PageRescue", name := "recover", desc := "()I" } : MethodName)) ∈ zws := zws_t 446 (by decide +kernel) (by decide +kernel)
theorem wd_448 : (Cond.instanceMethod ({ cls := "PageRescue", name := "recover", desc := "()I" } : MethodName)) ∈ zws := zws_t 448 (by decide +kernel) (by decide +kernel)
theorem wd_449 : (Cond.code ({ cls := "PageRescue", name := "recover", desc := "()I" } : MethodName) prog_1_method_18_code (2 : Nat) (Option.some FieldType.int)) ∈ zws := zws_t 449 (by decide +kernel) (by decide +kernel)
theorem wd_450 : (Cond.methodLink "PageRescue" (203 : Nat) ({ cls := "PageRescue$Backups", name := "giveUp", desc := "()V" } : MethodName)) ∈ zws := zws_t 450 (by decide +kernel) (by decide +kernel)
theorem wd_451 : (Cond.instanceMethod ({ cls := "PageRescue$Backups", name := "giveUp", desc := "()V" } : MethodName)) ∈ zws := zws_t 451 (by decide +kernel) (by decide +kernel)
theorem wd_452 : (Cond.selects "PageRescue$Backups" ({ cls := "PageRescue$Backups", name := "giveUp", desc := "()V" } : MethodName) ({ cls := "PageRescue$Backups", name := "giveUp", desc := "()V" } : MethodName)) ∈ zws := zws_t 452 (by decide +kernel) (by decide +kernel)
theorem wd_453 : (Cond.code ({ cls := "PageRescue$Backups", name := "giveUp", desc := "()V" } : MethodName) prog_3_method_7_code (1 : Nat) (Option.none : Option FieldType)) ∈ zws := zws_t 453 (by decide +kernel) (by decide +kernel)
theorem wd_454 : (Cond.methodLink "PageRescue" (206 : Nat) ({ cls := "PageRescue$Disk", name := "bestNumberOf", desc := "(I)I" } : MethodName)) ∈ zws := zws_t 454 (by decide +kernel) (by decide +kernel)
theorem wd_455 : (Cond.instanceMethod ({ cls := "PageRescue$Disk", name := "bestNumberOf", desc := "(I)I" } : MethodName)) ∈ zws := zws_t 455 (by decide +kernel) (by decide +kernel)
theorem wd_456 : (Cond.selects "PageRescue$Disk" ({ cls := "PageRescue$Disk", name := "bestNumberOf", desc := "(I)I" } : MethodName) ({ cls := "PageRescue$Disk", name := "bestNumberOf", desc := "(I)I" } : MethodName)) ∈ zws := zws_t 456 (by decide +kernel) (by decide +kernel)
theorem wd_457 : (Cond.code ({ cls := "PageRescue$Disk", name := "bestNumberOf", desc := "(I)I" } : MethodName) prog_4_method_6_code (2 : Nat) (Option.some FieldType.int)) ∈ zws := zws_t 457 (by decide +kernel) (by decide +kernel)
theorem wd_458 : (Cond.methodLink "PageRescue" (209 : Nat) ({ cls := "PageRescue$Backups", name := "bestNumberOf", desc := "(I)I" } : MethodName)) ∈ zws := zws_t 458 (by decide +kernel) (by decide +kernel)
theorem wd_459 : (Cond.instanceMethod ({ cls := "PageRescue$Backups", name := "bestNumberOf", desc := "(I)I" } : MethodName)) ∈ zws := zws_t 459 (by decide +kernel) (by decide +kernel)
theorem wd_460 : (Cond.selects "PageRescue$Backups" ({ cls := "PageRescue$Backups", name := "bestNumberOf", desc := "(I)I" } : MethodName) ({ cls := "PageRescue$Backups", name := "bestNumberOf", desc := "(I)I" } : MethodName)) ∈ zws := zws_t 460 (by decide +kernel) (by decide +kernel)
theorem wd_461 : (Cond.code ({ cls := "PageRescue$Backups", name := "bestNumberOf", desc := "(I)I" } : MethodName) prog_3_method_13_code (4 : Nat) (Option.some FieldType.int)) ∈ zws := zws_t 461 (by decide +kernel) (by decide +kernel)
theorem wd_462 : (Cond.methodLink "PageRescue$Backups" (110 : Nat) ({ cls := "PageRescue$Backup", name := "imageNumberOf", desc := "(I)I" } : MethodName)) ∈ zws := zws_t 462 (by decide +kernel) (by decide +kernel)
theorem wd_463 : (Cond.instanceMethod ({ cls := "PageRescue$Backup", name := "imageNumberOf", desc := "(I)I" } : MethodName)) ∈ zws := zws_t 463 (by decide +kernel) (by decide +kernel)
theorem wd_464 : (Cond.selects "PageRescue$Backup" ({ cls := "PageRescue$Backup", name := "imageNumberOf", desc := "(I)I" } : MethodName) ({ cls := "PageRescue$Backup", name := "imageNumberOf", desc := "(I)I" } : MethodName)) ∈ zws := zws_t 464 (by decide +kernel) (by decide +kernel)
theorem wd_465 : (Cond.code ({ cls := "PageRescue$Backup", name := "imageNumberOf", desc := "(I)I" } : MethodName) prog_2_method_4_code (2 : Nat) (Option.some FieldType.int)) ∈ zws := zws_t 465 (by decide +kernel) (by decide +kernel)
theorem wd_466 : (Cond.methodLink "PageRescue$Backups" (113 : Nat) ({ cls := "java/lang/Math", name := "max", desc := "(II)I" } : MethodName)) ∈ zws := zws_t 466 (by decide +kernel) (by decide +kernel)
theorem wd_467 : (Cond.methodLink "PageRescue" (157 : Nat) ({ cls := "PageRescue$Log", name := "changesAbove", desc := "([II)I" } : MethodName)) ∈ zws := zws_t 467 (by decide +kernel) (by decide +kernel)
theorem wd_468 : (Cond.instanceMethod ({ cls := "PageRescue$Log", name := "changesAbove", desc := "([II)I" } : MethodName)) ∈ zws := zws_t 468 (by decide +kernel) (by decide +kernel)
theorem wd_469 : (Cond.selects "PageRescue$Log" ({ cls := "PageRescue$Log", name := "changesAbove", desc := "([II)I" } : MethodName) ({ cls := "PageRescue$Log", name := "changesAbove", desc := "([II)I" } : MethodName)) ∈ zws := zws_t 469 (by decide +kernel) (by decide +kernel)
theorem wd_470 : (Cond.code ({ cls := "PageRescue$Log", name := "changesAbove", desc := "([II)I" } : MethodName) prog_5_method_17_code (6 : Nat) (Option.some FieldType.int)) ∈ zws := zws_t 470 (by decide +kernel) (by decide +kernel)
theorem wd_472 : (Cond.methodLink "PageRescueLaw" (66 : Nat) ({ cls := "PageRescue", name := "lose", desc := "()I" } : MethodName)) ∈ zws := zws_t 472 (by decide +kernel) (by decide +kernel)
theorem wd_473 : (Cond.instanceMethod ({ cls := "PageRescue", name := "lose", desc := "()I" } : MethodName)) ∈ zws := zws_t 473 (by decide +kernel) (by decide +kernel)
theorem wd_474 : (Cond.selects "PageRescue" ({ cls := "PageRescue", name := "lose", desc := "()I" } : MethodName) ({ cls := "PageRescue", name := "lose", desc := "()I" } : MethodName)) ∈ zws := zws_t 474 (by decide +kernel) (by decide +kernel)
theorem wd_475 : (Cond.code ({ cls := "PageRescue", name := "lose", desc := "()I" } : MethodName) prog_1_method_12_code (2 : Nat) (Option.some FieldType.int)) ∈ zws := zws_t 475 (by decide +kernel) (by decide +kernel)
theorem wd_476 : (Cond.methodLink "PageRescueLaw" (70 : Nat) ({ cls := "PageRescue", name := "restore", desc := "(I)I" } : MethodName)) ∈ zws := zws_t 476 (by decide +kernel) (by decide +kernel)
theorem wd_477 : (Cond.instanceMethod ({ cls := "PageRescue", name := "restore", desc := "(I)I" } : MethodName)) ∈ zws := zws_t 477 (by decide +kernel) (by decide +kernel)
theorem wd_478 : (Cond.selects "PageRescue" ({ cls := "PageRescue", name := "restore", desc := "(I)I" } : MethodName) ({ cls := "PageRescue", name := "restore", desc := "(I)I" } : MethodName)) ∈ zws := zws_t 478 (by decide +kernel) (by decide +kernel)
theorem wd_479 : (Cond.code ({ cls := "PageRescue", name := "restore", desc := "(I)I" } : MethodName) prog_1_method_13_code (5 : Nat) (Option.some FieldType.int)) ∈ zws := zws_t 479 (by decide +kernel) (by decide +kernel)
theorem wd_480 : (Cond.methodLink "PageRescue" (138 : Nat) ({ cls := "PageRescue$Log", name := "commits", desc := "()I" } : MethodName)) ∈ zws := zws_t 480 (by decide +kernel) (by decide +kernel)
theorem wd_481 : (Cond.instanceMethod ({ cls := "PageRescue$Log", name := "commits", desc := "()I" } : MethodName)) ∈ zws := zws_t 481 (by decide +kernel) (by decide +kernel)
theorem wd_482 : (Cond.selects "PageRescue$Log" ({ cls := "PageRescue$Log", name := "commits", desc := "()I" } : MethodName) ({ cls := "PageRescue$Log", name := "commits", desc := "()I" } : MethodName)) ∈ zws := zws_t 482 (by decide +kernel) (by decide +kernel)
theorem wd_483 : (Cond.code ({ cls := "PageRescue$Log", name := "commits", desc := "()I" } : MethodName) prog_5_method_3_code (1 : Nat) (Option.some FieldType.int)) ∈ zws := zws_t 483 (by decide +kernel) (by decide +kernel)
theorem wd_484 : (Cond.methodLink "PageRescue" (141 : Nat) ({ cls := "PageRescue$Log", name := "recordOfCommit", desc := "(I)I" } : MethodName)) ∈ zws := zws_t 484 (by decide +kernel) (by decide +kernel)
theorem wd_485 : (Cond.instanceMethod ({ cls := "PageRescue$Log", name := "recordOfCommit", desc := "(I)I" } : MethodName)) ∈ zws := zws_t 485 (by decide +kernel) (by decide +kernel)
theorem wd_486 : (Cond.selects "PageRescue$Log" ({ cls := "PageRescue$Log", name := "recordOfCommit", desc := "(I)I" } : MethodName) ({ cls := "PageRescue$Log", name := "recordOfCommit", desc := "(I)I" } : MethodName)) ∈ zws := zws_t 486 (by decide +kernel) (by decide +kernel)
theorem wd_487 : (Cond.code ({ cls := "PageRescue$Log", name := "recordOfCommit", desc := "(I)I" } : MethodName) prog_5_method_16_code (4 : Nat) (Option.some FieldType.int)) ∈ zws := zws_t 487 (by decide +kernel) (by decide +kernel)
theorem wd_488 : (Cond.methodLink "PageRescue" (144 : Nat) ({ cls := "PageRescue$Backups", name := "latestEndedBefore", desc := "(I)I" } : MethodName)) ∈ zws := zws_t 488 (by decide +kernel) (by decide +kernel)
theorem wd_489 : (Cond.instanceMethod ({ cls := "PageRescue$Backups", name := "latestEndedBefore", desc := "(I)I" } : MethodName)) ∈ zws := zws_t 489 (by decide +kernel) (by decide +kernel)
theorem wd_490 : (Cond.selects "PageRescue$Backups" ({ cls := "PageRescue$Backups", name := "latestEndedBefore", desc := "(I)I" } : MethodName) ({ cls := "PageRescue$Backups", name := "latestEndedBefore", desc := "(I)I" } : MethodName)) ∈ zws := zws_t 490 (by decide +kernel) (by decide +kernel)
theorem wd_491 : (Cond.code ({ cls := "PageRescue$Backups", name := "latestEndedBefore", desc := "(I)I" } : MethodName) prog_3_method_14_code (3 : Nat) (Option.some FieldType.int)) ∈ zws := zws_t 491 (by decide +kernel) (by decide +kernel)
theorem wd_492 : (Cond.methodLink "PageRescue" (147 : Nat) ({ cls := "PageRescue$Log", name := "purged", desc := "()I" } : MethodName)) ∈ zws := zws_t 492 (by decide +kernel) (by decide +kernel)
theorem wd_493 : (Cond.instanceMethod ({ cls := "PageRescue$Log", name := "purged", desc := "()I" } : MethodName)) ∈ zws := zws_t 493 (by decide +kernel) (by decide +kernel)
theorem wd_494 : (Cond.selects "PageRescue$Log" ({ cls := "PageRescue$Log", name := "purged", desc := "()I" } : MethodName) ({ cls := "PageRescue$Log", name := "purged", desc := "()I" } : MethodName)) ∈ zws := zws_t 494 (by decide +kernel) (by decide +kernel)
theorem wd_495 : (Cond.code ({ cls := "PageRescue$Log", name := "purged", desc := "()I" } : MethodName) prog_5_method_5_code (1 : Nat) (Option.some FieldType.int)) ∈ zws := zws_t 495 (by decide +kernel) (by decide +kernel)
theorem wd_496 : (Cond.methodLink "PageRescue" (150 : Nat) ({ cls := "PageRescue$Backups", name := "imageInChain", desc := "(II)I" } : MethodName)) ∈ zws := zws_t 496 (by decide +kernel) (by decide +kernel)
theorem wd_497 : (Cond.instanceMethod ({ cls := "PageRescue$Backups", name := "imageInChain", desc := "(II)I" } : MethodName)) ∈ zws := zws_t 497 (by decide +kernel) (by decide +kernel)
theorem wd_498 : (Cond.selects "PageRescue$Backups" ({ cls := "PageRescue$Backups", name := "imageInChain", desc := "(II)I" } : MethodName) ({ cls := "PageRescue$Backups", name := "imageInChain", desc := "(II)I" } : MethodName)) ∈ zws := zws_t 498 (by decide +kernel) (by decide +kernel)
theorem wd_499 : (Cond.code ({ cls := "PageRescue$Backups", name := "imageInChain", desc := "(II)I" } : MethodName) prog_3_method_15_code (4 : Nat) (Option.some FieldType.int)) ∈ zws := zws_t 499 (by decide +kernel) (by decide +kernel)
theorem wd_500 : (Cond.methodLink "PageRescue$Backups" (106 : Nat) ({ cls := "PageRescue$Backup", name := "hasImageOf", desc := "(I)Z" } : MethodName)) ∈ zws := zws_t 500 (by decide +kernel) (by decide +kernel)
theorem wd_501 : (Cond.instanceMethod ({ cls := "PageRescue$Backup", name := "hasImageOf", desc := "(I)Z" } : MethodName)) ∈ zws := zws_t 501 (by decide +kernel) (by decide +kernel)
theorem wd_502 : (Cond.selects "PageRescue$Backup" ({ cls := "PageRescue$Backup", name := "hasImageOf", desc := "(I)Z" } : MethodName) ({ cls := "PageRescue$Backup", name := "hasImageOf", desc := "(I)Z" } : MethodName)) ∈ zws := zws_t 502 (by decide +kernel) (by decide +kernel)
theorem wd_503 : (Cond.code ({ cls := "PageRescue$Backup", name := "hasImageOf", desc := "(I)Z" } : MethodName) prog_2_method_3_code (2 : Nat) (Option.some FieldType.boolean)) ∈ zws := zws_t 503 (by decide +kernel) (by decide +kernel)
theorem wd_504 : (Cond.methodLink "PageRescue" (153 : Nat) ({ cls := "PageRescue$Log", name := "tableUpTo", desc := "(I[J)V" } : MethodName)) ∈ zws := zws_t 504 (by decide +kernel) (by decide +kernel)
theorem wd_505 : (Cond.instanceMethod ({ cls := "PageRescue$Log", name := "tableUpTo", desc := "(I[J)V" } : MethodName)) ∈ zws := zws_t 505 (by decide +kernel) (by decide +kernel)
theorem wd_506 : (Cond.selects "PageRescue$Log" ({ cls := "PageRescue$Log", name := "tableUpTo", desc := "(I[J)V" } : MethodName) ({ cls := "PageRescue$Log", name := "tableUpTo", desc := "(I[J)V" } : MethodName)) ∈ zws := zws_t 506 (by decide +kernel) (by decide +kernel)
theorem wd_507 : (Cond.code ({ cls := "PageRescue$Log", name := "tableUpTo", desc := "(I[J)V" } : MethodName) prog_5_method_18_code (5 : Nat) (Option.none : Option FieldType)) ∈ zws := zws_t 507 (by decide +kernel) (by decide +kernel)
theorem wd_508 : (Cond.methodLink "PageRescueLaw" (74 : Nat) ({ cls := "PageRescue", name := "look", desc := "(I)J" } : MethodName)) ∈ zws := zws_t 508 (by decide +kernel) (by decide +kernel)
theorem wd_509 : (Cond.instanceMethod ({ cls := "PageRescue", name := "look", desc := "(I)J" } : MethodName)) ∈ zws := zws_t 509 (by decide +kernel) (by decide +kernel)
theorem wd_510 : (Cond.selects "PageRescue" ({ cls := "PageRescue", name := "look", desc := "(I)J" } : MethodName) ({ cls := "PageRescue", name := "look", desc := "(I)J" } : MethodName)) ∈ zws := zws_t 510 (by decide +kernel) (by decide +kernel)
theorem wd_511 : (Cond.code ({ cls := "PageRescue", name := "look", desc := "(I)J" } : MethodName) prog_1_method_14_code (2 : Nat) (Option.some FieldType.long)) ∈ zws := zws_t 511 (by decide +kernel) (by decide +kernel)
theorem wd_512 : (Cond.methodLink "PageRescueLaw" (78 : Nat) ({ cls := "PageRescue", name := "page", desc := "(II)I" } : MethodName)) ∈ zws := zws_t 512 (by decide +kernel) (by decide +kernel)
theorem wd_513 : (Cond.instanceMethod ({ cls := "PageRescue", name := "page", desc := "(II)I" } : MethodName)) ∈ zws := zws_t 513 (by decide +kernel) (by decide +kernel)
theorem wd_514 : (Cond.selects "PageRescue" ({ cls := "PageRescue", name := "page", desc := "(II)I" } : MethodName) ({ cls := "PageRescue", name := "page", desc := "(II)I" } : MethodName)) ∈ zws := zws_t 514 (by decide +kernel) (by decide +kernel)
theorem wd_515 : (Cond.code ({ cls := "PageRescue", name := "page", desc := "(II)I" } : MethodName) prog_1_method_15_code (3 : Nat) (Option.some FieldType.int)) ∈ zws := zws_t 515 (by decide +kernel) (by decide +kernel)
theorem wd_516 : (Cond.methodLink "PageRescue" (161 : Nat) ({ cls := "PageRescue$Disk", name := "numberOf", desc := "(I)I" } : MethodName)) ∈ zws := zws_t 516 (by decide +kernel) (by decide +kernel)
theorem wd_517 : (Cond.instanceMethod ({ cls := "PageRescue$Disk", name := "numberOf", desc := "(I)I" } : MethodName)) ∈ zws := zws_t 517 (by decide +kernel) (by decide +kernel)
theorem wd_518 : (Cond.selects "PageRescue$Disk" ({ cls := "PageRescue$Disk", name := "numberOf", desc := "(I)I" } : MethodName) ({ cls := "PageRescue$Disk", name := "numberOf", desc := "(I)I" } : MethodName)) ∈ zws := zws_t 518 (by decide +kernel) (by decide +kernel)
theorem wd_519 : (Cond.code ({ cls := "PageRescue$Disk", name := "numberOf", desc := "(I)I" } : MethodName) prog_4_method_4_code (2 : Nat) (Option.some FieldType.int)) ∈ zws := zws_t 519 (by decide +kernel) (by decide +kernel)
theorem wd_520 : (Cond.methodLink "PageRescue" (164 : Nat) ({ cls := "PageRescue$Disk", name := "isReadable", desc := "(I)Z" } : MethodName)) ∈ zws := zws_t 520 (by decide +kernel) (by decide +kernel)
theorem wd_521 : (Cond.instanceMethod ({ cls := "PageRescue$Disk", name := "isReadable", desc := "(I)Z" } : MethodName)) ∈ zws := zws_t 521 (by decide +kernel) (by decide +kernel)
theorem wd_522 : (Cond.selects "PageRescue$Disk" ({ cls := "PageRescue$Disk", name := "isReadable", desc := "(I)Z" } : MethodName) ({ cls := "PageRescue$Disk", name := "isReadable", desc := "(I)Z" } : MethodName)) ∈ zws := zws_t 522 (by decide +kernel) (by decide +kernel)
theorem wd_523 : (Cond.code ({ cls := "PageRescue$Disk", name := "isReadable", desc := "(I)Z" } : MethodName) prog_4_method_5_code (2 : Nat) (Option.some FieldType.boolean)) ∈ zws := zws_t 523 (by decide +kernel) (by decide +kernel)
theorem wd_524 : (Cond.methodLink "PageRescue" (167 : Nat) ({ cls := "PageRescue$Backups", name := "keptImagesOf", desc := "(I)I" } : MethodName)) ∈ zws := zws_t 524 (by decide +kernel) (by decide +kernel)
theorem wd_525 : (Cond.instanceMethod ({ cls := "PageRescue$Backups", name := "keptImagesOf", desc := "(I)I" } : MethodName)) ∈ zws := zws_t 525 (by decide +kernel) (by decide +kernel)
theorem wd_526 : (Cond.selects "PageRescue$Backups" ({ cls := "PageRescue$Backups", name := "keptImagesOf", desc := "(I)I" } : MethodName) ({ cls := "PageRescue$Backups", name := "keptImagesOf", desc := "(I)I" } : MethodName)) ∈ zws := zws_t 526 (by decide +kernel) (by decide +kernel)
theorem wd_527 : (Cond.code ({ cls := "PageRescue$Backups", name := "keptImagesOf", desc := "(I)I" } : MethodName) prog_3_method_12_code (4 : Nat) (Option.some FieldType.int)) ∈ zws := zws_t 527 (by decide +kernel) (by decide +kernel)
theorem wd_528 : (Cond.methodLink "PageRescueLaw" (83 : Nat) ({ cls := "PageRescue", name := "ofBackup", desc := "(II)I" } : MethodName)) ∈ zws := zws_t 528 (by decide +kernel) (by decide +kernel)
theorem wd_529 : (Cond.instanceMethod ({ cls := "PageRescue", name := "ofBackup", desc := "(II)I" } : MethodName)) ∈ zws := zws_t 529 (by decide +kernel) (by decide +kernel)
theorem wd_530 : (Cond.selects "PageRescue" ({ cls := "PageRescue", name := "ofBackup", desc := "(II)I" } : MethodName) ({ cls := "PageRescue", name := "ofBackup", desc := "(II)I" } : MethodName)) ∈ zws := zws_t 530 (by decide +kernel) (by decide +kernel)
theorem wd_531 : (Cond.code ({ cls := "PageRescue", name := "ofBackup", desc := "(II)I" } : MethodName) prog_1_method_16_code (4 : Nat) (Option.some FieldType.int)) ∈ zws := zws_t 531 (by decide +kernel) (by decide +kernel)
theorem wd_532 : (Cond.methodLink "PageRescue" (170 : Nat) ({ cls := "PageRescue$Backups", name := "howMany", desc := "()I" } : MethodName)) ∈ zws := zws_t 532 (by decide +kernel) (by decide +kernel)
theorem wd_533 : (Cond.methodLink "PageRescue" (173 : Nat) ({ cls := "PageRescue$Backups", name := "numbered", desc := "(I)LPageRescue$Backup;" } : MethodName)) ∈ zws := zws_t 533 (by decide +kernel) (by decide +kernel)
theorem wd_534 : (Cond.methodLink "PageRescue" (177 : Nat) ({ cls := "PageRescue$Backups", name := "isKept", desc := "(I)Z" } : MethodName)) ∈ zws := zws_t 534 (by decide +kernel) (by decide +kernel)
theorem wd_535 : (Cond.instanceMethod ({ cls := "PageRescue$Backups", name := "isKept", desc := "(I)Z" } : MethodName)) ∈ zws := zws_t 535 (by decide +kernel) (by decide +kernel)
theorem wd_536 : (Cond.selects "PageRescue$Backups" ({ cls := "PageRescue$Backups", name := "isKept", desc := "(I)Z" } : MethodName) ({ cls := "PageRescue$Backups", name := "isKept", desc := "(I)Z" } : MethodName)) ∈ zws := zws_t 536 (by decide +kernel) (by decide +kernel)
theorem wd_537 : (Cond.code ({ cls := "PageRescue$Backups", name := "isKept", desc := "(I)Z" } : MethodName) prog_3_method_4_code (2 : Nat) (Option.some FieldType.boolean)) ∈ zws := zws_t 537 (by decide +kernel) (by decide +kernel)
theorem wd_538 : (Cond.methodLink "PageRescueLaw" (87 : Nat) ({ cls := "PageRescue", name := "count", desc := "(I)I" } : MethodName)) ∈ zws := zws_t 538 (by decide +kernel) (by decide +kernel)
theorem wd_539 : (Cond.instanceMethod ({ cls := "PageRescue", name := "count", desc := "(I)I" } : MethodName)) ∈ zws := zws_t 539 (by decide +kernel) (by decide +kernel)
theorem wd_540 : (Cond.selects "PageRescue" ({ cls := "PageRescue", name := "count", desc := "(I)I" } : MethodName) ({ cls := "PageRescue", name := "count", desc := "(I)I" } : MethodName)) ∈ zws := zws_t 540 (by decide +kernel) (by decide +kernel)
theorem wd_541 : (Cond.code ({ cls := "PageRescue", name := "count", desc := "(I)I" } : MethodName) prog_1_method_17_code (2 : Nat) (Option.some FieldType.int)) ∈ zws := zws_t 541 (by decide +kernel) (by decide +kernel)
theorem wd_542 : (Cond.methodLink "PageRescue" (194 : Nat) ({ cls := "PageRescue$Log", name := "online", desc := "()I" } : MethodName)) ∈ zws := zws_t 542 (by decide +kernel) (by decide +kernel)
theorem wd_543 : (Cond.instanceMethod ({ cls := "PageRescue$Log", name := "online", desc := "()I" } : MethodName)) ∈ zws := zws_t 543 (by decide +kernel) (by decide +kernel)
theorem wd_544 : (Cond.selects "PageRescue$Log" ({ cls := "PageRescue$Log", name := "online", desc := "()I" } : MethodName) ({ cls := "PageRescue$Log", name := "online", desc := "()I" } : MethodName)) ∈ zws := zws_t 544 (by decide +kernel) (by decide +kernel)
theorem wd_545 : (Cond.code ({ cls := "PageRescue$Log", name := "online", desc := "()I" } : MethodName) prog_5_method_9_code (2 : Nat) (Option.some FieldType.int)) ∈ zws := zws_t 545 (by decide +kernel) (by decide +kernel)
theorem wd_546 : (Cond.methodLink "PageRescue" (197 : Nat) ({ cls := "PageRescue$Log", name := "archived", desc := "()I" } : MethodName)) ∈ zws := zws_t 546 (by decide +kernel) (by decide +kernel)
theorem wd_547 : (Cond.instanceMethod ({ cls := "PageRescue$Log", name := "archived", desc := "()I" } : MethodName)) ∈ zws := zws_t 547 (by decide +kernel) (by decide +kernel)
theorem wd_548 : (Cond.selects "PageRescue$Log" ({ cls := "PageRescue$Log", name := "archived", desc := "()I" } : MethodName) ({ cls := "PageRescue$Log", name := "archived", desc := "()I" } : MethodName)) ∈ zws := zws_t 548 (by decide +kernel) (by decide +kernel)
theorem wd_549 : (Cond.code ({ cls := "PageRescue$Log", name := "archived", desc := "()I" } : MethodName) prog_5_method_4_code (1 : Nat) (Option.some FieldType.int)) ∈ zws := zws_t 549 (by decide +kernel) (by decide +kernel)
theorem wd_550 : (Cond.methodLink "PageRescue" (200 : Nat) ({ cls := "PageRescue$Backups", name := "stillToVisit", desc := "()I" } : MethodName)) ∈ zws := zws_t 550 (by decide +kernel) (by decide +kernel)
theorem wd_551 : (Cond.instanceMethod ({ cls := "PageRescue$Backups", name := "stillToVisit", desc := "()I" } : MethodName)) ∈ zws := zws_t 551 (by decide +kernel) (by decide +kernel)
theorem wd_552 : (Cond.selects "PageRescue$Backups" ({ cls := "PageRescue$Backups", name := "stillToVisit", desc := "()I" } : MethodName) ({ cls := "PageRescue$Backups", name := "stillToVisit", desc := "()I" } : MethodName)) ∈ zws := zws_t 552 (by decide +kernel) (by decide +kernel)
theorem wd_553 : (Cond.code ({ cls := "PageRescue$Backups", name := "stillToVisit", desc := "()I" } : MethodName) prog_3_method_5_code (1 : Nat) (Option.some FieldType.int)) ∈ zws := zws_t 553 (by decide +kernel) (by decide +kernel)
theorem wd_554 : (Cond.methodLink "PageRescueLaw" (9 : Nat) ({ cls := "PageRescueLaw", name := "cell", desc := "([II)I" } : MethodName)) ∈ zws := zws_t 554 (by decide +kernel) (by decide +kernel)
theorem wd_555 : (Cond.static ({ cls := "PageRescueLaw", name := "cell", desc := "([II)I" } : MethodName)) ∈ zws := zws_t 555 (by decide +kernel) (by decide +kernel)
theorem wd_556 : (Cond.code ({ cls := "PageRescueLaw", name := "cell", desc := "([II)I" } : MethodName) method_2_code (2 : Nat) (Option.some FieldType.int)) ∈ zws := zws_t 556 (by decide +kernel) (by decide +kernel)
theorem wd_557 : (Cond.classLink "PageRescueLaw" (18 : Nat) "PageRescueModel") ∈ zws := zws_t 557 (by decide +kernel) (by decide +kernel)
theorem wd_558 : (Cond.instantiable "PageRescueModel" (21 : Nat)) ∈ zws := zws_t 558 (by decide +kernel) (by decide +kernel)
theorem wd_559 : (Cond.methodLink "PageRescueLaw" (20 : Nat) ({ cls := "PageRescueModel", name := "<init>", desc := "(II)V" } : MethodName)) ∈ zws := zws_t 559 (by decide +kernel) (by decide +kernel)
theorem wd_560 : (Cond.instanceMethod ({ cls := "PageRescueModel", name := "<init>", desc := "(II)V" } : MethodName)) ∈ zws := zws_t 560 (by decide +kernel) (by decide +kernel)
theorem wd_561 : (Cond.code ({ cls := "PageRescueModel", name := "<init>", desc := "(II)V" } : MethodName) prog_8_method_1_code (4 : Nat) (Option.none : Option FieldType)) ∈ zws := zws_t 561 (by decide +kernel) (by decide +kernel)
theorem wd_562 : (Cond.methodLink "PageRescueModel" (1 : Nat) ({ cls := "java/lang/Object", name := "<init>", desc := "()V" } : MethodName)) ∈ zws := zws_t 562 (by decide +kernel) (by decide +kernel)
theorem wd_563 : (Cond.fieldLink "PageRescueModel" (51 : Nat) "PageRescueModel" "size" "I") ∈ zws := zws_t 563 (by decide +kernel) (by decide +kernel)
theorem wd_564 : (Cond.fieldLink "PageRescueModel" (54 : Nat) "PageRescueModel" "keep" "I") ∈ zws := zws_t 564 (by decide +kernel) (by decide +kernel)
theorem wd_565 : (Cond.fieldLink "PageRescueModel" (7 : Nat) "PageRescueModel" "key" "[I") ∈ zws := zws_t 565 (by decide +kernel) (by decide +kernel)
theorem wd_566 : (Cond.fieldLink "PageRescueModel" (13 : Nat) "PageRescueModel" "value" "[I") ∈ zws := zws_t 566 (by decide +kernel) (by decide +kernel)
theorem wd_567 : (Cond.fieldLink "PageRescueModel" (16 : Nat) "PageRescueModel" "has" "[Z") ∈ zws := zws_t 567 (by decide +kernel) (by decide +kernel)
theorem wd_568 : (Cond.fieldLink "PageRescueModel" (57 : Nat) "PageRescueModel" "records" "I") ∈ zws := zws_t 568 (by decide +kernel) (by decide +kernel)
theorem wd_569 : (Cond.fieldLink "PageRescueModel" (76 : Nat) "PageRescueModel" "open" "Z") ∈ zws := zws_t 569 (by decide +kernel) (by decide +kernel)
theorem wd_570 : (Cond.fieldLink "PageRescueModel" (20 : Nat) "PageRescueModel" "mine" "[I") ∈ zws := zws_t 570 (by decide +kernel) (by decide +kernel)
theorem wd_571 : (Cond.fieldLink "PageRescueModel" (65 : Nat) "PageRescueModel" "changes" "I") ∈ zws := zws_t 571 (by decide +kernel) (by decide +kernel)
theorem wd_572 : (Cond.fieldLink "PageRescueModel" (62 : Nat) "PageRescueModel" "archived" "I") ∈ zws := zws_t 572 (by decide +kernel) (by decide +kernel)
theorem wd_573 : (Cond.fieldLink "PageRescueModel" (109 : Nat) "PageRescueModel" "purged" "I") ∈ zws := zws_t 573 (by decide +kernel) (by decide +kernel)
theorem wd_574 : (Cond.fieldLink "PageRescueModel" (23 : Nat) "PageRescueModel" "image" "[I") ∈ zws := zws_t 574 (by decide +kernel) (by decide +kernel)
theorem wd_575 : (Cond.fieldLink "PageRescueModel" (26 : Nat) "PageRescueModel" "readable" "[Z") ∈ zws := zws_t 575 (by decide +kernel) (by decide +kernel)
theorem wd_576 : (Cond.fieldLink "PageRescueModel" (29 : Nat) "PageRescueModel" "kept" "[Z") ∈ zws := zws_t 576 (by decide +kernel) (by decide +kernel)
theorem wd_577 : (Cond.fieldLink "PageRescueModel" (32 : Nat) "PageRescueModel" "full" "[Z") ∈ zws := zws_t 577 (by decide +kernel) (by decide +kernel)
theorem wd_578 : (Cond.fieldLink "PageRescueModel" (35 : Nat) "PageRescueModel" "start" "[I") ∈ zws := zws_t 578 (by decide +kernel) (by decide +kernel)
theorem wd_579 : (Cond.fieldLink "PageRescueModel" (38 : Nat) "PageRescueModel" "end" "[I") ∈ zws := zws_t 579 (by decide +kernel) (by decide +kernel)
theorem wd_580 : (Cond.fieldLink "PageRescueModel" (41 : Nat) "PageRescueModel" "copy" "[I") ∈ zws := zws_t 580 (by decide +kernel) (by decide +kernel)
theorem wd_581 : (Cond.fieldLink "PageRescueModel" (100 : Nat) "PageRescueModel" "backups" "I") ∈ zws := zws_t 581 (by decide +kernel) (by decide +kernel)
theorem wd_582 : (Cond.fieldLink "PageRescueModel" (44 : Nat) "PageRescueModel" "left" "I") ∈ zws := zws_t 582 (by decide +kernel) (by decide +kernel)
theorem wd_583 : (Cond.fieldLink "PageRescueModel" (48 : Nat) "PageRescueModel" "scratch" "I") ∈ zws := zws_t 583 (by decide +kernel) (by decide +kernel)
theorem wd_627 : (Cond.methodLink "PageRescueLaw" (25 : Nat) ({ cls := "PageRescueModel", name := "begin", desc := "()I" } : MethodName)) ∈ zws := zws_t 627 (by decide +kernel) (by decide +kernel)
theorem wd_628 : (Cond.instanceMethod ({ cls := "PageRescueModel", name := "begin", desc := "()I" } : MethodName)) ∈ zws := zws_t 628 (by decide +kernel) (by decide +kernel)
theorem wd_629 : (Cond.selects "PageRescueModel" ({ cls := "PageRescueModel", name := "begin", desc := "()I" } : MethodName) ({ cls := "PageRescueModel", name := "begin", desc := "()I" } : MethodName)) ∈ zws := zws_t 629 (by decide +kernel) (by decide +kernel)
theorem wd_630 : (Cond.code ({ cls := "PageRescueModel", name := "begin", desc := "()I" } : MethodName) prog_8_method_10_code (1 : Nat) (Option.some FieldType.int)) ∈ zws := zws_t 630 (by decide +kernel) (by decide +kernel)
theorem wd_631 : (Cond.methodLink "PageRescueLaw" (30 : Nat) ({ cls := "PageRescueModel", name := "put", desc := "(IIZ)I" } : MethodName)) ∈ zws := zws_t 631 (by decide +kernel) (by decide +kernel)
theorem wd_632 : (Cond.instanceMethod ({ cls := "PageRescueModel", name := "put", desc := "(IIZ)I" } : MethodName)) ∈ zws := zws_t 632 (by decide +kernel) (by decide +kernel)
theorem wd_633 : (Cond.selects "PageRescueModel" ({ cls := "PageRescueModel", name := "put", desc := "(IIZ)I" } : MethodName) ({ cls := "PageRescueModel", name := "put", desc := "(IIZ)I" } : MethodName)) ∈ zws := zws_t 633 (by decide +kernel) (by decide +kernel)
theorem wd_634 : (Cond.code ({ cls := "PageRescueModel", name := "put", desc := "(IIZ)I" } : MethodName) prog_8_method_11_code (4 : Nat) (Option.some FieldType.int)) ∈ zws := zws_t 634 (by decide +kernel) (by decide +kernel)
theorem wd_635 : (Cond.methodLink "PageRescueModel" (80 : Nat) ({ cls := "PageRescueModel", name := "in", desc := "(II)Z" } : MethodName)) ∈ zws := zws_t 635 (by decide +kernel) (by decide +kernel)
theorem wd_636 : (Cond.static ({ cls := "PageRescueModel", name := "in", desc := "(II)Z" } : MethodName)) ∈ zws := zws_t 636 (by decide +kernel) (by decide +kernel)
theorem wd_637 : (Cond.code ({ cls := "PageRescueModel", name := "in", desc := "(II)Z" } : MethodName) prog_8_method_2_code (2 : Nat) (Option.some FieldType.boolean)) ∈ zws := zws_t 637 (by decide +kernel) (by decide +kernel)
theorem wd_638 : (Cond.methodLink "PageRescueModel" (84 : Nat) ({ cls := "PageRescueModel", name := "room", desc := "()I" } : MethodName)) ∈ zws := zws_t 638 (by decide +kernel) (by decide +kernel)
theorem wd_640 : (Cond.instanceMethod ({ cls := "PageRescueModel", name := "room", desc := "()I" } : MethodName)) ∈ zws := zws_t 640 (by decide +kernel) (by decide +kernel)
theorem wd_641 : (Cond.code ({ cls := "PageRescueModel", name := "room", desc := "()I" } : MethodName) prog_8_method_5_code (1 : Nat) (Option.some FieldType.int)) ∈ zws := zws_t 641 (by decide +kernel) (by decide +kernel)
theorem wd_642 : (Cond.methodLink "PageRescueModel" (72 : Nat) ({ cls := "PageRescueModel", name := "log", desc := "(IIZ)I" } : MethodName)) ∈ zws := zws_t 642 (by decide +kernel) (by decide +kernel)
theorem wd_644 : (Cond.instanceMethod ({ cls := "PageRescueModel", name := "log", desc := "(IIZ)I" } : MethodName)) ∈ zws := zws_t 644 (by decide +kernel) (by decide +kernel)
theorem wd_645 : (Cond.code ({ cls := "PageRescueModel", name := "log", desc := "(IIZ)I" } : MethodName) prog_8_method_3_code (4 : Nat) (Option.some FieldType.int)) ∈ zws := zws_t 645 (by decide +kernel) (by decide +kernel)
theorem wd_646 : (Cond.methodLink "PageRescueLaw" (34 : Nat) ({ cls := "PageRescueModel", name := "commit", desc := "()I" } : MethodName)) ∈ zws := zws_t 646 (by decide +kernel) (by decide +kernel)
theorem wd_647 : (Cond.instanceMethod ({ cls := "PageRescueModel", name := "commit", desc := "()I" } : MethodName)) ∈ zws := zws_t 647 (by decide +kernel) (by decide +kernel)
theorem wd_648 : (Cond.selects "PageRescueModel" ({ cls := "PageRescueModel", name := "commit", desc := "()I" } : MethodName) ({ cls := "PageRescueModel", name := "commit", desc := "()I" } : MethodName)) ∈ zws := zws_t 648 (by decide +kernel) (by decide +kernel)
theorem wd_649 : (Cond.code ({ cls := "PageRescueModel", name := "commit", desc := "()I" } : MethodName) prog_8_method_13_code (2 : Nat) (Option.some FieldType.int)) ∈ zws := zws_t 649 (by decide +kernel) (by decide +kernel)
theorem wd_650 : (Cond.methodLink "PageRescueModel" (88 : Nat) ({ cls := "PageRescueModel", name := "commits", desc := "()I" } : MethodName)) ∈ zws := zws_t 650 (by decide +kernel) (by decide +kernel)
theorem wd_652 : (Cond.instanceMethod ({ cls := "PageRescueModel", name := "commits", desc := "()I" } : MethodName)) ∈ zws := zws_t 652 (by decide +kernel) (by decide +kernel)
theorem wd_653 : (Cond.code ({ cls := "PageRescueModel", name := "commits", desc := "()I" } : MethodName) prog_8_method_12_code (3 : Nat) (Option.some FieldType.int)) ∈ zws := zws_t 653 (by decide +kernel) (by decide +kernel)
theorem wd_654 : (Cond.methodLink "PageRescueLaw" (38 : Nat) ({ cls := "PageRescueModel", name := "abort", desc := "()I" } : MethodName)) ∈ zws := zws_t 654 (by decide +kernel) (by decide +kernel)
theorem wd_655 : (Cond.instanceMethod ({ cls := "PageRescueModel", name := "abort", desc := "()I" } : MethodName)) ∈ zws := zws_t 655 (by decide +kernel) (by decide +kernel)
theorem wd_656 : (Cond.selects "PageRescueModel" ({ cls := "PageRescueModel", name := "abort", desc := "()I" } : MethodName) ({ cls := "PageRescueModel", name := "abort", desc := "()I" } : MethodName)) ∈ zws := zws_t 656 (by decide +kernel) (by decide +kernel)
theorem wd_657 : (Cond.code ({ cls := "PageRescueModel", name := "abort", desc := "()I" } : MethodName) prog_8_method_14_code (2 : Nat) (Option.some FieldType.int)) ∈ zws := zws_t 657 (by decide +kernel) (by decide +kernel)
theorem wd_658 : (Cond.methodLink "PageRescueModel" (91 : Nat) ({ cls := "PageRescueModel", name := "undo", desc := "()V" } : MethodName)) ∈ zws := zws_t 658 (by decide +kernel) (by decide +kernel)
theorem wd_660 : (Cond.instanceMethod ({ cls := "PageRescueModel", name := "undo", desc := "()V" } : MethodName)) ∈ zws := zws_t 660 (by decide +kernel) (by decide +kernel)
theorem wd_661 : (Cond.code ({ cls := "PageRescueModel", name := "undo", desc := "()V" } : MethodName) prog_8_method_9_code (5 : Nat) (Option.none : Option FieldType)) ∈ zws := zws_t 661 (by decide +kernel) (by decide +kernel)
theorem wd_662 : (Cond.methodLink "PageRescueModel" (68 : Nat) ({ cls := "PageRescueModel", name := "after", desc := "(II)J" } : MethodName)) ∈ zws := zws_t 662 (by decide +kernel) (by decide +kernel)
theorem wd_664 : (Cond.instanceMethod ({ cls := "PageRescueModel", name := "after", desc := "(II)J" } : MethodName)) ∈ zws := zws_t 664 (by decide +kernel) (by decide +kernel)
theorem wd_665 : (Cond.code ({ cls := "PageRescueModel", name := "after", desc := "(II)J" } : MethodName) prog_8_method_4_code (4 : Nat) (Option.some FieldType.long)) ∈ zws := zws_t 665 (by decide +kernel) (by decide +kernel)
theorem wd_666 : (Cond.constantLong "PageRescueModel" (60 : Nat) (1000000000000 : Int64)) ∈ zws := zws_t 666 (by decide +kernel) (by decide +kernel)
theorem wd_667 : (Cond.methodLink "PageRescueLaw" (43 : Nat) ({ cls := "PageRescueModel", name := "get", desc := "(I)J" } : MethodName)) ∈ zws := zws_t 667 (by decide +kernel) (by decide +kernel)
theorem wd_668 : (Cond.instanceMethod ({ cls := "PageRescueModel", name := "get", desc := "(I)J" } : MethodName)) ∈ zws := zws_t 668 (by decide +kernel) (by decide +kernel)
theorem wd_669 : (Cond.selects "PageRescueModel" ({ cls := "PageRescueModel", name := "get", desc := "(I)J" } : MethodName) ({ cls := "PageRescueModel", name := "get", desc := "(I)J" } : MethodName)) ∈ zws := zws_t 669 (by decide +kernel) (by decide +kernel)
theorem wd_670 : (Cond.code ({ cls := "PageRescueModel", name := "get", desc := "(I)J" } : MethodName) prog_8_method_15_code (2 : Nat) (Option.some FieldType.long)) ∈ zws := zws_t 670 (by decide +kernel) (by decide +kernel)
theorem wd_671 : (Cond.constantLong "PageRescueModel" (94 : Nat) (-1000000000000 : Int64)) ∈ zws := zws_t 671 (by decide +kernel) (by decide +kernel)
theorem wd_672 : (Cond.methodLink "PageRescueLaw" (48 : Nat) ({ cls := "PageRescueModel", name := "write", desc := "(I)I" } : MethodName)) ∈ zws := zws_t 672 (by decide +kernel) (by decide +kernel)
theorem wd_673 : (Cond.instanceMethod ({ cls := "PageRescueModel", name := "write", desc := "(I)I" } : MethodName)) ∈ zws := zws_t 673 (by decide +kernel) (by decide +kernel)
theorem wd_674 : (Cond.selects "PageRescueModel" ({ cls := "PageRescueModel", name := "write", desc := "(I)I" } : MethodName) ({ cls := "PageRescueModel", name := "write", desc := "(I)I" } : MethodName)) ∈ zws := zws_t 674 (by decide +kernel) (by decide +kernel)
theorem wd_675 : (Cond.code ({ cls := "PageRescueModel", name := "write", desc := "(I)I" } : MethodName) prog_8_method_16_code (2 : Nat) (Option.some FieldType.int)) ∈ zws := zws_t 675 (by decide +kernel) (by decide +kernel)
theorem wd_676 : (Cond.methodLink "PageRescueModel" (96 : Nat) ({ cls := "PageRescueModel", name := "numberOf", desc := "(I)I" } : MethodName)) ∈ zws := zws_t 676 (by decide +kernel) (by decide +kernel)
theorem wd_678 : (Cond.instanceMethod ({ cls := "PageRescueModel", name := "numberOf", desc := "(I)I" } : MethodName)) ∈ zws := zws_t 678 (by decide +kernel) (by decide +kernel)
theorem wd_679 : (Cond.code ({ cls := "PageRescueModel", name := "numberOf", desc := "(I)I" } : MethodName) prog_8_method_7_code (3 : Nat) (Option.some FieldType.int)) ∈ zws := zws_t 679 (by decide +kernel) (by decide +kernel)
theorem wd_680 : (Cond.methodLink "PageRescueLaw" (52 : Nat) ({ cls := "PageRescueModel", name := "archive", desc := "()I" } : MethodName)) ∈ zws := zws_t 680 (by decide +kernel) (by decide +kernel)
theorem wd_681 : (Cond.instanceMethod ({ cls := "PageRescueModel", name := "archive", desc := "()I" } : MethodName)) ∈ zws := zws_t 681 (by decide +kernel) (by decide +kernel)
theorem wd_682 : (Cond.selects "PageRescueModel" ({ cls := "PageRescueModel", name := "archive", desc := "()I" } : MethodName) ({ cls := "PageRescueModel", name := "archive", desc := "()I" } : MethodName)) ∈ zws := zws_t 682 (by decide +kernel) (by decide +kernel)
theorem wd_683 : (Cond.code ({ cls := "PageRescueModel", name := "archive", desc := "()I" } : MethodName) prog_8_method_17_code (1 : Nat) (Option.some FieldType.int)) ∈ zws := zws_t 683 (by decide +kernel) (by decide +kernel)
theorem wd_684 : (Cond.methodLink "PageRescueLaw" (57 : Nat) ({ cls := "PageRescueModel", name := "backup", desc := "(Z)I" } : MethodName)) ∈ zws := zws_t 684 (by decide +kernel) (by decide +kernel)
theorem wd_685 : (Cond.instanceMethod ({ cls := "PageRescueModel", name := "backup", desc := "(Z)I" } : MethodName)) ∈ zws := zws_t 685 (by decide +kernel) (by decide +kernel)
theorem wd_686 : (Cond.selects "PageRescueModel" ({ cls := "PageRescueModel", name := "backup", desc := "(Z)I" } : MethodName) ({ cls := "PageRescueModel", name := "backup", desc := "(Z)I" } : MethodName)) ∈ zws := zws_t 686 (by decide +kernel) (by decide +kernel)
theorem wd_687 : (Cond.code ({ cls := "PageRescueModel", name := "backup", desc := "(Z)I" } : MethodName) prog_8_method_19_code (4 : Nat) (Option.some FieldType.int)) ∈ zws := zws_t 687 (by decide +kernel) (by decide +kernel)
theorem wd_688 : (Cond.methodLink "PageRescueModel" (103 : Nat) ({ cls := "PageRescueModel", name := "fulls", desc := "()I" } : MethodName)) ∈ zws := zws_t 688 (by decide +kernel) (by decide +kernel)
theorem wd_690 : (Cond.instanceMethod ({ cls := "PageRescueModel", name := "fulls", desc := "()I" } : MethodName)) ∈ zws := zws_t 690 (by decide +kernel) (by decide +kernel)
theorem wd_691 : (Cond.code ({ cls := "PageRescueModel", name := "fulls", desc := "()I" } : MethodName) prog_8_method_18_code (3 : Nat) (Option.some FieldType.int)) ∈ zws := zws_t 691 (by decide +kernel) (by decide +kernel)
theorem wd_692 : (Cond.methodLink "PageRescueLaw" (61 : Nat) ({ cls := "PageRescueModel", name := "step", desc := "(I)I" } : MethodName)) ∈ zws := zws_t 692 (by decide +kernel) (by decide +kernel)
theorem wd_693 : (Cond.instanceMethod ({ cls := "PageRescueModel", name := "step", desc := "(I)I" } : MethodName)) ∈ zws := zws_t 693 (by decide +kernel) (by decide +kernel)
theorem wd_694 : (Cond.selects "PageRescueModel" ({ cls := "PageRescueModel", name := "step", desc := "(I)I" } : MethodName) ({ cls := "PageRescueModel", name := "step", desc := "(I)I" } : MethodName)) ∈ zws := zws_t 694 (by decide +kernel) (by decide +kernel)
theorem wd_695 : (Cond.code ({ cls := "PageRescueModel", name := "step", desc := "(I)I" } : MethodName) prog_8_method_22_code (6 : Nat) (Option.some FieldType.int)) ∈ zws := zws_t 695 (by decide +kernel) (by decide +kernel)
theorem wd_696 : (Cond.methodLink "PageRescueModel" (112 : Nat) ({ cls := "PageRescueModel", name := "finish", desc := "()V" } : MethodName)) ∈ zws := zws_t 696 (by decide +kernel) (by decide +kernel)
theorem wd_698 : (Cond.instanceMethod ({ cls := "PageRescueModel", name := "finish", desc := "()V" } : MethodName)) ∈ zws := zws_t 698 (by decide +kernel) (by decide +kernel)
theorem wd_699 : (Cond.code ({ cls := "PageRescueModel", name := "finish", desc := "()V" } : MethodName) prog_8_method_21_code (3 : Nat) (Option.none : Option FieldType)) ∈ zws := zws_t 699 (by decide +kernel) (by decide +kernel)
theorem wd_700 : (Cond.methodLink "PageRescueModel" (106 : Nat) ({ cls := "PageRescueModel", name := "firstFull", desc := "(I)I" } : MethodName)) ∈ zws := zws_t 700 (by decide +kernel) (by decide +kernel)
theorem wd_702 : (Cond.instanceMethod ({ cls := "PageRescueModel", name := "firstFull", desc := "(I)I" } : MethodName)) ∈ zws := zws_t 702 (by decide +kernel) (by decide +kernel)
theorem wd_703 : (Cond.code ({ cls := "PageRescueModel", name := "firstFull", desc := "(I)I" } : MethodName) prog_8_method_20_code (3 : Nat) (Option.some FieldType.int)) ∈ zws := zws_t 703 (by decide +kernel) (by decide +kernel)
theorem wd_704 : (Cond.methodLink "PageRescueLaw" (65 : Nat) ({ cls := "PageRescueModel", name := "crash", desc := "(I)I" } : MethodName)) ∈ zws := zws_t 704 (by decide +kernel) (by decide +kernel)
theorem wd_705 : (Cond.instanceMethod ({ cls := "PageRescueModel", name := "crash", desc := "(I)I" } : MethodName)) ∈ zws := zws_t 705 (by decide +kernel) (by decide +kernel)
theorem wd_706 : (Cond.selects "PageRescueModel" ({ cls := "PageRescueModel", name := "crash", desc := "(I)I" } : MethodName) ({ cls := "PageRescueModel", name := "crash", desc := "(I)I" } : MethodName)) ∈ zws := zws_t 706 (by decide +kernel) (by decide +kernel)
theorem wd_707 : (Cond.code ({ cls := "PageRescueModel", name := "crash", desc := "(I)I" } : MethodName) prog_8_method_25_code (2 : Nat) (Option.some FieldType.int)) ∈ zws := zws_t 707 (by decide +kernel) (by decide +kernel)
theorem wd_708 : (Cond.methodLink "PageRescueModel" (122 : Nat) ({ cls := "PageRescueModel", name := "recover", desc := "()I" } : MethodName)) ∈ zws := zws_t 708 (by decide +kernel) (by decide +kernel)
theorem wd_710 : (Cond.instanceMethod ({ cls := "PageRescueModel", name := "recover", desc := "()I" } : MethodName)) ∈ zws := zws_t 710 (by decide +kernel) (by decide +kernel)
theorem wd_711 : (Cond.code ({ cls := "PageRescueModel", name := "recover", desc := "()I" } : MethodName) prog_8_method_24_code (3 : Nat) (Option.some FieldType.int)) ∈ zws := zws_t 711 (by decide +kernel) (by decide +kernel)
theorem wd_712 : (Cond.methodLink "PageRescueModel" (115 : Nat) ({ cls := "PageRescueModel", name := "best", desc := "(I)I" } : MethodName)) ∈ zws := zws_t 712 (by decide +kernel) (by decide +kernel)
theorem wd_714 : (Cond.instanceMethod ({ cls := "PageRescueModel", name := "best", desc := "(I)I" } : MethodName)) ∈ zws := zws_t 714 (by decide +kernel) (by decide +kernel)
theorem wd_715 : (Cond.code ({ cls := "PageRescueModel", name := "best", desc := "(I)I" } : MethodName) prog_8_method_23_code (4 : Nat) (Option.some FieldType.int)) ∈ zws := zws_t 715 (by decide +kernel) (by decide +kernel)
theorem wd_716 : (Cond.methodLink "PageRescueModel" (118 : Nat) ({ cls := "PageRescueModel", name := "changesOn", desc := "(III)I" } : MethodName)) ∈ zws := zws_t 716 (by decide +kernel) (by decide +kernel)
theorem wd_718 : (Cond.instanceMethod ({ cls := "PageRescueModel", name := "changesOn", desc := "(III)I" } : MethodName)) ∈ zws := zws_t 718 (by decide +kernel) (by decide +kernel)
theorem wd_719 : (Cond.code ({ cls := "PageRescueModel", name := "changesOn", desc := "(III)I" } : MethodName) prog_8_method_8_code (6 : Nat) (Option.some FieldType.int)) ∈ zws := zws_t 719 (by decide +kernel) (by decide +kernel)
theorem wd_720 : (Cond.methodLink "PageRescueLaw" (69 : Nat) ({ cls := "PageRescueModel", name := "lose", desc := "()I" } : MethodName)) ∈ zws := zws_t 720 (by decide +kernel) (by decide +kernel)
theorem wd_721 : (Cond.instanceMethod ({ cls := "PageRescueModel", name := "lose", desc := "()I" } : MethodName)) ∈ zws := zws_t 721 (by decide +kernel) (by decide +kernel)
theorem wd_722 : (Cond.selects "PageRescueModel" ({ cls := "PageRescueModel", name := "lose", desc := "()I" } : MethodName) ({ cls := "PageRescueModel", name := "lose", desc := "()I" } : MethodName)) ∈ zws := zws_t 722 (by decide +kernel) (by decide +kernel)
theorem wd_723 : (Cond.code ({ cls := "PageRescueModel", name := "lose", desc := "()I" } : MethodName) prog_8_method_26_code (2 : Nat) (Option.some FieldType.int)) ∈ zws := zws_t 723 (by decide +kernel) (by decide +kernel)
theorem wd_724 : (Cond.methodLink "PageRescueLaw" (73 : Nat) ({ cls := "PageRescueModel", name := "restore", desc := "(I)I" } : MethodName)) ∈ zws := zws_t 724 (by decide +kernel) (by decide +kernel)
theorem wd_725 : (Cond.instanceMethod ({ cls := "PageRescueModel", name := "restore", desc := "(I)I" } : MethodName)) ∈ zws := zws_t 725 (by decide +kernel) (by decide +kernel)
theorem wd_726 : (Cond.selects "PageRescueModel" ({ cls := "PageRescueModel", name := "restore", desc := "(I)I" } : MethodName) ({ cls := "PageRescueModel", name := "restore", desc := "(I)I" } : MethodName)) ∈ zws := zws_t 726 (by decide +kernel) (by decide +kernel)
theorem wd_727 : (Cond.code ({ cls := "PageRescueModel", name := "restore", desc := "(I)I" } : MethodName) prog_8_method_28_code (9 : Nat) (Option.some FieldType.int)) ∈ zws := zws_t 727 (by decide +kernel) (by decide +kernel)
theorem wd_728 : (Cond.methodLink "PageRescueModel" (125 : Nat) ({ cls := "PageRescueModel", name := "commitRecord", desc := "(I)I" } : MethodName)) ∈ zws := zws_t 728 (by decide +kernel) (by decide +kernel)
theorem wd_730 : (Cond.instanceMethod ({ cls := "PageRescueModel", name := "commitRecord", desc := "(I)I" } : MethodName)) ∈ zws := zws_t 730 (by decide +kernel) (by decide +kernel)
theorem wd_731 : (Cond.code ({ cls := "PageRescueModel", name := "commitRecord", desc := "(I)I" } : MethodName) prog_8_method_27_code (4 : Nat) (Option.some FieldType.int)) ∈ zws := zws_t 731 (by decide +kernel) (by decide +kernel)
theorem wd_732 : (Cond.methodLink "PageRescueLaw" (77 : Nat) ({ cls := "PageRescueModel", name := "look", desc := "(I)J" } : MethodName)) ∈ zws := zws_t 732 (by decide +kernel) (by decide +kernel)
theorem wd_733 : (Cond.instanceMethod ({ cls := "PageRescueModel", name := "look", desc := "(I)J" } : MethodName)) ∈ zws := zws_t 733 (by decide +kernel) (by decide +kernel)
theorem wd_734 : (Cond.selects "PageRescueModel" ({ cls := "PageRescueModel", name := "look", desc := "(I)J" } : MethodName) ({ cls := "PageRescueModel", name := "look", desc := "(I)J" } : MethodName)) ∈ zws := zws_t 734 (by decide +kernel) (by decide +kernel)
theorem wd_735 : (Cond.code ({ cls := "PageRescueModel", name := "look", desc := "(I)J" } : MethodName) prog_8_method_29_code (2 : Nat) (Option.some FieldType.long)) ∈ zws := zws_t 735 (by decide +kernel) (by decide +kernel)
theorem wd_736 : (Cond.methodLink "PageRescueLaw" (82 : Nat) ({ cls := "PageRescueModel", name := "page", desc := "(II)I" } : MethodName)) ∈ zws := zws_t 736 (by decide +kernel) (by decide +kernel)
theorem wd_737 : (Cond.instanceMethod ({ cls := "PageRescueModel", name := "page", desc := "(II)I" } : MethodName)) ∈ zws := zws_t 737 (by decide +kernel) (by decide +kernel)
theorem wd_738 : (Cond.selects "PageRescueModel" ({ cls := "PageRescueModel", name := "page", desc := "(II)I" } : MethodName) ({ cls := "PageRescueModel", name := "page", desc := "(II)I" } : MethodName)) ∈ zws := zws_t 738 (by decide +kernel) (by decide +kernel)
theorem wd_739 : (Cond.code ({ cls := "PageRescueModel", name := "page", desc := "(II)I" } : MethodName) prog_8_method_30_code (5 : Nat) (Option.some FieldType.int)) ∈ zws := zws_t 739 (by decide +kernel) (by decide +kernel)
theorem wd_740 : (Cond.methodLink "PageRescueLaw" (86 : Nat) ({ cls := "PageRescueModel", name := "ofBackup", desc := "(II)I" } : MethodName)) ∈ zws := zws_t 740 (by decide +kernel) (by decide +kernel)
theorem wd_741 : (Cond.instanceMethod ({ cls := "PageRescueModel", name := "ofBackup", desc := "(II)I" } : MethodName)) ∈ zws := zws_t 741 (by decide +kernel) (by decide +kernel)
theorem wd_742 : (Cond.selects "PageRescueModel" ({ cls := "PageRescueModel", name := "ofBackup", desc := "(II)I" } : MethodName) ({ cls := "PageRescueModel", name := "ofBackup", desc := "(II)I" } : MethodName)) ∈ zws := zws_t 742 (by decide +kernel) (by decide +kernel)
theorem wd_743 : (Cond.code ({ cls := "PageRescueModel", name := "ofBackup", desc := "(II)I" } : MethodName) prog_8_method_31_code (5 : Nat) (Option.some FieldType.int)) ∈ zws := zws_t 743 (by decide +kernel) (by decide +kernel)
theorem wd_744 : (Cond.methodLink "PageRescueLaw" (90 : Nat) ({ cls := "PageRescueModel", name := "count", desc := "(I)I" } : MethodName)) ∈ zws := zws_t 744 (by decide +kernel) (by decide +kernel)
theorem wd_745 : (Cond.instanceMethod ({ cls := "PageRescueModel", name := "count", desc := "(I)I" } : MethodName)) ∈ zws := zws_t 745 (by decide +kernel) (by decide +kernel)
theorem wd_746 : (Cond.selects "PageRescueModel" ({ cls := "PageRescueModel", name := "count", desc := "(I)I" } : MethodName) ({ cls := "PageRescueModel", name := "count", desc := "(I)I" } : MethodName)) ∈ zws := zws_t 746 (by decide +kernel) (by decide +kernel)
theorem wd_747 : (Cond.code ({ cls := "PageRescueModel", name := "count", desc := "(I)I" } : MethodName) prog_8_method_32_code (2 : Nat) (Option.some FieldType.int)) ∈ zws := zws_t 747 (by decide +kernel) (by decide +kernel)
theorem wd_748 : (Cond.methodLink "PageRescueModel" (128 : Nat) ({ cls := "PageRescueModel", name := "begun", desc := "()I" } : MethodName)) ∈ zws := zws_t 748 (by decide +kernel) (by decide +kernel)
theorem wd_750 : (Cond.instanceMethod ({ cls := "PageRescueModel", name := "begun", desc := "()I" } : MethodName)) ∈ zws := zws_t 750 (by decide +kernel) (by decide +kernel)
theorem wd_751 : (Cond.code ({ cls := "PageRescueModel", name := "begun", desc := "()I" } : MethodName) prog_8_method_6_code (1 : Nat) (Option.some FieldType.int)) ∈ zws := zws_t 751 (by decide +kernel) (by decide +kernel)
theorem wd_754 : (Cond.selects "[Ljava/lang/Object;" ({ cls := "java/lang/Object", name := "getClass", desc := "()Ljava/lang/Class;" } : MethodName) ({ cls := "java/lang/Object", name := "getClass", desc := "()Ljava/lang/Class;" } : MethodName)) ∈ zws := zws_t 754 (by decide +kernel) (by decide +kernel)
theorem wp_0 : Cond.selects "PageRescue$Log" ⟨"PageRescue$Log", "addRecord", "(IJ)V"⟩ ⟨"PageRescue$Log", "addRecord", "(IJ)V"⟩ ∈ zws := zws_p 0 (by decide +kernel) (by decide +kernel)
theorem wp_1 : Cond.selects "PageRescue$Backups" ⟨"PageRescue$Backups", "startOfLatest", "()I"⟩ ⟨"PageRescue$Backups", "startOfLatest", "()I"⟩ ∈ zws := zws_p 1 (by decide +kernel) (by decide +kernel)
theorem wp_2 : Cond.selects "PageRescue$Backups" ⟨"PageRescue$Backups", "finish", "(LPageRescue$Backup;LPageRescue$Log;)V"⟩ ⟨"PageRescue$Backups", "finish", "(LPageRescue$Backup;LPageRescue$Log;)V"⟩ ∈ zws := zws_p 2 (by decide +kernel) (by decide +kernel)
theorem wp_3 : Cond.selects "java/util/ArrayList" ⟨"java/util/ArrayList", "add", "(Ljava/lang/Object;[Ljava/lang/Object;I)V"⟩ ⟨"java/util/ArrayList", "add", "(Ljava/lang/Object;[Ljava/lang/Object;I)V"⟩ ∈ zws := zws_p 3 (by decide +kernel) (by decide +kernel)
theorem wp_4 : Cond.selects "java/util/ArrayList" ⟨"java/util/ArrayList", "grow", "()[Ljava/lang/Object;"⟩ ⟨"java/util/ArrayList", "grow", "()[Ljava/lang/Object;"⟩ ∈ zws := zws_p 4 (by decide +kernel) (by decide +kernel)
theorem wp_5 : Cond.selects "java/util/ArrayList" ⟨"java/util/ArrayList", "grow", "(I)[Ljava/lang/Object;"⟩ ⟨"java/util/ArrayList", "grow", "(I)[Ljava/lang/Object;"⟩ ∈ zws := zws_p 5 (by decide +kernel) (by decide +kernel)
theorem wp_6 : Cond.selects "PageRescue$Backups" ⟨"PageRescue$Backups", "dropOldest", "()V"⟩ ⟨"PageRescue$Backups", "dropOldest", "()V"⟩ ∈ zws := zws_p 6 (by decide +kernel) (by decide +kernel)
theorem wp_7 : Cond.selects "PageRescue" ⟨"PageRescue", "recover", "()I"⟩ ⟨"PageRescue", "recover", "()I"⟩ ∈ zws := zws_p 7 (by decide +kernel) (by decide +kernel)
theorem wp_8 : Cond.selects "PageRescueModel" ⟨"PageRescueModel", "room", "()I"⟩ ⟨"PageRescueModel", "room", "()I"⟩ ∈ zws := zws_p 8 (by decide +kernel) (by decide +kernel)
theorem wp_9 : Cond.selects "PageRescueModel" ⟨"PageRescueModel", "log", "(IIZ)I"⟩ ⟨"PageRescueModel", "log", "(IIZ)I"⟩ ∈ zws := zws_p 9 (by decide +kernel) (by decide +kernel)
theorem wp_10 : Cond.selects "PageRescueModel" ⟨"PageRescueModel", "commits", "()I"⟩ ⟨"PageRescueModel", "commits", "()I"⟩ ∈ zws := zws_p 10 (by decide +kernel) (by decide +kernel)
theorem wp_11 : Cond.selects "PageRescueModel" ⟨"PageRescueModel", "undo", "()V"⟩ ⟨"PageRescueModel", "undo", "()V"⟩ ∈ zws := zws_p 11 (by decide +kernel) (by decide +kernel)
theorem wp_12 : Cond.selects "PageRescueModel" ⟨"PageRescueModel", "after", "(II)J"⟩ ⟨"PageRescueModel", "after", "(II)J"⟩ ∈ zws := zws_p 12 (by decide +kernel) (by decide +kernel)
theorem wp_13 : Cond.selects "PageRescueModel" ⟨"PageRescueModel", "numberOf", "(I)I"⟩ ⟨"PageRescueModel", "numberOf", "(I)I"⟩ ∈ zws := zws_p 13 (by decide +kernel) (by decide +kernel)
theorem wp_14 : Cond.selects "PageRescueModel" ⟨"PageRescueModel", "fulls", "()I"⟩ ⟨"PageRescueModel", "fulls", "()I"⟩ ∈ zws := zws_p 14 (by decide +kernel) (by decide +kernel)
theorem wp_15 : Cond.selects "PageRescueModel" ⟨"PageRescueModel", "finish", "()V"⟩ ⟨"PageRescueModel", "finish", "()V"⟩ ∈ zws := zws_p 15 (by decide +kernel) (by decide +kernel)
theorem wp_16 : Cond.selects "PageRescueModel" ⟨"PageRescueModel", "firstFull", "(I)I"⟩ ⟨"PageRescueModel", "firstFull", "(I)I"⟩ ∈ zws := zws_p 16 (by decide +kernel) (by decide +kernel)
theorem wp_17 : Cond.selects "PageRescueModel" ⟨"PageRescueModel", "recover", "()I"⟩ ⟨"PageRescueModel", "recover", "()I"⟩ ∈ zws := zws_p 17 (by decide +kernel) (by decide +kernel)
theorem wp_18 : Cond.selects "PageRescueModel" ⟨"PageRescueModel", "best", "(I)I"⟩ ⟨"PageRescueModel", "best", "(I)I"⟩ ∈ zws := zws_p 18 (by decide +kernel) (by decide +kernel)
theorem wp_19 : Cond.selects "PageRescueModel" ⟨"PageRescueModel", "changesOn", "(III)I"⟩ ⟨"PageRescueModel", "changesOn", "(III)I"⟩ ∈ zws := zws_p 19 (by decide +kernel) (by decide +kernel)
theorem wp_20 : Cond.selects "PageRescueModel" ⟨"PageRescueModel", "commitRecord", "(I)I"⟩ ⟨"PageRescueModel", "commitRecord", "(I)I"⟩ ∈ zws := zws_p 20 (by decide +kernel) (by decide +kernel)
theorem wp_21 : Cond.selects "PageRescueModel" ⟨"PageRescueModel", "begun", "()I"⟩ ⟨"PageRescueModel", "begun", "()I"⟩ ∈ zws := zws_p 21 (by decide +kernel) (by decide +kernel)
theorem i_Pr : ∀ w ∈ u_ws R_Pr F_Pr 7, w ∈ zws := by
  intro w hw
  obtain ⟨k, hk, rfl⟩ := List.mem_map.mp hw
  have hk := List.mem_range.mp hk
  match k, hk with
  | 0, _ => exact zws_t 159 (by decide +kernel) (by decide +kernel)
  | 1, _ => exact zws_t 161 (by decide +kernel) (by decide +kernel)
  | 2, _ => exact zws_t 163 (by decide +kernel) (by decide +kernel)
  | 3, _ => exact zws_t 165 (by decide +kernel) (by decide +kernel)
  | 4, _ => exact zws_t 167 (by decide +kernel) (by decide +kernel)
  | 5, _ => exact zws_t 169 (by decide +kernel) (by decide +kernel)
  | 6, _ => exact zws_t 171 (by decide +kernel) (by decide +kernel)
  | k + 7, hk => exact absurd hk (by omega)
theorem i_Lg : ∀ w ∈ u_ws R_Lg F_Lg 9, w ∈ zws := by
  intro w hw
  obtain ⟨k, hk, rfl⟩ := List.mem_map.mp hw
  have hk := List.mem_range.mp hk
  match k, hk with
  | 0, _ => exact zws_t 85 (by decide +kernel) (by decide +kernel)
  | 1, _ => exact zws_t 87 (by decide +kernel) (by decide +kernel)
  | 2, _ => exact zws_t 89 (by decide +kernel) (by decide +kernel)
  | 3, _ => exact zws_t 91 (by decide +kernel) (by decide +kernel)
  | 4, _ => exact zws_t 93 (by decide +kernel) (by decide +kernel)
  | 5, _ => exact zws_t 95 (by decide +kernel) (by decide +kernel)
  | 6, _ => exact zws_t 97 (by decide +kernel) (by decide +kernel)
  | 7, _ => exact zws_t 99 (by decide +kernel) (by decide +kernel)
  | 8, _ => exact zws_t 101 (by decide +kernel) (by decide +kernel)
  | k + 9, hk => exact absurd hk (by omega)
theorem i_Tx : ∀ w ∈ u_ws R_Tx F_Tx 4, w ∈ zws := by
  intro w hw
  obtain ⟨k, hk, rfl⟩ := List.mem_map.mp hw
  have hk := List.mem_range.mp hk
  match k, hk with
  | 0, _ => exact zws_t 35 (by decide +kernel) (by decide +kernel)
  | 1, _ => exact zws_t 37 (by decide +kernel) (by decide +kernel)
  | 2, _ => exact zws_t 39 (by decide +kernel) (by decide +kernel)
  | 3, _ => exact zws_t 41 (by decide +kernel) (by decide +kernel)
  | k + 4, hk => exact absurd hk (by omega)
theorem i_Dk : ∀ w ∈ u_ws R_Dk F_Dk 2, w ∈ zws := by
  intro w hw
  obtain ⟨k, hk, rfl⟩ := List.mem_map.mp hw
  have hk := List.mem_range.mp hk
  match k, hk with
  | 0, _ => exact zws_t 54 (by decide +kernel) (by decide +kernel)
  | 1, _ => exact zws_t 56 (by decide +kernel) (by decide +kernel)
  | k + 2, hk => exact absurd hk (by omega)
theorem i_Bk : ∀ w ∈ u_ws R_Bk F_Bk 6, w ∈ zws := by
  intro w hw
  obtain ⟨k, hk, rfl⟩ := List.mem_map.mp hw
  have hk := List.mem_range.mp hk
  match k, hk with
  | 0, _ => exact zws_t 320 (by decide +kernel) (by decide +kernel)
  | 1, _ => exact zws_t 322 (by decide +kernel) (by decide +kernel)
  | 2, _ => exact zws_t 324 (by decide +kernel) (by decide +kernel)
  | 3, _ => exact zws_t 326 (by decide +kernel) (by decide +kernel)
  | 4, _ => exact zws_t 328 (by decide +kernel) (by decide +kernel)
  | 5, _ => exact zws_t 330 (by decide +kernel) (by decide +kernel)
  | k + 6, hk => exact absurd hk (by omega)
theorem i_Bs : ∀ w ∈ u_ws R_Bs F_Bs 5, w ∈ zws := by
  intro w hw
  obtain ⟨k, hk, rfl⟩ := List.mem_map.mp hw
  have hk := List.mem_range.mp hk
  match k, hk with
  | 0, _ => exact zws_t 141 (by decide +kernel) (by decide +kernel)
  | 1, _ => exact zws_t 143 (by decide +kernel) (by decide +kernel)
  | 2, _ => exact zws_t 145 (by decide +kernel) (by decide +kernel)
  | 3, _ => exact zws_t 147 (by decide +kernel) (by decide +kernel)
  | 4, _ => exact zws_t 149 (by decide +kernel) (by decide +kernel)
  | k + 5, hk => exact absurd hk (by omega)
theorem i_Md : ∀ w ∈ u_ws R_Md F_Md 21, w ∈ zws := by
  intro w hw
  obtain ⟨k, hk, rfl⟩ := List.mem_map.mp hw
  have hk := List.mem_range.mp hk
  match k, hk with
  | 0, _ => exact zws_t 584 (by decide +kernel) (by decide +kernel)
  | 1, _ => exact zws_t 586 (by decide +kernel) (by decide +kernel)
  | 2, _ => exact zws_t 588 (by decide +kernel) (by decide +kernel)
  | 3, _ => exact zws_t 590 (by decide +kernel) (by decide +kernel)
  | 4, _ => exact zws_t 592 (by decide +kernel) (by decide +kernel)
  | 5, _ => exact zws_t 594 (by decide +kernel) (by decide +kernel)
  | 6, _ => exact zws_t 596 (by decide +kernel) (by decide +kernel)
  | 7, _ => exact zws_t 598 (by decide +kernel) (by decide +kernel)
  | 8, _ => exact zws_t 600 (by decide +kernel) (by decide +kernel)
  | 9, _ => exact zws_t 602 (by decide +kernel) (by decide +kernel)
  | 10, _ => exact zws_t 604 (by decide +kernel) (by decide +kernel)
  | 11, _ => exact zws_t 606 (by decide +kernel) (by decide +kernel)
  | 12, _ => exact zws_t 608 (by decide +kernel) (by decide +kernel)
  | 13, _ => exact zws_t 610 (by decide +kernel) (by decide +kernel)
  | 14, _ => exact zws_t 612 (by decide +kernel) (by decide +kernel)
  | 15, _ => exact zws_t 614 (by decide +kernel) (by decide +kernel)
  | 16, _ => exact zws_t 616 (by decide +kernel) (by decide +kernel)
  | 17, _ => exact zws_t 618 (by decide +kernel) (by decide +kernel)
  | 18, _ => exact zws_t 620 (by decide +kernel) (by decide +kernel)
  | 19, _ => exact zws_t 622 (by decide +kernel) (by decide +kernel)
  | 20, _ => exact zws_t 624 (by decide +kernel) (by decide +kernel)
  | k + 21, hk => exact absurd hk (by omega)
theorem i_Al : ∀ w ∈ u_ws R_Al F_Al 3, w ∈ zws := by
  intro w hw
  obtain ⟨k, hk, rfl⟩ := List.mem_map.mp hw
  have hk := List.mem_range.mp hk
  match k, hk with
  | 0, _ => exact zws_t 129 (by decide +kernel) (by decide +kernel)
  | 1, _ => exact zws_t 131 (by decide +kernel) (by decide +kernel)
  | 2, _ => exact zws_t 133 (by decide +kernel) (by decide +kernel)
  | k + 3, hk => exact absurd hk (by omega)
end
section
/-! numbers as Nat; booleans as Bool -/
def zb (b : Bool) : Int32 := if b then 1 else 0
theorem zb_t : zb true = 1 := rfl
theorem zb_f : zb false = 0 := rfl
theorem zb_0 {b : Bool} : zb b = 0 ↔ b = false := by cases b <;> decide
theorem zb_n0 {b : Bool} : ¬ zb b = 0 ↔ b = true := by cases b <;> decide
theorem zb_nar (b : Bool) : vp_nar .boolean (zb b) = zb b := by cases b <;> decide
theorem zb_narrow (b : Bool) : narrow .boolean (.int (zb b)) = .int (zb b) := by cases b <;> decide
theorem zb_fits (b : Bool) : fits .boolean (.int (zb b)) = true := by cases b <;> decide
theorem zupd_n (f : Nat → Nat) (k v : Nat) : upd (fun j => nI (f j)) k (nI v) = fun j => nI (va_up f k v j) := by
  funext j
  by_cases h : j = k
  · subst h; simp [upd, va_up]
  · simp [upd, va_up, h]
theorem zupd_b (f : Nat → Bool) (k : Nat) (v : Bool) : upd (fun j => zb (f j)) k (zb v) = fun j => zb (va_up f k v j) := by
  funext j
  by_cases h : j = k
  · subst h; simp [upd, va_up]
  · simp [upd, va_up, h]
theorem zupd_i (f : Nat → Int32) (k : Nat) (v : Int32) : upd f k v = va_up f k v := by
  funext j
  by_cases h : j = k
  · subst h; simp [upd, va_up]
  · simp [upd, va_up, h]
theorem zupd_l (f : Nat → Int64) (k : Nat) (v : Int64) : vp_updL f k v = va_up f k v := rfl
section ZN
variable {p : Program} {l : Launch} {e : Env} {R : Room} {s : State} {m : MethodId} {args : Array Value} {below : List Frame} {meth : Method} {c : Code} {H : Heap} {locs : List Loc} {cells slots : Nat} {Q : State → Prop}
variable {cc : ByteArray} {pc : Nat} {ls : Array Slot} {rest : List Value}
theorem zn_iadd (hexec : p.tables.exec = Jvm.exec) (hb : c.code = cc) {a b : Nat} (hdg : decode cc pc = .ok (.iadd, 1)) (k : W p l e R s m args below meth c H locs cells slots Q (F0 m (pc + 1) ls (.int (nI (a + b)) :: rest))) : W p l e R s m args below meth c H locs cells slots Q (F0 m pc ls (.int (nI b) :: .int (nI a) :: rest)) := lv_iadd hexec hb hdg (by rw [nI_add]; exact k)
theorem zn_isub (hexec : p.tables.exec = Jvm.exec) (hb : c.code = cc) {a b : Nat} (h : b ≤ a) (hdg : decode cc pc = .ok (.isub, 1)) (k : W p l e R s m args below meth c H locs cells slots Q (F0 m (pc + 1) ls (.int (nI (a - b)) :: rest))) : W p l e R s m args below meth c H locs cells slots Q (F0 m pc ls (.int (nI b) :: .int (nI a) :: rest)) := lv_isub hexec hb hdg (by rw [pk_sub h]; exact k)
theorem zn_imul (hexec : p.tables.exec = Jvm.exec) (hb : c.code = cc) {a b : Nat} (hdg : decode cc pc = .ok (.imul, 1)) (k : W p l e R s m args below meth c H locs cells slots Q (F0 m (pc + 1) ls (.int (nI (a * b)) :: rest))) : W p l e R s m args below meth c H locs cells slots Q (F0 m pc ls (.int (nI b) :: .int (nI a) :: rest)) := lv_imul hexec hb hdg (by rw [pk_mul]; exact k)
theorem zn_idiv (hexec : p.tables.exec = Jvm.exec) (hb : c.code = cc) {a b : Nat} (ha : a < 2 ^ 31) (h0 : 0 < b) (hb2 : b < 2 ^ 31) (hdg : decode cc pc = .ok (.idiv, 1)) (k : W p l e R s m args below meth c H locs cells slots Q (F0 m (pc + 1) ls (.int (nI (a / b)) :: rest))) : W p l e R s m args below meth c H locs cells slots Q (F0 m pc ls (.int (nI b) :: .int (nI a) :: rest)) := lv_idiv hexec hb hdg (nI_ne0 h0 hb2) (by rw [pk_div ha h0 hb2]; exact k)
theorem zn_irem (hexec : p.tables.exec = Jvm.exec) (hb : c.code = cc) {a b : Nat} (ha : a < 2 ^ 31) (h0 : 0 < b) (hb2 : b < 2 ^ 31) (hdg : decode cc pc = .ok (.irem, 1)) (k : W p l e R s m args below meth c H locs cells slots Q (F0 m (pc + 1) ls (.int (nI (a % b)) :: rest))) : W p l e R s m args below meth c H locs cells slots Q (F0 m pc ls (.int (nI b) :: .int (nI a) :: rest)) := lv_irem hexec hb hdg (nI_ne0 h0 hb2) (by rw [pk_rem ha h0 hb2]; exact k)
theorem zn_icmp_eq (hexec : p.tables.exec = Jvm.exec) (hb : c.code = cc) {a b : Nat} {off : Int} {tgt : Nat} (ha : a < 2 ^ 31) (hb2 : b < 2 ^ 31) (hdg : decode cc pc = .ok (.if_icmp .eq off, 3)) (ht : (pc : Int) + off = (tgt : Int)) (kt : a = b → W p l e R s m args below meth c H locs cells slots Q (F0 m tgt ls rest)) (kf : a ≠ b → W p l e R s m args below meth c H locs cells slots Q (F0 m (pc + 3) ls rest)) : W p l e R s m args below meth c H locs cells slots Q (F0 m pc ls (.int (nI b) :: .int (nI a) :: rest)) := lv_icmp_eq hexec hb hdg ht (fun h => kt ((nI_eq ha hb2).mp h)) (fun h => kf (fun q => h ((nI_eq ha hb2).mpr q)))
theorem zn_icmp_ne (hexec : p.tables.exec = Jvm.exec) (hb : c.code = cc) {a b : Nat} {off : Int} {tgt : Nat} (ha : a < 2 ^ 31) (hb2 : b < 2 ^ 31) (hdg : decode cc pc = .ok (.if_icmp .ne off, 3)) (ht : (pc : Int) + off = (tgt : Int)) (kt : a ≠ b → W p l e R s m args below meth c H locs cells slots Q (F0 m tgt ls rest)) (kf : a = b → W p l e R s m args below meth c H locs cells slots Q (F0 m (pc + 3) ls rest)) : W p l e R s m args below meth c H locs cells slots Q (F0 m pc ls (.int (nI b) :: .int (nI a) :: rest)) := lv_icmp_ne hexec hb hdg ht (fun h => kt (fun q => h ((nI_eq ha hb2).mpr q))) (fun h => kf ((nI_eq ha hb2).mp h))
theorem zn_icmp_lt (hexec : p.tables.exec = Jvm.exec) (hb : c.code = cc) {a b : Nat} {off : Int} {tgt : Nat} (ha : a < 2 ^ 31) (hb2 : b < 2 ^ 31) (hdg : decode cc pc = .ok (.if_icmp .lt off, 3)) (ht : (pc : Int) + off = (tgt : Int)) (kt : a < b → W p l e R s m args below meth c H locs cells slots Q (F0 m tgt ls rest)) (kf : b ≤ a → W p l e R s m args below meth c H locs cells slots Q (F0 m (pc + 3) ls rest)) : W p l e R s m args below meth c H locs cells slots Q (F0 m pc ls (.int (nI b) :: .int (nI a) :: rest)) := lv_icmp_lt hexec hb hdg ht (fun h => kt ((nI_ltI ha hb2).mp h)) (fun h => kf (by have h2 : ¬ (a < b) := fun q => h ((nI_ltI ha hb2).mpr q); omega))
theorem zn_icmp_ge (hexec : p.tables.exec = Jvm.exec) (hb : c.code = cc) {a b : Nat} {off : Int} {tgt : Nat} (ha : a < 2 ^ 31) (hb2 : b < 2 ^ 31) (hdg : decode cc pc = .ok (.if_icmp .ge off, 3)) (ht : (pc : Int) + off = (tgt : Int)) (kt : b ≤ a → W p l e R s m args below meth c H locs cells slots Q (F0 m tgt ls rest)) (kf : a < b → W p l e R s m args below meth c H locs cells slots Q (F0 m (pc + 3) ls rest)) : W p l e R s m args below meth c H locs cells slots Q (F0 m pc ls (.int (nI b) :: .int (nI a) :: rest)) := lv_icmp_ge hexec hb hdg ht (fun h => kt ((nI_leI hb2 ha).mp h)) (fun h => kf (by have h2 : ¬ (b ≤ a) := fun q => h ((nI_leI hb2 ha).mpr q); omega))
theorem zn_icmp_gt (hexec : p.tables.exec = Jvm.exec) (hb : c.code = cc) {a b : Nat} {off : Int} {tgt : Nat} (ha : a < 2 ^ 31) (hb2 : b < 2 ^ 31) (hdg : decode cc pc = .ok (.if_icmp .gt off, 3)) (ht : (pc : Int) + off = (tgt : Int)) (kt : b < a → W p l e R s m args below meth c H locs cells slots Q (F0 m tgt ls rest)) (kf : a ≤ b → W p l e R s m args below meth c H locs cells slots Q (F0 m (pc + 3) ls rest)) : W p l e R s m args below meth c H locs cells slots Q (F0 m pc ls (.int (nI b) :: .int (nI a) :: rest)) := lv_icmp_gt hexec hb hdg ht (fun h => kt ((nI_ltI hb2 ha).mp h)) (fun h => kf (by have h2 : ¬ (b < a) := fun q => h ((nI_ltI hb2 ha).mpr q); omega))
theorem zn_icmp_le (hexec : p.tables.exec = Jvm.exec) (hb : c.code = cc) {a b : Nat} {off : Int} {tgt : Nat} (ha : a < 2 ^ 31) (hb2 : b < 2 ^ 31) (hdg : decode cc pc = .ok (.if_icmp .le off, 3)) (ht : (pc : Int) + off = (tgt : Int)) (kt : a ≤ b → W p l e R s m args below meth c H locs cells slots Q (F0 m tgt ls rest)) (kf : b < a → W p l e R s m args below meth c H locs cells slots Q (F0 m (pc + 3) ls rest)) : W p l e R s m args below meth c H locs cells slots Q (F0 m pc ls (.int (nI b) :: .int (nI a) :: rest)) := lv_icmp_le hexec hb hdg ht (fun h => kt ((nI_leI ha hb2).mp h)) (fun h => kf (by have h2 : ¬ (a ≤ b) := fun q => h ((nI_leI ha hb2).mpr q); omega))
theorem zn_if_eq (hexec : p.tables.exec = Jvm.exec) (hb : c.code = cc) {a : Nat} {off : Int} {tgt : Nat} (ha : a < 2 ^ 31) (hdg : decode cc pc = .ok (.ifCond .eq off, 3)) (ht : (pc : Int) + off = (tgt : Int)) (kt : a = 0 → W p l e R s m args below meth c H locs cells slots Q (F0 m tgt ls rest)) (kf : a ≠ 0 → W p l e R s m args below meth c H locs cells slots Q (F0 m (pc + 3) ls rest)) : W p l e R s m args below meth c H locs cells slots Q (F0 m pc ls (.int (nI a) :: rest)) := lv_if_eq hexec hb hdg ht (fun h => kt ((nI_eq (b := 0) ha (by decide)).mp (h.trans nI_0.symm))) (fun h => kf (fun q => h (by rw [q]; exact nI_0)))
theorem zn_if_ne (hexec : p.tables.exec = Jvm.exec) (hb : c.code = cc) {a : Nat} {off : Int} {tgt : Nat} (ha : a < 2 ^ 31) (hdg : decode cc pc = .ok (.ifCond .ne off, 3)) (ht : (pc : Int) + off = (tgt : Int)) (kt : a ≠ 0 → W p l e R s m args below meth c H locs cells slots Q (F0 m tgt ls rest)) (kf : a = 0 → W p l e R s m args below meth c H locs cells slots Q (F0 m (pc + 3) ls rest)) : W p l e R s m args below meth c H locs cells slots Q (F0 m pc ls (.int (nI a) :: rest)) := lv_if_ne hexec hb hdg ht (fun h => kt (fun q => h (by rw [q]; exact nI_0))) (fun h => kf ((nI_eq (b := 0) ha (by decide)).mp (h.trans nI_0.symm)))
theorem zn_if_gt (hexec : p.tables.exec = Jvm.exec) (hb : c.code = cc) {a : Nat} {off : Int} {tgt : Nat} (ha : a < 2 ^ 31) (hdg : decode cc pc = .ok (.ifCond .gt off, 3)) (ht : (pc : Int) + off = (tgt : Int)) (kt : 0 < a → W p l e R s m args below meth c H locs cells slots Q (F0 m tgt ls rest)) (kf : a = 0 → W p l e R s m args below meth c H locs cells slots Q (F0 m (pc + 3) ls rest)) : W p l e R s m args below meth c H locs cells slots Q (F0 m pc ls (.int (nI a) :: rest)) := lv_if_gt hexec hb hdg ht (fun h => kt ((nI_ltI (a := 0) (by decide) ha).mp (by rw [nI_0]; exact h))) (fun h => kf (by rcases Nat.eq_zero_or_pos a with q | q; exact q; exact absurd (by rw [← nI_0]; exact (nI_ltI (a := 0) (by decide) ha).mpr q) h))
theorem zn_if_le (hexec : p.tables.exec = Jvm.exec) (hb : c.code = cc) {a : Nat} {off : Int} {tgt : Nat} (ha : a < 2 ^ 31) (hdg : decode cc pc = .ok (.ifCond .le off, 3)) (ht : (pc : Int) + off = (tgt : Int)) (kt : a = 0 → W p l e R s m args below meth c H locs cells slots Q (F0 m tgt ls rest)) (kf : 0 < a → W p l e R s m args below meth c H locs cells slots Q (F0 m (pc + 3) ls rest)) : W p l e R s m args below meth c H locs cells slots Q (F0 m pc ls (.int (nI a) :: rest)) := lv_if_le hexec hb hdg ht (fun h => kt (by have := (nI_leI (b := 0) ha (by decide)).mp (by rw [nI_0]; exact h); omega)) (fun h => kf (by rcases Nat.eq_zero_or_pos a with q | q; exact absurd (by rw [q, nI_0]; exact Int32.le_refl 0) h; exact q))
theorem zn_if_lt (hexec : p.tables.exec = Jvm.exec) (hb : c.code = cc) {a : Nat} {off : Int} {tgt : Nat} (ha : a < 2 ^ 31) (hdg : decode cc pc = .ok (.ifCond .lt off, 3)) (ht : (pc : Int) + off = (tgt : Int)) (kt : False → W p l e R s m args below meth c H locs cells slots Q (F0 m tgt ls rest)) (kf : True → W p l e R s m args below meth c H locs cells slots Q (F0 m (pc + 3) ls rest)) : W p l e R s m args below meth c H locs cells slots Q (F0 m pc ls (.int (nI a) :: rest)) := lv_if_lt hexec hb hdg ht (fun h => kt (nI_pos ha h)) (fun _ => kf trivial)
theorem zn_if_ge (hexec : p.tables.exec = Jvm.exec) (hb : c.code = cc) {a : Nat} {off : Int} {tgt : Nat} (ha : a < 2 ^ 31) (hdg : decode cc pc = .ok (.ifCond .ge off, 3)) (ht : (pc : Int) + off = (tgt : Int)) (kt : True → W p l e R s m args below meth c H locs cells slots Q (F0 m tgt ls rest)) (kf : False → W p l e R s m args below meth c H locs cells slots Q (F0 m (pc + 3) ls rest)) : W p l e R s m args below meth c H locs cells slots Q (F0 m pc ls (.int (nI a) :: rest)) := lv_if_ge hexec hb hdg ht (fun _ => kt trivial) (fun h => kf (h (nI_pos' ha)))
theorem zb_if_eq (hexec : p.tables.exec = Jvm.exec) (hb : c.code = cc) {b : Bool} {off : Int} {tgt : Nat} (hdg : decode cc pc = .ok (.ifCond .eq off, 3)) (ht : (pc : Int) + off = (tgt : Int)) (kt : b = false → W p l e R s m args below meth c H locs cells slots Q (F0 m tgt ls rest)) (kf : b = true → W p l e R s m args below meth c H locs cells slots Q (F0 m (pc + 3) ls rest)) : W p l e R s m args below meth c H locs cells slots Q (F0 m pc ls (.int (zb b) :: rest)) := lv_if_eq hexec hb hdg ht (fun h => kt (zb_0.mp h)) (fun h => kf (zb_n0.mp h))
theorem zb_if_ne (hexec : p.tables.exec = Jvm.exec) (hb : c.code = cc) {b : Bool} {off : Int} {tgt : Nat} (hdg : decode cc pc = .ok (.ifCond .ne off, 3)) (ht : (pc : Int) + off = (tgt : Int)) (kt : b = true → W p l e R s m args below meth c H locs cells slots Q (F0 m tgt ls rest)) (kf : b = false → W p l e R s m args below meth c H locs cells slots Q (F0 m (pc + 3) ls rest)) : W p l e R s m args below meth c H locs cells slots Q (F0 m pc ls (.int (zb b) :: rest)) := lv_if_ne hexec hb hdg ht (fun h => kt (zb_n0.mp h)) (fun h => kf (zb_0.mp h))
variable {D : va_G} {cl : List vw_C} {A : Nat → Prop} {a : Nat} {tys : List (ClassId × FieldType)} {ws : va_W} {H0 : Heap}
theorem zn_iald (hexec : p.tables.exec = Jvm.exec) (hb : c.code = cc) (hK : va_K D cl tys s) (hP : va_P D cl ws H) (q0 t0 : Nat) {cA : ClassId} {n : Nat} {f : Nat → Int32} (ha : ws[q0]? = some (a, .inl (cA, n, .inl f))) (ht : tys[t0]? = some (cA, .int)) {i : Nat} (hi : i < n) (hn : n < 2 ^ 31) (hdg : decode cc pc = .ok (.iaload, 1)) (kk : W p l e R s m args below meth c H locs cells slots Q (F0 m (pc + 1) ls (.int (f i) :: rest))) : W p l e R s m args below meth c H locs cells slots Q (F0 m pc ls (.int (nI i) :: .ref a :: rest)) := va_iald hexec hb hK hP q0 t0 ha ht (vp_in_nI hi hn) hdg (by rw [nI_clamp (Nat.lt_trans hi hn)]; exact kk)
theorem zn_zald (hexec : p.tables.exec = Jvm.exec) (hb : c.code = cc) (hK : va_K D cl tys s) (hP : va_P D cl ws H) (q0 t0 : Nat) {cA : ClassId} {n : Nat} {f : Nat → Int32} (ha : ws[q0]? = some (a, .inl (cA, n, .inl f))) (ht : tys[t0]? = some (cA, .boolean)) {i : Nat} (hi : i < n) (hn : n < 2 ^ 31) (hdg : decode cc pc = .ok (.baload, 1)) (kk : W p l e R s m args below meth c H locs cells slots Q (F0 m (pc + 1) ls (.int (f i) :: rest))) : W p l e R s m args below meth c H locs cells slots Q (F0 m pc ls (.int (nI i) :: .ref a :: rest)) := va_zald hexec hb hK hP q0 t0 ha ht (vp_in_nI hi hn) hdg (by rw [nI_clamp (Nat.lt_trans hi hn)]; exact kk)
theorem zn_lald (hexec : p.tables.exec = Jvm.exec) (hb : c.code = cc) (hK : va_K D cl tys s) (hP : va_P D cl ws H) (q0 t0 : Nat) {cA : ClassId} {n : Nat} {f : Nat → Int64} (ha : ws[q0]? = some (a, .inl (cA, n, .inr (.inl f)))) (ht : tys[t0]? = some (cA, .long)) {i : Nat} (hi : i < n) (hn : n < 2 ^ 31) (hdg : decode cc pc = .ok (.laload, 1)) (kk : W p l e R s m args below meth c H locs cells slots Q (F0 m (pc + 1) ls (.long (f i) :: rest))) : W p l e R s m args below meth c H locs cells slots Q (F0 m pc ls (.int (nI i) :: .ref a :: rest)) := va_lald hexec hb hK hP q0 t0 ha ht (vp_in_nI hi hn) hdg (by rw [nI_clamp (Nat.lt_trans hi hn)]; exact kk)
theorem zn_iast (hexec : p.tables.exec = Jvm.exec) (hb : c.code = cc) (hK : va_K D cl tys s) (hP : va_P D cl ws H) (hD : va_D A ws) (hS : va_S A H0 H locs) (q0 t0 : Nat) {cA : ClassId} {n : Nat} {f : Nat → Int32} (ha : ws[q0]? = some (a, .inl (cA, n, .inl f))) (ht : tys[t0]? = some (cA, .int)) {i : Nat} {x : Int32} (hi : i < n) (hn : n < 2 ^ 31) (hdg : decode cc pc = .ok (.iastore, 1)) (kk : ∀ (H1 : Heap) (locs1 : List Loc), va_P D cl (ws.set q0 (a, .inl (cA, n, .inl (va_up f i x)))) H1 → va_D A (ws.set q0 (a, .inl (cA, n, .inl (va_up f i x)))) → va_S A H0 H1 locs1 → W p l e R s m args below meth c H1 locs1 cells slots Q (F0 m (pc + 1) ls rest)) : W p l e R s m args below meth c H locs cells slots Q (F0 m pc ls (.int x :: .int (nI i) :: .ref a :: rest)) :=
  va_iast hexec hb hK hP hD hS q0 t0 ha ht (vp_in_nI hi hn) hdg (fun H1 locs1 h1 h2 h3 => kk H1 locs1 (by rw [nI_clamp (Nat.lt_trans hi hn), zupd_i] at h1; exact h1) (by rw [nI_clamp (Nat.lt_trans hi hn), zupd_i] at h2; exact h2) h3)
theorem zn_iastN (hexec : p.tables.exec = Jvm.exec) (hb : c.code = cc) (hK : va_K D cl tys s) (hP : va_P D cl ws H) (hD : va_D A ws) (hS : va_S A H0 H locs) (q0 t0 : Nat) {cA : ClassId} {n : Nat} {f : Nat → Nat} (ha : ws[q0]? = some (a, .inl (cA, n, .inl (fun j => nI (f j))))) (ht : tys[t0]? = some (cA, .int)) {i : Nat} {x : Nat} (hi : i < n) (hn : n < 2 ^ 31) (hdg : decode cc pc = .ok (.iastore, 1)) (kk : ∀ (H1 : Heap) (locs1 : List Loc), va_P D cl (ws.set q0 (a, .inl (cA, n, .inl (fun j => nI (va_up f i x j))))) H1 → va_D A (ws.set q0 (a, .inl (cA, n, .inl (fun j => nI (va_up f i x j))))) → va_S A H0 H1 locs1 → W p l e R s m args below meth c H1 locs1 cells slots Q (F0 m (pc + 1) ls rest)) : W p l e R s m args below meth c H locs cells slots Q (F0 m pc ls (.int (nI x) :: .int (nI i) :: .ref a :: rest)) :=
  va_iast hexec hb hK hP hD hS q0 t0 ha ht (vp_in_nI hi hn) hdg (fun H1 locs1 h1 h2 h3 => kk H1 locs1 (by rw [nI_clamp (Nat.lt_trans hi hn), zupd_n] at h1; exact h1) (by rw [nI_clamp (Nat.lt_trans hi hn), zupd_n] at h2; exact h2) h3)
theorem zn_zastB (hexec : p.tables.exec = Jvm.exec) (hb : c.code = cc) (hK : va_K D cl tys s) (hP : va_P D cl ws H) (hD : va_D A ws) (hS : va_S A H0 H locs) (q0 t0 : Nat) {cA : ClassId} {n : Nat} {f : Nat → Bool} (ha : ws[q0]? = some (a, .inl (cA, n, .inl (fun j => zb (f j))))) (ht : tys[t0]? = some (cA, .boolean)) {i : Nat} {x : Bool} (hi : i < n) (hn : n < 2 ^ 31) (hdg : decode cc pc = .ok (.bastore, 1)) (kk : ∀ (H1 : Heap) (locs1 : List Loc), va_P D cl (ws.set q0 (a, .inl (cA, n, .inl (fun j => zb (va_up f i x j))))) H1 → va_D A (ws.set q0 (a, .inl (cA, n, .inl (fun j => zb (va_up f i x j))))) → va_S A H0 H1 locs1 → W p l e R s m args below meth c H1 locs1 cells slots Q (F0 m (pc + 1) ls rest)) : W p l e R s m args below meth c H locs cells slots Q (F0 m pc ls (.int (zb x) :: .int (nI i) :: .ref a :: rest)) :=
  va_zast hexec hb hK hP hD hS q0 t0 ha ht (vp_in_nI hi hn) hdg (fun H1 locs1 h1 h2 h3 => kk H1 locs1 (by rw [nI_clamp (Nat.lt_trans hi hn), zb_nar, zupd_b] at h1; exact h1) (by rw [nI_clamp (Nat.lt_trans hi hn), zb_nar, zupd_b] at h2; exact h2) h3)
theorem zn_last (hexec : p.tables.exec = Jvm.exec) (hb : c.code = cc) (hK : va_K D cl tys s) (hP : va_P D cl ws H) (hD : va_D A ws) (hS : va_S A H0 H locs) (q0 t0 : Nat) {cA : ClassId} {n : Nat} {f : Nat → Int64} (ha : ws[q0]? = some (a, .inl (cA, n, .inr (.inl f)))) (ht : tys[t0]? = some (cA, .long)) {i : Nat} {x : Int64} (hi : i < n) (hn : n < 2 ^ 31) (hdg : decode cc pc = .ok (.lastore, 1)) (kk : ∀ (H1 : Heap) (locs1 : List Loc), va_P D cl (ws.set q0 (a, .inl (cA, n, .inr (.inl (va_up f i x))))) H1 → va_D A (ws.set q0 (a, .inl (cA, n, .inr (.inl (va_up f i x))))) → va_S A H0 H1 locs1 → W p l e R s m args below meth c H1 locs1 cells slots Q (F0 m (pc + 1) ls rest)) : W p l e R s m args below meth c H locs cells slots Q (F0 m pc ls (.long x :: .int (nI i) :: .ref a :: rest)) :=
  va_last hexec hb hK hP hD hS q0 t0 ha ht (vp_in_nI hi hn) hdg (fun H1 locs1 h1 h2 h3 => kk H1 locs1 (by rw [nI_clamp (Nat.lt_trans hi hn), zupd_l] at h1; exact h1) (by rw [nI_clamp (Nat.lt_trans hi hn), zupd_l] at h2; exact h2) h3)
end ZN
/-! contracts and calls: the world is a list of cells X, and a rest pl that is carried along -/
abbrev zT (cT : Nat → ClassId) : List (ClassId × FieldType) := [(cT 0, .int), (cT 1, .long), (cT 2, .boolean), (cT 3, .object "java/lang/Object")]
/-- what the tables say beside their words: links between nest mates, casts, the class object of Object[] -/
def zE (U : State) : Prop := va_Nw (.methodLinkNest R_Pr 9 y_Tx_init R_Pr) U ∧ va_Nw (.methodLinkNest R_Pr 18 y_Dk_init R_Pr) U ∧ va_Nw (.methodLinkNest R_Lg 62 y_Pr_isKey R_Pr) U ∧ va_Nw (.castable R_Bk R_Oj) U ∧ va_Dc U ∧ (∃ mi, va_Mi "[Ljava/lang/Object;" mi U) ∧ va_AO R_Oj U
theorem zE.warm {s U : State} (hW : s.WarmedH U.vm) (h : zE s) : zE U := ⟨va_Nw.warmM hW h.1, va_Nw.warmM hW h.2.1, va_Nw.warmM hW h.2.2.1, va_Nw.warmC hW h.2.2.2.1, va_Dc.moved hW.alike h.2.2.2.2.1, (let ⟨mi, q⟩ := h.2.2.2.2.2.1; ⟨mi, va_Mi.moved hW.alike q⟩), va_AO.moved hW.alike h.2.2.2.2.2.2⟩
theorem zE.same {u U : State} (e : u.vm = U.vm) (h : zE u) : zE U := ⟨va_Nw.same rfl e h.1, va_Nw.same rfl e h.2.1, va_Nw.same rfl e h.2.2.1, va_Nw.same rfl e h.2.2.2.1, va_Dc.moved (e ▸ Vm.Alike.refl _) h.2.2.2.2.1, (let ⟨mi, q⟩ := h.2.2.2.2.2.1; ⟨mi, va_Mi.moved (e ▸ Vm.Alike.refl _) q⟩), va_AO.moved (e ▸ Vm.Alike.refl _) h.2.2.2.2.2.2⟩
def zPre (D : va_G) (cl : List vw_C) (T : List (ClassId × FieldType)) (av : List Value) (X : va_W) (sz : Nat) : Array Value → State → Prop := va_Pc av (fun U => U.heap.size = sz ∧ va_P D cl X U.heap ∧ va_K D cl T U ∧ va_D (fun _ => True) X ∧ zE U)
def zPreR (D : va_G) (cl : List vw_C) (T : List (ClassId × FieldType)) (av : List Value) (X : va_W) : Array Value → State → Prop := va_Pc av (fun U => va_P D cl X U.heap ∧ va_K D cl T U ∧ zE U)
def zQ (D : va_G) (cl : List vw_C) {S : Type} (Φ : S → Prop) (r : S → Option Value) (w : S → va_W) (A : Nat → Prop) : Array Value → State → Outcome → State → Prop := fun _ st oc t => (∃ u : S, Φ u ∧ oc = .returned (r u) ∧ va_P D cl (w u) t.heap ∧ va_D A (w u)) ∧ va_F A st t
theorem zPre_blind {D : va_G} {cl : List vw_C} {T : List (ClassId × FieldType)} {av : List Value} {X : va_W} {sz : Nat} : FrameBlind (zPre D cl T av X sz) := fun a U g mk q => by
  obtain ⟨q0, q1, qP, qK, qD, qE⟩ := q
  exact ⟨q0, q1, qP, va_K.moved (u := U) (U := U.calling g mk a) (Vm.Alike.refl U.vm) qK, qD, zE.same (u := U) (U := U.calling g mk a) rfl qE⟩
theorem zPreR_blind {D : va_G} {cl : List vw_C} {T : List (ClassId × FieldType)} {av : List Value} {X : va_W} : FrameBlind (zPreR D cl T av X) := fun a U g mk q => by
  obtain ⟨q0, qP, qK, qE⟩ := q
  exact ⟨q0, qP, va_K.moved (u := U) (U := U.calling g mk a) (Vm.Alike.refl U.vm) qK, zE.same (u := U) (U := U.calling g mk a) rfl qE⟩
theorem zFree {A0 : Nat → Prop} {X cx pl : va_W} {H0 H : Heap} {locs : List Loc} (hD : va_D A0 (X ++ pl)) (hS : va_S A0 H0 H locs) (hA : ∀ q, H0.size ≤ q → A0 q) (isC : List Nat) (hC : isC.map (fun i => X[i]?) = cx.map some) : ∀ q, va_A cx H.size q → A0 q := by
  intro q h
  rcases h with ⟨k, e, h⟩ | h
  · obtain ⟨i, h1, h2⟩ := va_in_of isC hC h
    have hi : i < X.length := (List.getElem?_eq_some_iff.mp h2).1
    exact hD.2 i (q, e) (by rw [List.getElem?_append_left hi]; exact h2)
  · exact hA q (Nat.le_trans hS.1 h)
theorem zSub {D : va_G} {cl : List vw_C} {X cx pl : va_W} {H : Heap} (hP : va_P D cl (X ++ pl) H) (isC : List Nat) (hC : isC.map (fun i => X[i]?) = cx.map some) : va_P D cl cx H := by
  intro k q hk
  obtain ⟨i, h1, h2⟩ := va_in_of isC hC hk
  exact hP i q (by rw [List.getElem?_append_left (List.getElem?_eq_some_iff.mp h2).1]; exact h2)
theorem zSubD {A0 : Nat → Prop} {X cx pl : va_W} (hD : va_D A0 (X ++ pl)) (isC : List Nat) (hn : va_nd isC = true) (hC : isC.map (fun i => X[i]?) = cx.map some) : va_D A0 cx := by
  have h0 : va_D A0 (cx ++ pl) := hD.part isC hn hC
  refine h0.by id (fun k q hq => ?_) (fun i j _ _ e => e)
  show (cx ++ pl)[k]? = some q
  rw [List.getElem?_append_left (List.getElem?_eq_some_iff.mp hq).1]
  exact hq
section ZC
variable {p : Program} {l : Launch} {e : Env} {R : Room} {s : State} {m : MethodId} {args : Array Value} {below : List Frame} {meth : Method} {c : Code} {H : Heap} {locs : List Loc} {cells slots : Nat} {Q : State → Prop}
variable {pc : Nat} {ls : Array Slot} {rest st0 : List Value} {a : Array Value} {A0 : Nat → Prop} {H0 : Heap} {mc ms : Nat} {D : va_G} {cl : List vw_C}
/-- behind a call that had cells cx of X, and not the rest -/
theorem zw_Q {S : Type} {Φ : S → Prop} {r : S → Option Value} {w : S → va_W} {X cx wr pl : va_W} (hr : va_Run p l e R s m args below meth c H locs cells slots mc ms (F0 m pc ls st0) rest (zQ D cl Φ r w (va_A cx H.size) a) (va_A cx H.size)) (hP : va_P D cl (X ++ pl) H) (hD : va_D A0 (X ++ pl)) (hS : va_S A0 H0 H locs) (hA : ∀ q, H0.size ≤ q → A0 q) (isC isR : List Nat) (hC : isC.map (fun i => X[i]?) = cx.map some) (hR : isR.map (fun i => X[i]?) = wr.map some) (hn : va_nd isR = true) (hdis : ∀ i ∈ isR, i ∉ isC) (st1 : S → List Value) (hs1 : ∀ u, (r u).toList ++ rest = st1 u)
    (kk : ∀ (u : S) (H1 : Heap) (locs1 : List Loc), Φ u → va_P D cl ((wr ++ w u) ++ pl) H1 → va_D A0 ((wr ++ w u) ++ pl) → va_S A0 H0 H1 locs1 → W p l e R s m args below meth c H1 locs1 (cells + mc) (slots + ms) Q (F0 m (pc + 3) ls (st1 u))) : W p l e R s m args below meth c H locs cells slots Q (F0 m pc ls st0) := by
  have hF := zFree hD hS hA isC hC
  intro T hT XX
  obtain ⟨v, st₀, t, T', L, h0, X', hL, e1, e2, ⟨⟨u, hφ, hv, hp, hd⟩, hz, hk⟩, st⟩ := hr T hT XX
  have hv' : v = r u := by injection hv
  subst hv'
  rw [h0] at hz hk
  obtain ⟨j1, j2⟩ := va_joinQ hP hD isC isR hC hR hn hdis hk hF hp hd
  have kk' := kk u T'.heap (locs ++ L) hφ (by rw [e1]; exact j1) j2 ⟨Nat.le_trans hS.1 (by rw [e1]; exact hz), fun q h1 h2 => by rw [e1, hk q (Nat.lt_of_lt_of_le h1 hS.1) (fun z => h2 (hF q z))]; exact hS.2.1 q h1 h2, fun q hq => by
      rcases List.mem_append.mp hq with h | h
      · exact hS.2.2 q h
      · exact hF _ (hL q h)⟩
  rw [← hs1 u] at kk'
  obtain ⟨t2, a1, b1⟩ := kk' T' rfl X'
  exact ⟨t2, st t2 a1, b1⟩
/-- behind a call that had cells cx of X and the rest -/
theorem zw_P {S : Type} {Φ : S → Prop} {r : S → Option Value} {rx pl1 : S → va_W} {X cx wr pl : va_W} (hr : va_Run p l e R s m args below meth c H locs cells slots mc ms (F0 m pc ls st0) rest (zQ D cl Φ r (fun u => rx u ++ pl1 u) (va_A (cx ++ pl) H.size) a) (va_A (cx ++ pl) H.size)) (hP : va_P D cl (X ++ pl) H) (hD : va_D A0 (X ++ pl)) (hS : va_S A0 H0 H locs) (hA : ∀ q, H0.size ≤ q → A0 q) (isC isR : List Nat) (hC : isC.map (fun i => X[i]?) = cx.map some) (hR : isR.map (fun i => X[i]?) = wr.map some) (hn : va_nd isR = true) (hdis : ∀ i ∈ isR, i ∉ isC) (st1 : S → List Value) (hs1 : ∀ u, (r u).toList ++ rest = st1 u)
    (kk : ∀ (u : S) (H1 : Heap) (locs1 : List Loc), Φ u → va_P D cl ((wr ++ rx u) ++ pl1 u) H1 → va_D A0 ((wr ++ rx u) ++ pl1 u) → va_S A0 H0 H1 locs1 → W p l e R s m args below meth c H1 locs1 (cells + mc) (slots + ms) Q (F0 m (pc + 3) ls (st1 u))) : W p l e R s m args below meth c H locs cells slots Q (F0 m pc ls st0) := by
  have hF := va_freeP hD hS hA isC hC
  intro T hT XX
  obtain ⟨v, st₀, t, T', L, h0, X', hL, e1, e2, ⟨⟨u, hφ, hv, hp, hd⟩, hz, hk⟩, st⟩ := hr T hT XX
  have hv' : v = r u := by injection hv
  subst hv'
  rw [h0] at hz hk
  obtain ⟨j1, j2⟩ := va_joinP hP hD isC isR hC hR hn hdis hk hF hp hd
  have kk' := kk u T'.heap (locs ++ L) hφ (by rw [e1]; exact j1) j2 ⟨Nat.le_trans hS.1 (by rw [e1]; exact hz), fun q h1 h2 => by rw [e1, hk q (Nat.lt_of_lt_of_le h1 hS.1) (fun z => h2 (hF q z))]; exact hS.2.1 q h1 h2, fun q hq => by
      rcases List.mem_append.mp hq with h | h
      · exact hS.2.2 q h
      · exact hF _ (hL q h)⟩
  rw [← hs1 u] at kk'
  obtain ⟨t2, a1, b1⟩ := kk' T' rfl X'
  exact ⟨t2, st t2 a1, b1⟩
/-- behind a call that only reads -/
theorem zw_R {r : Value} (hr : va_Run p l e R s m args below meth c H locs cells slots 0 0 (F0 m pc ls st0) rest (k2_QcV r a) (fun _ => False)) (kk : W p l e R s m args below meth c H locs cells slots Q (F0 m (pc + 3) ls (r :: rest))) : W p l e R s m args below meth c H locs cells slots Q (F0 m pc ls st0) := W.callV hr.run kk
end ZC
section ZP
variable {s : State} {H : Heap} {D : va_G} {cl : List vw_C} {T : List (ClassId × FieldType)} {X cx pl : va_W} {A0 : Nat → Prop}
/-- what a callee's start asks for, out of the caller's world: cells cx, without the rest -/
theorem zp_Q {av : List Value} (hK : va_K D cl T s) (hE : zE s) (hP : va_P D cl (X ++ pl) H) (hD : va_D A0 (X ++ pl)) (isC : List Nat) (hn : va_nd isC = true) (hC : isC.map (fun i => X[i]?) = cx.map some) : ∀ U : State, U.heap = H → s.WarmedH U.vm → zPre D cl T av cx H.size av.toArray U :=
  fun U hU hW => ⟨rfl, by rw [hU], by rw [hU]; exact zSub hP isC hC, va_K.moved hW.alike hK, (zSubD hD isC hn hC).weaken (fun _ _ _ _ => trivial), zE.warm hW hE⟩
theorem zp_P {av : List Value} (hK : va_K D cl T s) (hE : zE s) (hP : va_P D cl (X ++ pl) H) (hD : va_D A0 (X ++ pl)) (isC : List Nat) (hn : va_nd isC = true) (hC : isC.map (fun i => X[i]?) = cx.map some) : ∀ U : State, U.heap = H → s.WarmedH U.vm → zPre D cl T av (cx ++ pl) H.size av.toArray U :=
  fun U hU hW => ⟨rfl, by rw [hU], by rw [hU]; exact hP.part isC hC, va_K.moved hW.alike hK, (hD.part isC hn hC).weaken (fun _ _ _ _ => trivial), zE.warm hW hE⟩
theorem zp_R {av : List Value} (hK : va_K D cl T s) (hE : zE s) (hP : va_P D cl cx H) : ∀ U : State, U.heap = H → s.WarmedH U.vm → zPreR D cl T av cx av.toArray U :=
  fun U hU hW => ⟨rfl, by rw [hU]; exact hP, va_K.moved hW.alike hK, zE.warm hW hE⟩
end ZP
section ZNEW
variable {p : Program} {l : Launch} {e : Env} {R : Room} {s : State} {m : MethodId} {args : Array Value} {below : List Frame} {meth : Method} {c : Code} {H : Heap} {locs : List Loc} {cells slots : Nat} {Q : State → Prop}
variable {cc : ByteArray} {pc : Nat} {ls : Array Slot} {rest : List Value} {D : va_G} {cl : List vw_C} {A : Nat → Prop} {T : List (ClassId × FieldType)} {ws : va_W} {H0 : Heap}

theorem zn_newI (hexec : p.tables.exec = Jvm.exec) (hb : c.code = cc) (harr : (Cond.arrayClass .int).before args s = true) (hK : va_K D cl T s) (hP : va_P D cl ws H) (hD : va_D A ws) (hS : va_S A H0 H locs) (hA : ∀ q, H0.size ≤ q → A q) (t0 : Nat) {cI : ClassId} (ht : T[t0]? = some (cI, .int))
    {N : Nat} (hN : N < 2 ^ 24) (hcells : cells + 1 ≤ R.cells) (hslots : slots + N ≤ R.slots) (hdg : decode cc pc = .ok (.newarray .int, 2))
    (kk : ∀ (q : Nat) (H1 : Heap), va_P D cl (ws ++ [(q, .inl (cI, N, .inl (fun _ => nI 0)))]) H1 → va_D A (ws ++ [(q, .inl (cI, N, .inl (fun _ => nI 0)))]) → va_S A H0 H1 locs → W p l e R s m args below meth c H1 locs (cells + 1) (slots + N) Q (F0 m (pc + 2) ls (.ref q :: rest))) : W p l e R s m args below meth c H locs cells slots Q (F0 m pc ls (.int (nI N) :: rest)) := by
  have h31 : N < 2 ^ 31 := Nat.lt_trans hN (by decide)
  have h9 : componentBytes .int ≤ 8 := by decide
  have hb9 : N * componentBytes .int ≤ 536870912 := Nat.le_trans (Nat.mul_le_mul_left N h9) (by omega)
  refine va_newa (atype := .int) (ty := .int) (a0 := (N, .inl (fun _ => nI 0))) hexec hb harr rfl hK hP hD hS hA (fun cA => ?_) (nI_pos h31) (nI_clamp h31) hb9 hcells hslots hdg (fun q cA H1 hK1 hP1 hD1 hS1 => ?_)
  · first | rfl | (rw [vp_cell_i]; rfl)
  · have e1 := (hK1.2 T.length (cA, .int) (by simp)).2
    have e2 := (hK.2 t0 _ ht).2
    have e3 : cA = cI := Option.some.inj (e1.symm.trans e2)
    subst e3
    exact kk q H1 hP1 hD1 hS1
theorem zn_newZ (hexec : p.tables.exec = Jvm.exec) (hb : c.code = cc) (harr : (Cond.arrayClass .boolean).before args s = true) (hK : va_K D cl T s) (hP : va_P D cl ws H) (hD : va_D A ws) (hS : va_S A H0 H locs) (hA : ∀ q, H0.size ≤ q → A q) (t0 : Nat) {cI : ClassId} (ht : T[t0]? = some (cI, .boolean))
    {N : Nat} (hN : N < 2 ^ 24) (hcells : cells + 1 ≤ R.cells) (hslots : slots + N ≤ R.slots) (hdg : decode cc pc = .ok (.newarray .boolean, 2))
    (kk : ∀ (q : Nat) (H1 : Heap), va_P D cl (ws ++ [(q, .inl (cI, N, .inl (fun _ => zb false)))]) H1 → va_D A (ws ++ [(q, .inl (cI, N, .inl (fun _ => zb false)))]) → va_S A H0 H1 locs → W p l e R s m args below meth c H1 locs (cells + 1) (slots + N) Q (F0 m (pc + 2) ls (.ref q :: rest))) : W p l e R s m args below meth c H locs cells slots Q (F0 m pc ls (.int (nI N) :: rest)) := by
  have h31 : N < 2 ^ 31 := Nat.lt_trans hN (by decide)
  have h9 : componentBytes .boolean ≤ 8 := by decide
  have hb9 : N * componentBytes .boolean ≤ 536870912 := Nat.le_trans (Nat.mul_le_mul_left N h9) (by omega)
  refine va_newa (atype := .boolean) (ty := .boolean) (a0 := (N, .inl (fun _ => zb false))) hexec hb harr rfl hK hP hD hS hA (fun cA => ?_) (nI_pos h31) (nI_clamp h31) hb9 hcells hslots hdg (fun q cA H1 hK1 hP1 hD1 hS1 => ?_)
  · first | rfl | (rw [vp_cell_i]; rfl)
  · have e1 := (hK1.2 T.length (cA, .boolean) (by simp)).2
    have e2 := (hK.2 t0 _ ht).2
    have e3 : cA = cI := Option.some.inj (e1.symm.trans e2)
    subst e3
    exact kk q H1 hP1 hD1 hS1
theorem zn_newJ (hexec : p.tables.exec = Jvm.exec) (hb : c.code = cc) (harr : (Cond.arrayClass .long).before args s = true) (hK : va_K D cl T s) (hP : va_P D cl ws H) (hD : va_D A ws) (hS : va_S A H0 H locs) (hA : ∀ q, H0.size ≤ q → A q) (t0 : Nat) {cI : ClassId} (ht : T[t0]? = some (cI, .long))
    {N : Nat} (hN : N < 2 ^ 24) (hcells : cells + 1 ≤ R.cells) (hslots : slots + N ≤ R.slots) (hdg : decode cc pc = .ok (.newarray .long, 2))
    (kk : ∀ (q : Nat) (H1 : Heap), va_P D cl (ws ++ [(q, .inl (cI, N, .inr (.inl (fun _ => 0))))]) H1 → va_D A (ws ++ [(q, .inl (cI, N, .inr (.inl (fun _ => 0))))]) → va_S A H0 H1 locs → W p l e R s m args below meth c H1 locs (cells + 1) (slots + N) Q (F0 m (pc + 2) ls (.ref q :: rest))) : W p l e R s m args below meth c H locs cells slots Q (F0 m pc ls (.int (nI N) :: rest)) := by
  have h31 : N < 2 ^ 31 := Nat.lt_trans hN (by decide)
  have h9 : componentBytes .long ≤ 8 := by decide
  have hb9 : N * componentBytes .long ≤ 536870912 := Nat.le_trans (Nat.mul_le_mul_left N h9) (by omega)
  refine va_newa (atype := .long) (ty := .long) (a0 := (N, .inr (.inl (fun _ => 0)))) hexec hb harr rfl hK hP hD hS hA (fun cA => ?_) (nI_pos h31) (nI_clamp h31) hb9 hcells hslots hdg (fun q cA H1 hK1 hP1 hD1 hS1 => ?_)
  · first | rfl | (rw [vp_cell_l]; rfl)
  · have e1 := (hK1.2 T.length (cA, .long) (by simp)).2
    have e2 := (hK.2 t0 _ ht).2
    have e3 : cA = cI := Option.some.inj (e1.symm.trans e2)
    subst e3
    exact kk q H1 hP1 hD1 hS1
end ZNEW
section ZM
variable {p : Program} {l : Launch} {e : Env} {R : Room} {s : State} {m : MethodId} {args : Array Value} {below : List Frame} {meth : Method} {c : Code} {H : Heap} {locs : List Loc} {cells slots : Nat} {Q : State → Prop}
variable {cc : ByteArray} {pc : Nat} {ls : Array Slot} {rest : List Value}
theorem zn_min {a b : Nat} (ha : a < 2 ^ 31) (hb : b < 2 ^ 31) : (if nI b < nI a then nI b else nI a) = nI (min a b) := by
  by_cases h : b < a
  · rw [if_pos ((nI_ltI hb ha).mpr h), Nat.min_eq_right (by omega)]
  · rw [if_neg (fun q => h ((nI_ltI hb ha).mp q)), Nat.min_eq_left (by omega)]
theorem zn_max {a b : Nat} (ha : a < 2 ^ 31) (hb : b < 2 ^ 31) : (if nI a < nI b then nI b else nI a) = nI (max a b) := by
  by_cases h : a < b
  · rw [if_pos ((nI_ltI ha hb).mpr h), Nat.max_eq_right (by omega)]
  · rw [if_neg (fun q => h ((nI_ltI ha hb).mp q)), Nat.max_eq_left (by omega)]
theorem zn_mmin (hexec : p.tables.exec = Jvm.exec) (hb : c.code = cc) (hml : c.maxLocals = ls.size) {own : String} {index : Nat} (hown : s.vm.findClass own = some m.cls) (hlink : (Cond.methodLink own index Lib.Math.min.name).before args s = true) (hstat : (Cond.static Lib.Math.min.name).before args s = true) (hini : (Cond.initialized "java/lang/Math").before args s = true) (hcode : (Cond.code Lib.Math.min.name Lib.Math.min.code 2 (some .int)).before args s = true)
    (hframes : 1 ≤ R.frames) (hlocals : (rest.map fun v => v.category).sum + 13 ≤ R.locals) (hc : cells ≤ R.cells) (hs : slots ≤ R.slots) {a b : Nat} (ha : a < 2 ^ 31) (hb2 : b < 2 ^ 31) (hdg : decode cc pc = .ok (.invokestatic index, 3))
    (kk : W p l e R s m args below meth c H locs cells slots Q (F0 m (pc + 3) ls (.int (nI (min a b)) :: rest))) : W p l e R s m args below meth c H locs cells slots Q (F0 m pc ls (.int (nI b) :: .int (nI a) :: rest)) := va_mmin hexec hb hml hown hlink hstat hini hcode hframes hlocals hc hs hdg (by rw [zn_min ha hb2]; exact kk)
theorem zn_mmax (hexec : p.tables.exec = Jvm.exec) (hb : c.code = cc) (hml : c.maxLocals = ls.size) {own : String} {index : Nat} (hown : s.vm.findClass own = some m.cls) (hlink : (Cond.methodLink own index Lib.Math.max.name).before args s = true) (hstat : (Cond.static Lib.Math.max.name).before args s = true) (hini : (Cond.initialized "java/lang/Math").before args s = true) (hcode : (Cond.code Lib.Math.max.name Lib.Math.max.code 2 (some .int)).before args s = true)
    (hframes : 1 ≤ R.frames) (hlocals : (rest.map fun v => v.category).sum + 13 ≤ R.locals) (hc : cells ≤ R.cells) (hs : slots ≤ R.slots) {a b : Nat} (ha : a < 2 ^ 31) (hb2 : b < 2 ^ 31) (hdg : decode cc pc = .ok (.invokestatic index, 3))
    (kk : W p l e R s m args below meth c H locs cells slots Q (F0 m (pc + 3) ls (.int (nI (max a b)) :: rest))) : W p l e R s m args below meth c H locs cells slots Q (F0 m pc ls (.int (nI b) :: .int (nI a) :: rest)) := va_mmax hexec hb hml hown hlink hstat hini hcode hframes hlocals hc hs hdg (by rw [zn_max ha hb2]; exact kk)
end ZM
end
