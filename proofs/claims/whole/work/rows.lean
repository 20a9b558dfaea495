section
-- ===== PART A: goes FIRST, ahead of the names: the tables' words, and 'selects' of the private methods out of them =====
/-- a private method of a class that the tables say can be made, by its rows of tables_1 -/
def lw_okq (q : MethodName × Nat) : Prop := (q.1.cls ≠ "java/lang/invoke/MethodHandle" ∧ q.1.cls ≠ "java/lang/invoke/VarHandle") ∧ Cond.instantiable q.1.cls q.2 ∈ tables_1 ∧ Cond.privateMethod q.1 ∈ tables_1 ∧ Cond.instanceMethod q.1 ∈ tables_1
theorem lw_p0 : lw_okq (⟨"PageRescue$Log", "addRecord", "(IJ)V"⟩, 9) := ⟨⟨by decide +kernel, by decide +kernel⟩, List.mem_of_getElem? (i := 61) (by decide +kernel), List.mem_of_getElem? (i := 220) (by decide +kernel), List.mem_of_getElem? (i := 221) (by decide +kernel)⟩
theorem lw_p1 : lw_okq (⟨"PageRescue$Backups", "startOfLatest", "()I"⟩, 5) := ⟨⟨by decide +kernel, by decide +kernel⟩, List.mem_of_getElem? (i := 105) (by decide +kernel), List.mem_of_getElem? (i := 344) (by decide +kernel), List.mem_of_getElem? (i := 345) (by decide +kernel)⟩
theorem lw_p2 : lw_okq (⟨"PageRescue$Backups", "finish", "(LPageRescue$Backup;LPageRescue$Log;)V"⟩, 5) := ⟨⟨by decide +kernel, by decide +kernel⟩, List.mem_of_getElem? (i := 105) (by decide +kernel), List.mem_of_getElem? (i := 374) (by decide +kernel), List.mem_of_getElem? (i := 375) (by decide +kernel)⟩
theorem lw_p3 : lw_okq (⟨"java/util/ArrayList", "add", "(Ljava/lang/Object;[Ljava/lang/Object;I)V"⟩, 3) := ⟨⟨by decide +kernel, by decide +kernel⟩, List.mem_of_getElem? (i := 111) (by decide +kernel), List.mem_of_getElem? (i := 383) (by decide +kernel), List.mem_of_getElem? (i := 384) (by decide +kernel)⟩
theorem lw_p4 : lw_okq (⟨"java/util/ArrayList", "grow", "()[Ljava/lang/Object;"⟩, 3) := ⟨⟨by decide +kernel, by decide +kernel⟩, List.mem_of_getElem? (i := 111) (by decide +kernel), List.mem_of_getElem? (i := 387) (by decide +kernel), List.mem_of_getElem? (i := 388) (by decide +kernel)⟩
theorem lw_p5 : lw_okq (⟨"java/util/ArrayList", "grow", "(I)[Ljava/lang/Object;"⟩, 3) := ⟨⟨by decide +kernel, by decide +kernel⟩, List.mem_of_getElem? (i := 111) (by decide +kernel), List.mem_of_getElem? (i := 391) (by decide +kernel), List.mem_of_getElem? (i := 392) (by decide +kernel)⟩
theorem lw_p6 : lw_okq (⟨"PageRescue$Backups", "dropOldest", "()V"⟩, 5) := ⟨⟨by decide +kernel, by decide +kernel⟩, List.mem_of_getElem? (i := 105) (by decide +kernel), List.mem_of_getElem? (i := 430) (by decide +kernel), List.mem_of_getElem? (i := 431) (by decide +kernel)⟩
theorem lw_p7 : lw_okq (⟨"PageRescue", "recover", "()I"⟩, 7) := ⟨⟨by decide +kernel, by decide +kernel⟩, List.mem_of_getElem? (i := 18) (by decide +kernel), List.mem_of_getElem? (i := 447) (by decide +kernel), List.mem_of_getElem? (i := 448) (by decide +kernel)⟩
theorem lw_p8 : lw_okq (⟨"PageRescueModel", "room", "()I"⟩, 21) := ⟨⟨by decide +kernel, by decide +kernel⟩, List.mem_of_getElem? (i := 558) (by decide +kernel), List.mem_of_getElem? (i := 639) (by decide +kernel), List.mem_of_getElem? (i := 640) (by decide +kernel)⟩
theorem lw_p9 : lw_okq (⟨"PageRescueModel", "log", "(IIZ)I"⟩, 21) := ⟨⟨by decide +kernel, by decide +kernel⟩, List.mem_of_getElem? (i := 558) (by decide +kernel), List.mem_of_getElem? (i := 643) (by decide +kernel), List.mem_of_getElem? (i := 644) (by decide +kernel)⟩
theorem lw_p10 : lw_okq (⟨"PageRescueModel", "commits", "()I"⟩, 21) := ⟨⟨by decide +kernel, by decide +kernel⟩, List.mem_of_getElem? (i := 558) (by decide +kernel), List.mem_of_getElem? (i := 651) (by decide +kernel), List.mem_of_getElem? (i := 652) (by decide +kernel)⟩
theorem lw_p11 : lw_okq (⟨"PageRescueModel", "undo", "()V"⟩, 21) := ⟨⟨by decide +kernel, by decide +kernel⟩, List.mem_of_getElem? (i := 558) (by decide +kernel), List.mem_of_getElem? (i := 659) (by decide +kernel), List.mem_of_getElem? (i := 660) (by decide +kernel)⟩
theorem lw_p12 : lw_okq (⟨"PageRescueModel", "after", "(II)J"⟩, 21) := ⟨⟨by decide +kernel, by decide +kernel⟩, List.mem_of_getElem? (i := 558) (by decide +kernel), List.mem_of_getElem? (i := 663) (by decide +kernel), List.mem_of_getElem? (i := 664) (by decide +kernel)⟩
theorem lw_p13 : lw_okq (⟨"PageRescueModel", "numberOf", "(I)I"⟩, 21) := ⟨⟨by decide +kernel, by decide +kernel⟩, List.mem_of_getElem? (i := 558) (by decide +kernel), List.mem_of_getElem? (i := 677) (by decide +kernel), List.mem_of_getElem? (i := 678) (by decide +kernel)⟩
theorem lw_p14 : lw_okq (⟨"PageRescueModel", "fulls", "()I"⟩, 21) := ⟨⟨by decide +kernel, by decide +kernel⟩, List.mem_of_getElem? (i := 558) (by decide +kernel), List.mem_of_getElem? (i := 689) (by decide +kernel), List.mem_of_getElem? (i := 690) (by decide +kernel)⟩
theorem lw_p15 : lw_okq (⟨"PageRescueModel", "finish", "()V"⟩, 21) := ⟨⟨by decide +kernel, by decide +kernel⟩, List.mem_of_getElem? (i := 558) (by decide +kernel), List.mem_of_getElem? (i := 697) (by decide +kernel), List.mem_of_getElem? (i := 698) (by decide +kernel)⟩
def lw_privs_1 : List (MethodName × Nat) := [(⟨"PageRescue$Log", "addRecord", "(IJ)V"⟩, 9), (⟨"PageRescue$Backups", "startOfLatest", "()I"⟩, 5), (⟨"PageRescue$Backups", "finish", "(LPageRescue$Backup;LPageRescue$Log;)V"⟩, 5), (⟨"java/util/ArrayList", "add", "(Ljava/lang/Object;[Ljava/lang/Object;I)V"⟩, 3), (⟨"java/util/ArrayList", "grow", "()[Ljava/lang/Object;"⟩, 3), (⟨"java/util/ArrayList", "grow", "(I)[Ljava/lang/Object;"⟩, 3), (⟨"PageRescue$Backups", "dropOldest", "()V"⟩, 5), (⟨"PageRescue", "recover", "()I"⟩, 7), (⟨"PageRescueModel", "room", "()I"⟩, 21), (⟨"PageRescueModel", "log", "(IIZ)I"⟩, 21), (⟨"PageRescueModel", "commits", "()I"⟩, 21), (⟨"PageRescueModel", "undo", "()V"⟩, 21), (⟨"PageRescueModel", "after", "(II)J"⟩, 21), (⟨"PageRescueModel", "numberOf", "(I)I"⟩, 21), (⟨"PageRescueModel", "fulls", "()I"⟩, 21), (⟨"PageRescueModel", "finish", "()V"⟩, 21)]
theorem lw_r1 : ∀ q ∈ lw_privs_1, lw_okq q := List.forall_mem_cons.mpr ⟨lw_p0, List.forall_mem_cons.mpr ⟨lw_p1, List.forall_mem_cons.mpr ⟨lw_p2, List.forall_mem_cons.mpr ⟨lw_p3, List.forall_mem_cons.mpr ⟨lw_p4, List.forall_mem_cons.mpr ⟨lw_p5, List.forall_mem_cons.mpr ⟨lw_p6, List.forall_mem_cons.mpr ⟨lw_p7, List.forall_mem_cons.mpr ⟨lw_p8, List.forall_mem_cons.mpr ⟨lw_p9, List.forall_mem_cons.mpr ⟨lw_p10, List.forall_mem_cons.mpr ⟨lw_p11, List.forall_mem_cons.mpr ⟨lw_p12, List.forall_mem_cons.mpr ⟨lw_p13, List.forall_mem_cons.mpr ⟨lw_p14, List.forall_mem_cons.mpr ⟨lw_p15, fun _ h => absurd h List.not_mem_nil⟩⟩⟩⟩⟩⟩⟩⟩⟩⟩⟩⟩⟩⟩⟩⟩
theorem lw_p16 : lw_okq (⟨"PageRescueModel", "firstFull", "(I)I"⟩, 21) := ⟨⟨by decide +kernel, by decide +kernel⟩, List.mem_of_getElem? (i := 558) (by decide +kernel), List.mem_of_getElem? (i := 701) (by decide +kernel), List.mem_of_getElem? (i := 702) (by decide +kernel)⟩
theorem lw_p17 : lw_okq (⟨"PageRescueModel", "recover", "()I"⟩, 21) := ⟨⟨by decide +kernel, by decide +kernel⟩, List.mem_of_getElem? (i := 558) (by decide +kernel), List.mem_of_getElem? (i := 709) (by decide +kernel), List.mem_of_getElem? (i := 710) (by decide +kernel)⟩
theorem lw_p18 : lw_okq (⟨"PageRescueModel", "best", "(I)I"⟩, 21) := ⟨⟨by decide +kernel, by decide +kernel⟩, List.mem_of_getElem? (i := 558) (by decide +kernel), List.mem_of_getElem? (i := 713) (by decide +kernel), List.mem_of_getElem? (i := 714) (by decide +kernel)⟩
theorem lw_p19 : lw_okq (⟨"PageRescueModel", "changesOn", "(III)I"⟩, 21) := ⟨⟨by decide +kernel, by decide +kernel⟩, List.mem_of_getElem? (i := 558) (by decide +kernel), List.mem_of_getElem? (i := 717) (by decide +kernel), List.mem_of_getElem? (i := 718) (by decide +kernel)⟩
theorem lw_p20 : lw_okq (⟨"PageRescueModel", "commitRecord", "(I)I"⟩, 21) := ⟨⟨by decide +kernel, by decide +kernel⟩, List.mem_of_getElem? (i := 558) (by decide +kernel), List.mem_of_getElem? (i := 729) (by decide +kernel), List.mem_of_getElem? (i := 730) (by decide +kernel)⟩
theorem lw_p21 : lw_okq (⟨"PageRescueModel", "begun", "()I"⟩, 21) := ⟨⟨by decide +kernel, by decide +kernel⟩, List.mem_of_getElem? (i := 558) (by decide +kernel), List.mem_of_getElem? (i := 749) (by decide +kernel), List.mem_of_getElem? (i := 750) (by decide +kernel)⟩
def lw_privs_2 : List (MethodName × Nat) := [(⟨"PageRescueModel", "firstFull", "(I)I"⟩, 21), (⟨"PageRescueModel", "recover", "()I"⟩, 21), (⟨"PageRescueModel", "best", "(I)I"⟩, 21), (⟨"PageRescueModel", "changesOn", "(III)I"⟩, 21), (⟨"PageRescueModel", "commitRecord", "(I)I"⟩, 21), (⟨"PageRescueModel", "begun", "()I"⟩, 21)]
theorem lw_r2 : ∀ q ∈ lw_privs_2, lw_okq q := List.forall_mem_cons.mpr ⟨lw_p16, List.forall_mem_cons.mpr ⟨lw_p17, List.forall_mem_cons.mpr ⟨lw_p18, List.forall_mem_cons.mpr ⟨lw_p19, List.forall_mem_cons.mpr ⟨lw_p20, List.forall_mem_cons.mpr ⟨lw_p21, fun _ h => absurd h List.not_mem_nil⟩⟩⟩⟩⟩⟩
def lw_privs : List (MethodName × Nat) := lw_privs_1 ++ (lw_privs_2)
def lw_tbl : List Cond := k2_sels lw_privs ++ tables_1
theorem lw_privs_ok : ∀ q ∈ lw_privs, lw_okq q := by
  show ∀ q ∈ lw_privs_1 ++ (lw_privs_2), lw_okq q
  exact List.forall_mem_append.mpr ⟨lw_r1, lw_r2⟩
end
section
/-! names: classes, fields in the order of their slots, methods: written by program -/
def R_Pr : String := "PageRescue"
def R_Lg : String := "PageRescue$Log"
def R_Tx : String := "PageRescue$Transaction"
def R_Dk : String := "PageRescue$Disk"
def R_Bk : String := "PageRescue$Backup"
def R_Bs : String := "PageRescue$Backups"
def R_Md : String := "PageRescueModel"
def R_Lw : String := "PageRescueLaw"
def R_Al : String := "java/util/ArrayList"
def R_Ab : String := "java/util/AbstractList"
def R_Ac : String := "java/util/AbstractCollection"
def R_Ar : String := "java/util/Arrays"
def R_Ob : String := "java/util/Objects"
def R_Pq : String := "jdk/internal/util/Preconditions"
def R_As : String := "jdk/internal/util/ArraysSupport"
def R_Mt : String := "java/lang/Math"
def R_Oj : String := "java/lang/Object"
def R_Sy : String := "java/lang/System"
def F_Pr : u_T := fun k => match k with
  | 0 => ("PageRescue", "log", "LPageRescue$Log;", true)
  | 1 => ("PageRescue", "transaction", "LPageRescue$Transaction;", true)
  | 2 => ("PageRescue", "disk", "LPageRescue$Disk;", true)
  | 3 => ("PageRescue", "backups", "LPageRescue$Backups;", true)
  | 4 => ("PageRescue", "scratch", "[J", true)
  | 5 => ("PageRescue", "scratchOpen", "Z", false)
  | _ => ("PageRescue", "redoFrom", "[I", true)
def t_Pr : Nat → FieldType := fun k => match k with
  | 0 => (.object "PageRescue$Log")
  | 1 => (.object "PageRescue$Transaction")
  | 2 => (.object "PageRescue$Disk")
  | 3 => (.object "PageRescue$Backups")
  | 4 => (.array .long)
  | 5 => .boolean
  | _ => (.array .int)
theorem n_Pr : ∀ a, a < 7 → ∀ b, b < 7 → a ≠ b → (F_Pr a).2.1 ≠ (F_Pr b).2.1 := by decide +kernel
theorem t_Pr_ok : ∀ k, k < 7 → parseFieldDescriptor (F_Pr k).2.2.1 = some (t_Pr k) := by decide +kernel
def F_Lg : u_T := fun k => match k with
  | 0 => ("PageRescue$Log", "size", "I", true)
  | 1 => ("PageRescue$Log", "keys", "[I", true)
  | 2 => ("PageRescue$Log", "contents", "[J", true)
  | 3 => ("PageRescue$Log", "table", "[J", true)
  | 4 => ("PageRescue$Log", "pageNumbers", "[I", true)
  | 5 => ("PageRescue$Log", "latest", "I", false)
  | 6 => ("PageRescue$Log", "commits", "I", false)
  | 7 => ("PageRescue$Log", "archived", "I", false)
  | _ => ("PageRescue$Log", "purged", "I", false)
def t_Lg : Nat → FieldType := fun k => match k with
  | 0 => .int
  | 1 => (.array .int)
  | 2 => (.array .long)
  | 3 => (.array .long)
  | 4 => (.array .int)
  | 5 => .int
  | 6 => .int
  | 7 => .int
  | _ => .int
theorem n_Lg : ∀ a, a < 9 → ∀ b, b < 9 → a ≠ b → (F_Lg a).2.1 ≠ (F_Lg b).2.1 := by decide +kernel
theorem t_Lg_ok : ∀ k, k < 9 → parseFieldDescriptor (F_Lg k).2.2.1 = some (t_Lg k) := by decide +kernel
def F_Tx : u_T := fun k => match k with
  | 0 => ("PageRescue$Transaction", "keys", "[I", true)
  | 1 => ("PageRescue$Transaction", "replaced", "[J", true)
  | 2 => ("PageRescue$Transaction", "changes", "I", false)
  | _ => ("PageRescue$Transaction", "isOpen", "Z", false)
def t_Tx : Nat → FieldType := fun k => match k with
  | 0 => (.array .int)
  | 1 => (.array .long)
  | 2 => .int
  | _ => .boolean
theorem n_Tx : ∀ a, a < 4 → ∀ b, b < 4 → a ≠ b → (F_Tx a).2.1 ≠ (F_Tx b).2.1 := by decide +kernel
theorem t_Tx_ok : ∀ k, k < 4 → parseFieldDescriptor (F_Tx k).2.2.1 = some (t_Tx k) := by decide +kernel
def F_Dk : u_T := fun k => match k with
  | 0 => ("PageRescue$Disk", "numbers", "[I", true)
  | _ => ("PageRescue$Disk", "torn", "[Z", true)
def t_Dk : Nat → FieldType := fun k => match k with
  | 0 => (.array .int)
  | _ => (.array .boolean)
theorem n_Dk : ∀ a, a < 2 → ∀ b, b < 2 → a ≠ b → (F_Dk a).2.1 ≠ (F_Dk b).2.1 := by decide +kernel
theorem t_Dk_ok : ∀ k, k < 2 → parseFieldDescriptor (F_Dk k).2.2.1 = some (t_Dk k) := by decide +kernel
def F_Bk : u_T := fun k => match k with
  | 0 => ("PageRescue$Backup", "full", "Z", true)
  | 1 => ("PageRescue$Backup", "start", "I", true)
  | 2 => ("PageRescue$Backup", "imageNumbers", "[I", true)
  | 3 => ("PageRescue$Backup", "end", "I", false)
  | 4 => ("PageRescue$Backup", "images", "I", false)
  | _ => ("PageRescue$Backup", "visited", "I", false)
def t_Bk : Nat → FieldType := fun k => match k with
  | 0 => .boolean
  | 1 => .int
  | 2 => (.array .int)
  | 3 => .int
  | 4 => .int
  | _ => .int
theorem n_Bk : ∀ a, a < 6 → ∀ b, b < 6 → a ≠ b → (F_Bk a).2.1 ≠ (F_Bk b).2.1 := by decide +kernel
theorem t_Bk_ok : ∀ k, k < 6 → parseFieldDescriptor (F_Bk k).2.2.1 = some (t_Bk k) := by decide +kernel
def F_Bs : u_T := fun k => match k with
  | 0 => ("PageRescue$Backups", "keep", "I", true)
  | 1 => ("PageRescue$Backups", "finished", "Ljava/util/ArrayList;", true)
  | 2 => ("PageRescue$Backups", "running", "LPageRescue$Backup;", false)
  | 3 => ("PageRescue$Backups", "oldestKept", "I", false)
  | _ => ("PageRescue$Backups", "fullKept", "I", false)
def t_Bs : Nat → FieldType := fun k => match k with
  | 0 => .int
  | 1 => (.object "java/util/ArrayList")
  | 2 => (.object "PageRescue$Backup")
  | 3 => .int
  | _ => .int
theorem n_Bs : ∀ a, a < 5 → ∀ b, b < 5 → a ≠ b → (F_Bs a).2.1 ≠ (F_Bs b).2.1 := by decide +kernel
theorem t_Bs_ok : ∀ k, k < 5 → parseFieldDescriptor (F_Bs k).2.2.1 = some (t_Bs k) := by decide +kernel
def F_Md : u_T := fun k => match k with
  | 0 => ("PageRescueModel", "size", "I", true)
  | 1 => ("PageRescueModel", "keep", "I", true)
  | 2 => ("PageRescueModel", "key", "[I", true)
  | 3 => ("PageRescueModel", "value", "[I", true)
  | 4 => ("PageRescueModel", "has", "[Z", true)
  | 5 => ("PageRescueModel", "records", "I", false)
  | 6 => ("PageRescueModel", "open", "Z", false)
  | 7 => ("PageRescueModel", "mine", "[I", true)
  | 8 => ("PageRescueModel", "changes", "I", false)
  | 9 => ("PageRescueModel", "archived", "I", false)
  | 10 => ("PageRescueModel", "purged", "I", false)
  | 11 => ("PageRescueModel", "image", "[I", true)
  | 12 => ("PageRescueModel", "readable", "[Z", true)
  | 13 => ("PageRescueModel", "kept", "[Z", true)
  | 14 => ("PageRescueModel", "full", "[Z", true)
  | 15 => ("PageRescueModel", "start", "[I", true)
  | 16 => ("PageRescueModel", "end", "[I", true)
  | 17 => ("PageRescueModel", "copy", "[I", true)
  | 18 => ("PageRescueModel", "backups", "I", false)
  | 19 => ("PageRescueModel", "left", "I", false)
  | _ => ("PageRescueModel", "scratch", "I", false)
def t_Md : Nat → FieldType := fun k => match k with
  | 0 => .int
  | 1 => .int
  | 2 => (.array .int)
  | 3 => (.array .int)
  | 4 => (.array .boolean)
  | 5 => .int
  | 6 => .boolean
  | 7 => (.array .int)
  | 8 => .int
  | 9 => .int
  | 10 => .int
  | 11 => (.array .int)
  | 12 => (.array .boolean)
  | 13 => (.array .boolean)
  | 14 => (.array .boolean)
  | 15 => (.array .int)
  | 16 => (.array .int)
  | 17 => (.array .int)
  | 18 => .int
  | 19 => .int
  | _ => .int
theorem n_Md : ∀ a, a < 21 → ∀ b, b < 21 → a ≠ b → (F_Md a).2.1 ≠ (F_Md b).2.1 := by decide +kernel
theorem t_Md_ok : ∀ k, k < 21 → parseFieldDescriptor (F_Md k).2.2.1 = some (t_Md k) := by decide +kernel
def F_Al : u_T := fun k => match k with
  | 0 => ("java/util/ArrayList", "elementData", "[Ljava/lang/Object;", false)
  | 1 => ("java/util/ArrayList", "size", "I", false)
  | _ => ("java/util/AbstractList", "modCount", "I", false)
def t_Al : Nat → FieldType := fun k => match k with
  | 0 => (.array (.object "java/lang/Object"))
  | 1 => .int
  | _ => .int
theorem n_Al : ∀ a, a < 3 → ∀ b, b < 3 → a ≠ b → (F_Al a).2.1 ≠ (F_Al b).2.1 := by decide +kernel
theorem t_Al_ok : ∀ k, k < 3 → parseFieldDescriptor (F_Al k).2.2.1 = some (t_Al k) := by decide +kernel
abbrev vwCl : List vw_C := [(R_Pr, F_Pr, 7), (R_Lg, F_Lg, 9), (R_Tx, F_Tx, 4), (R_Dk, F_Dk, 2), (R_Bk, F_Bk, 6), (R_Bs, F_Bs, 5), (R_Md, F_Md, 21), (R_Al, F_Al, 3)]
def zws : List Cond := lw_tbl.filter goodWord
theorem zws_t (i : Nat) {w : Cond} (h : tables_1[i]? = some w) (hg : goodWord w = true) : w ∈ zws := List.mem_filter.mpr ⟨List.mem_append_right _ (List.mem_of_getElem? h), hg⟩
theorem zws_p (i : Nat) {w : Cond} (h : (k2_sels lw_privs)[i]? = some w) (hg : goodWord w = true) : w ∈ zws := List.mem_filter.mpr ⟨List.mem_append_left _ (List.mem_of_getElem? h), hg⟩
theorem zGood : GoodIn zws zws := fun w h => ⟨h, good_of_word (List.mem_filter.mp h).2⟩
theorem zgI {y : MethodName} {b : ByteArray} {n : Nat} {r : Option FieldType} (h : Cond.code y b n r ∈ zws) : GoodIn zws (Cond.code y b n r :: zws) := fun w hw => (List.mem_cons.mp hw).elim (fun e => e ▸ zGood _ h) (fun h2 => zGood w h2)
theorem zgL {l : List Cond} {ws : List Cond} (hl : ∀ w ∈ l, w ∈ zws) (h : GoodIn zws ws) : GoodIn zws (l ++ ws) := fun w hw => (List.mem_append.mp hw).elim (fun h1 => zGood w (hl w h1)) (h w)
theorem zgV {own C : String} {idx : Nat} {y : MethodName} {b : ByteArray} {n : Nat} {r : Option FieldType} (h1 : Cond.methodLink own idx y ∈ zws) (h2 : Cond.instanceMethod y ∈ zws) (h3 : Cond.selects C y y ∈ zws) (h4 : Cond.initialized C ∈ zws) (h : Cond.code y b n r ∈ zws) : GoodIn zws (wsV own idx C y (Cond.code y b n r :: zws)) := by
  refine zgL (fun w hw => ?_) (zgI h)
  simp only [List.mem_cons, List.not_mem_nil, or_false] at hw
  rcases hw with rfl | rfl | rfl | rfl <;> assumption
theorem zgS {own : String} {idx : Nat} {y : MethodName} {b : ByteArray} {n : Nat} {r : Option FieldType} (h1 : Cond.methodLink own idx y ∈ zws) (h2 : Cond.static y ∈ zws) (h4 : Cond.initialized y.cls ∈ zws) (h : Cond.code y b n r ∈ zws) : GoodIn zws (va_wsS own idx y (Cond.code y b n r :: zws)) := by
  refine zgL (fun w hw => ?_) (zgI h)
  simp only [List.mem_cons, List.not_mem_nil, or_false] at hw
  rcases hw with rfl | rfl | rfl <;> assumption
abbrev b_Pr_init : ByteArray := prog_1_method_1_code
def y_Pr_init : MethodName := ⟨R_Pr, "<init>", "(II)V"⟩
def w_Pr_init : List Cond := .code y_Pr_init b_Pr_init 3 none :: zws
abbrev b_Oj_init : ByteArray := object_method_1_code
def y_Oj_init : MethodName := ⟨R_Oj, "<init>", "()V"⟩
def w_Oj_init : List Cond := .code y_Oj_init b_Oj_init 1 none :: zws
abbrev b_Tx_init : ByteArray := prog_6_method_1_code
def y_Tx_init : MethodName := ⟨R_Tx, "<init>", "()V"⟩
def w_Tx_init : List Cond := .code y_Tx_init b_Tx_init 1 none :: zws
abbrev b_Dk_init : ByteArray := prog_4_method_1_code
def y_Dk_init : MethodName := ⟨R_Dk, "<init>", "()V"⟩
def w_Dk_init : List Cond := .code y_Dk_init b_Dk_init 1 none :: zws
abbrev b_Lg_init : ByteArray := prog_5_method_1_code
def y_Lg_init : MethodName := ⟨R_Lg, "<init>", "(I)V"⟩
def w_Lg_init : List Cond := .code y_Lg_init b_Lg_init 2 none :: zws
abbrev b_Ar_fill_2J : ByteArray := prog_17_method_101_code
def y_Ar_fill_2J : MethodName := ⟨R_Ar, "fill", "([JJ)V"⟩
def w_Ar_fill_2J : List Cond := .code y_Ar_fill_2J b_Ar_fill_2J 5 none :: zws
abbrev b_Bs_init : ByteArray := prog_3_method_1_code
def y_Bs_init : MethodName := ⟨R_Bs, "<init>", "(I)V"⟩
def w_Bs_init : List Cond := .code y_Bs_init b_Bs_init 2 none :: zws
abbrev b_Al_init : ByteArray := prog_16_method_2_code
def y_Al_init : MethodName := ⟨R_Al, "<init>", "()V"⟩
def w_Al_init : List Cond := .code y_Al_init b_Al_init 1 none :: zws
abbrev b_Ab_init : ByteArray := prog_15_method_1_code
def y_Ab_init : MethodName := ⟨R_Ab, "<init>", "()V"⟩
def w_Ab_init : List Cond := .code y_Ab_init b_Ab_init 1 none :: zws
abbrev b_Ac_init : ByteArray := prog_14_method_1_code
def y_Ac_init : MethodName := ⟨R_Ac, "<init>", "()V"⟩
def w_Ac_init : List Cond := .code y_Ac_init b_Ac_init 1 none :: zws
abbrev b_Pr_begin : ByteArray := prog_1_method_2_code
def y_Pr_begin : MethodName := ⟨R_Pr, "begin", "()I"⟩
def w_Pr_begin : List Cond := .code y_Pr_begin b_Pr_begin 1 (some .int) :: zws
abbrev b_Tx_isOpen : ByteArray := prog_6_method_2_code
def y_Tx_isOpen : MethodName := ⟨R_Tx, "isOpen", "()Z"⟩
def w_Tx_isOpen : List Cond := .code y_Tx_isOpen b_Tx_isOpen 1 (some .boolean) :: zws
abbrev b_Tx_open : ByteArray := prog_6_method_5_code
def y_Tx_open : MethodName := ⟨R_Tx, "open", "()V"⟩
def w_Tx_open : List Cond := .code y_Tx_open b_Tx_open 1 none :: zws
abbrev b_Pr_put : ByteArray := prog_1_method_3_code
def y_Pr_put : MethodName := ⟨R_Pr, "put", "(IIZ)I"⟩
def w_Pr_put : List Cond := .code y_Pr_put b_Pr_put 5 (some .int) :: zws
abbrev b_Pr_isKey : ByteArray := prog_1_method_19_code
def y_Pr_isKey : MethodName := ⟨R_Pr, "isKey", "(I)Z"⟩
def w_Pr_isKey : List Cond := .code y_Pr_isKey b_Pr_isKey 1 (some .boolean) :: zws
abbrev b_Tx_takesAChange : ByteArray := prog_6_method_4_code
def y_Tx_takesAChange : MethodName := ⟨R_Tx, "takesAChange", "()Z"⟩
def w_Tx_takesAChange : List Cond := .code y_Tx_takesAChange b_Tx_takesAChange 1 (some .boolean) :: zws
abbrev b_Tx_changes : ByteArray := prog_6_method_3_code
def y_Tx_changes : MethodName := ⟨R_Tx, "changes", "()I"⟩
def w_Tx_changes : List Cond := .code y_Tx_changes b_Tx_changes 1 (some .int) :: zws
abbrev b_Lg_left : ByteArray := prog_5_method_8_code
def y_Lg_left : MethodName := ⟨R_Lg, "left", "()I"⟩
def w_Lg_left : List Cond := .code y_Lg_left b_Lg_left 1 (some .int) :: zws
abbrev b_Lg_contentOf : ByteArray := prog_5_method_6_code
def y_Lg_contentOf : MethodName := ⟨R_Lg, "contentOf", "(I)J"⟩
def w_Lg_contentOf : List Cond := .code y_Lg_contentOf b_Lg_contentOf 2 (some .long) :: zws
abbrev b_Tx_remember : ByteArray := prog_6_method_7_code
def y_Tx_remember : MethodName := ⟨R_Tx, "remember", "(IJ)V"⟩
def w_Tx_remember : List Cond := .code y_Tx_remember b_Tx_remember 4 none :: zws
abbrev b_Lg_addChange : ByteArray := prog_5_method_10_code
def y_Lg_addChange : MethodName := ⟨R_Lg, "addChange", "(IJ)I"⟩
def w_Lg_addChange : List Cond := .code y_Lg_addChange b_Lg_addChange 4 (some .int) :: zws
abbrev b_Lg_addRecord : ByteArray := prog_5_method_13_code
def y_Lg_addRecord : MethodName := ⟨R_Lg, "addRecord", "(IJ)V"⟩
def w_Lg_addRecord : List Cond := .code y_Lg_addRecord b_Lg_addRecord 4 none :: zws
abbrev b_Pr_commit : ByteArray := prog_1_method_4_code
def y_Pr_commit : MethodName := ⟨R_Pr, "commit", "()I"⟩
def w_Pr_commit : List Cond := .code y_Pr_commit b_Pr_commit 1 (some .int) :: zws
abbrev b_Tx_close : ByteArray := prog_6_method_6_code
def y_Tx_close : MethodName := ⟨R_Tx, "close", "()V"⟩
def w_Tx_close : List Cond := .code y_Tx_close b_Tx_close 1 none :: zws
abbrev b_Lg_addCommit : ByteArray := prog_5_method_11_code
def y_Lg_addCommit : MethodName := ⟨R_Lg, "addCommit", "()I"⟩
def w_Lg_addCommit : List Cond := .code y_Lg_addCommit b_Lg_addCommit 1 (some .int) :: zws
abbrev b_Pr_abort : ByteArray := prog_1_method_5_code
def y_Pr_abort : MethodName := ⟨R_Pr, "abort", "()I"⟩
def w_Pr_abort : List Cond := .code y_Pr_abort b_Pr_abort 2 (some .int) :: zws
abbrev b_Tx_undoIn : ByteArray := prog_6_method_8_code
def y_Tx_undoIn : MethodName := ⟨R_Tx, "undoIn", "(LPageRescue$Log;)V"⟩
def w_Tx_undoIn : List Cond := .code y_Tx_undoIn b_Tx_undoIn 3 none :: zws
abbrev b_Lg_addEnd : ByteArray := prog_5_method_12_code
def y_Lg_addEnd : MethodName := ⟨R_Lg, "addEnd", "()V"⟩
def w_Lg_addEnd : List Cond := .code y_Lg_addEnd b_Lg_addEnd 1 none :: zws
abbrev b_Pr_get : ByteArray := prog_1_method_6_code
def y_Pr_get : MethodName := ⟨R_Pr, "get", "(I)J"⟩
def w_Pr_get : List Cond := .code y_Pr_get b_Pr_get 2 (some .long) :: zws
abbrev b_Pr_write : ByteArray := prog_1_method_7_code
def y_Pr_write : MethodName := ⟨R_Pr, "write", "(I)I"⟩
def w_Pr_write : List Cond := .code y_Pr_write b_Pr_write 3 (some .int) :: zws
abbrev b_Pr_isPage : ByteArray := prog_1_method_20_code
def y_Pr_isPage : MethodName := ⟨R_Pr, "isPage", "(I)Z"⟩
def w_Pr_isPage : List Cond := .code y_Pr_isPage b_Pr_isPage 1 (some .boolean) :: zws
abbrev b_Lg_numberOfPage : ByteArray := prog_5_method_7_code
def y_Lg_numberOfPage : MethodName := ⟨R_Lg, "numberOfPage", "(I)I"⟩
def w_Lg_numberOfPage : List Cond := .code y_Lg_numberOfPage b_Lg_numberOfPage 2 (some .int) :: zws
abbrev b_Dk_store : ByteArray := prog_4_method_2_code
def y_Dk_store : MethodName := ⟨R_Dk, "store", "(II)V"⟩
def w_Dk_store : List Cond := .code y_Dk_store b_Dk_store 3 none :: zws
abbrev b_Pr_archive : ByteArray := prog_1_method_8_code
def y_Pr_archive : MethodName := ⟨R_Pr, "archive", "()I"⟩
def w_Pr_archive : List Cond := .code y_Pr_archive b_Pr_archive 1 (some .int) :: zws
abbrev b_Lg_archiveOldest : ByteArray := prog_5_method_14_code
def y_Lg_archiveOldest : MethodName := ⟨R_Lg, "archiveOldest", "()I"⟩
def w_Lg_archiveOldest : List Cond := .code y_Lg_archiveOldest b_Lg_archiveOldest 1 (some .int) :: zws
abbrev b_Pr_backup : ByteArray := prog_1_method_9_code
def y_Pr_backup : MethodName := ⟨R_Pr, "backup", "(Z)I"⟩
def w_Pr_backup : List Cond := .code y_Pr_backup b_Pr_backup 2 (some .int) :: zws
abbrev b_Lg_latest : ByteArray := prog_5_method_2_code
def y_Lg_latest : MethodName := ⟨R_Lg, "latest", "()I"⟩
def w_Lg_latest : List Cond := .code y_Lg_latest b_Lg_latest 1 (some .int) :: zws
abbrev b_Bs_start : ByteArray := prog_3_method_6_code
def y_Bs_start : MethodName := ⟨R_Bs, "start", "(ZI)I"⟩
def w_Bs_start : List Cond := .code y_Bs_start b_Bs_start 3 (some .int) :: zws
abbrev b_Bs_howMany : ByteArray := prog_3_method_2_code
def y_Bs_howMany : MethodName := ⟨R_Bs, "howMany", "()I"⟩
def w_Bs_howMany : List Cond := .code y_Bs_howMany b_Bs_howMany 1 (some .int) :: zws
abbrev b_Al_size : ByteArray := prog_16_method_8_code
def y_Al_size : MethodName := ⟨R_Al, "size", "()I"⟩
def w_Al_size : List Cond := .code y_Al_size b_Al_size 1 (some .int) :: zws
abbrev b_Bk_init : ByteArray := prog_2_method_1_code
def y_Bk_init : MethodName := ⟨R_Bk, "<init>", "(ZI)V"⟩
def w_Bk_init : List Cond := .code y_Bk_init b_Bk_init 3 none :: zws
abbrev b_Ar_fill_2I : ByteArray := prog_17_method_103_code
def y_Ar_fill_2I : MethodName := ⟨R_Ar, "fill", "([II)V"⟩
def w_Ar_fill_2I : List Cond := .code y_Ar_fill_2I b_Ar_fill_2I 4 none :: zws
abbrev b_Pr_step : ByteArray := prog_1_method_10_code
def y_Pr_step : MethodName := ⟨R_Pr, "step", "(I)I"⟩
def w_Pr_step : List Cond := .code y_Pr_step b_Pr_step 2 (some .int) :: zws
abbrev b_Bs_visit : ByteArray := prog_3_method_8_code
def y_Bs_visit : MethodName := ⟨R_Bs, "visit", "(ILPageRescue$Log;)I"⟩
def w_Bs_visit : List Cond := .code y_Bs_visit b_Bs_visit 6 (some .int) :: zws
abbrev b_Bs_startOfLatest : ByteArray := prog_3_method_9_code
def y_Bs_startOfLatest : MethodName := ⟨R_Bs, "startOfLatest", "()I"⟩
def w_Bs_startOfLatest : List Cond := .code y_Bs_startOfLatest b_Bs_startOfLatest 1 (some .int) :: zws
abbrev b_Al_isEmpty : ByteArray := prog_16_method_9_code
def y_Al_isEmpty : MethodName := ⟨R_Al, "isEmpty", "()Z"⟩
def w_Al_isEmpty : List Cond := .code y_Al_isEmpty b_Al_isEmpty 1 (some .boolean) :: zws
abbrev b_Bs_numbered : ByteArray := prog_3_method_3_code
def y_Bs_numbered : MethodName := ⟨R_Bs, "numbered", "(I)LPageRescue$Backup;"⟩
def w_Bs_numbered : List Cond := .code y_Bs_numbered b_Bs_numbered 2 (some (.object "PageRescue$Backup")) :: zws
abbrev b_Al_get : ByteArray := prog_16_method_20_code
def y_Al_get : MethodName := ⟨R_Al, "get", "(I)Ljava/lang/Object;"⟩
def w_Al_get : List Cond := .code y_Al_get b_Al_get 2 (some (.object "java/lang/Object")) :: zws
abbrev b_Ob_checkIndex : ByteArray := prog_20_method_17_code
def y_Ob_checkIndex : MethodName := ⟨R_Ob, "checkIndex", "(II)I"⟩
def w_Ob_checkIndex : List Cond := .code y_Ob_checkIndex b_Ob_checkIndex 2 (some .int) :: zws
abbrev b_Pq_checkIndex : ByteArray := prog_24_method_11_code
def y_Pq_checkIndex : MethodName := ⟨R_Pq, "checkIndex", "(IILjava/util/function/BiFunction;)I"⟩
def w_Pq_checkIndex : List Cond := .code y_Pq_checkIndex b_Pq_checkIndex 3 (some .int) :: zws
abbrev b_Al_elementData : ByteArray := prog_16_method_18_code
def y_Al_elementData : MethodName := ⟨R_Al, "elementData", "(I)Ljava/lang/Object;"⟩
def w_Al_elementData : List Cond := .code y_Al_elementData b_Al_elementData 2 (some (.object "java/lang/Object")) :: zws
abbrev b_Bk_takeImage : ByteArray := prog_2_method_2_code
def y_Bk_takeImage : MethodName := ⟨R_Bk, "takeImage", "(II)V"⟩
def w_Bk_takeImage : List Cond := .code y_Bk_takeImage b_Bk_takeImage 3 none :: zws
abbrev b_Bs_finish : ByteArray := prog_3_method_10_code
def y_Bs_finish : MethodName := ⟨R_Bs, "finish", "(LPageRescue$Backup;LPageRescue$Log;)V"⟩
def w_Bs_finish : List Cond := .code y_Bs_finish b_Bs_finish 3 none :: zws
abbrev b_Al_add_1 : ByteArray := prog_16_method_25_code
def y_Al_add_1 : MethodName := ⟨R_Al, "add", "(Ljava/lang/Object;)Z"⟩
def w_Al_add_1 : List Cond := .code y_Al_add_1 b_Al_add_1 2 (some .boolean) :: zws
abbrev b_Al_add_3 : ByteArray := prog_16_method_24_code
def y_Al_add_3 : MethodName := ⟨R_Al, "add", "(Ljava/lang/Object;[Ljava/lang/Object;I)V"⟩
def w_Al_add_3 : List Cond := .code y_Al_add_3 b_Al_add_3 4 none :: zws
abbrev b_Al_grow_0 : ByteArray := prog_16_method_7_code
def y_Al_grow_0 : MethodName := ⟨R_Al, "grow", "()[Ljava/lang/Object;"⟩
def w_Al_grow_0 : List Cond := .code y_Al_grow_0 b_Al_grow_0 1 (some (.array (.object "java/lang/Object"))) :: zws
abbrev b_Al_grow_1 : ByteArray := prog_16_method_6_code
def y_Al_grow_1 : MethodName := ⟨R_Al, "grow", "(I)[Ljava/lang/Object;"⟩
def w_Al_grow_1 : List Cond := .code y_Al_grow_1 b_Al_grow_1 4 (some (.array (.object "java/lang/Object"))) :: zws
abbrev b_As_newLength : ByteArray := prog_23_method_27_code
def y_As_newLength : MethodName := ⟨R_As, "newLength", "(III)I"⟩
def w_As_newLength : List Cond := .code y_As_newLength b_As_newLength 4 (some .int) :: zws
abbrev b_As_hugeLength : ByteArray := prog_23_method_28_code
def y_As_hugeLength : MethodName := ⟨R_As, "hugeLength", "(II)I"⟩
def w_As_hugeLength : List Cond := .code y_As_hugeLength b_As_hugeLength 3 (some .int) :: zws
abbrev b_Ar_copyOf_2 : ByteArray := prog_17_method_119_code
def y_Ar_copyOf_2 : MethodName := ⟨R_Ar, "copyOf", "([Ljava/lang/Object;I)[Ljava/lang/Object;"⟩
def w_Ar_copyOf_2 : List Cond := .code y_Ar_copyOf_2 b_Ar_copyOf_2 2 (some (.array (.object "java/lang/Object"))) :: zws
abbrev b_Ar_copyOf_3 : ByteArray := prog_17_method_120_code
def y_Ar_copyOf_3 : MethodName := ⟨R_Ar, "copyOf", "([Ljava/lang/Object;ILjava/lang/Class;)[Ljava/lang/Object;"⟩
def w_Ar_copyOf_3 : List Cond := .code y_Ar_copyOf_3 b_Ar_copyOf_3 4 (some (.array (.object "java/lang/Object"))) :: zws
abbrev b_Bs_dropOldest : ByteArray := prog_3_method_11_code
def y_Bs_dropOldest : MethodName := ⟨R_Bs, "dropOldest", "()V"⟩
def w_Bs_dropOldest : List Cond := .code y_Bs_dropOldest b_Bs_dropOldest 1 none :: zws
abbrev b_Lg_purgeUpTo : ByteArray := prog_5_method_15_code
def y_Lg_purgeUpTo : MethodName := ⟨R_Lg, "purgeUpTo", "(I)V"⟩
def w_Lg_purgeUpTo : List Cond := .code y_Lg_purgeUpTo b_Lg_purgeUpTo 2 none :: zws
abbrev b_Pr_crash : ByteArray := prog_1_method_11_code
def y_Pr_crash : MethodName := ⟨R_Pr, "crash", "(I)I"⟩
def w_Pr_crash : List Cond := .code y_Pr_crash b_Pr_crash 2 (some .int) :: zws
abbrev b_Dk_tear : ByteArray := prog_4_method_3_code
def y_Dk_tear : MethodName := ⟨R_Dk, "tear", "(I)V"⟩
def w_Dk_tear : List Cond := .code y_Dk_tear b_Dk_tear 2 none :: zws
abbrev b_Pr_recover : ByteArray := prog_1_method_18_code
def y_Pr_recover : MethodName := ⟨R_Pr, "recover", "()I"⟩
def w_Pr_recover : List Cond := .code y_Pr_recover b_Pr_recover 2 (some .int) :: zws
abbrev b_Bs_giveUp : ByteArray := prog_3_method_7_code
def y_Bs_giveUp : MethodName := ⟨R_Bs, "giveUp", "()V"⟩
def w_Bs_giveUp : List Cond := .code y_Bs_giveUp b_Bs_giveUp 1 none :: zws
abbrev b_Dk_bestNumberOf : ByteArray := prog_4_method_6_code
def y_Dk_bestNumberOf : MethodName := ⟨R_Dk, "bestNumberOf", "(I)I"⟩
def w_Dk_bestNumberOf : List Cond := .code y_Dk_bestNumberOf b_Dk_bestNumberOf 2 (some .int) :: zws
abbrev b_Bs_bestNumberOf : ByteArray := prog_3_method_13_code
def y_Bs_bestNumberOf : MethodName := ⟨R_Bs, "bestNumberOf", "(I)I"⟩
def w_Bs_bestNumberOf : List Cond := .code y_Bs_bestNumberOf b_Bs_bestNumberOf 4 (some .int) :: zws
abbrev b_Bk_imageNumberOf : ByteArray := prog_2_method_4_code
def y_Bk_imageNumberOf : MethodName := ⟨R_Bk, "imageNumberOf", "(I)I"⟩
def w_Bk_imageNumberOf : List Cond := .code y_Bk_imageNumberOf b_Bk_imageNumberOf 2 (some .int) :: zws
abbrev b_Lg_changesAbove : ByteArray := prog_5_method_17_code
def y_Lg_changesAbove : MethodName := ⟨R_Lg, "changesAbove", "([II)I"⟩
def w_Lg_changesAbove : List Cond := .code y_Lg_changesAbove b_Lg_changesAbove 6 (some .int) :: zws
abbrev b_Pr_lose : ByteArray := prog_1_method_12_code
def y_Pr_lose : MethodName := ⟨R_Pr, "lose", "()I"⟩
def w_Pr_lose : List Cond := .code y_Pr_lose b_Pr_lose 2 (some .int) :: zws
abbrev b_Pr_restore : ByteArray := prog_1_method_13_code
def y_Pr_restore : MethodName := ⟨R_Pr, "restore", "(I)I"⟩
def w_Pr_restore : List Cond := .code y_Pr_restore b_Pr_restore 5 (some .int) :: zws
abbrev b_Lg_commits : ByteArray := prog_5_method_3_code
def y_Lg_commits : MethodName := ⟨R_Lg, "commits", "()I"⟩
def w_Lg_commits : List Cond := .code y_Lg_commits b_Lg_commits 1 (some .int) :: zws
abbrev b_Lg_recordOfCommit : ByteArray := prog_5_method_16_code
def y_Lg_recordOfCommit : MethodName := ⟨R_Lg, "recordOfCommit", "(I)I"⟩
def w_Lg_recordOfCommit : List Cond := .code y_Lg_recordOfCommit b_Lg_recordOfCommit 4 (some .int) :: zws
abbrev b_Bs_latestEndedBefore : ByteArray := prog_3_method_14_code
def y_Bs_latestEndedBefore : MethodName := ⟨R_Bs, "latestEndedBefore", "(I)I"⟩
def w_Bs_latestEndedBefore : List Cond := .code y_Bs_latestEndedBefore b_Bs_latestEndedBefore 3 (some .int) :: zws
abbrev b_Lg_purged : ByteArray := prog_5_method_5_code
def y_Lg_purged : MethodName := ⟨R_Lg, "purged", "()I"⟩
def w_Lg_purged : List Cond := .code y_Lg_purged b_Lg_purged 1 (some .int) :: zws
abbrev b_Bs_imageInChain : ByteArray := prog_3_method_15_code
def y_Bs_imageInChain : MethodName := ⟨R_Bs, "imageInChain", "(II)I"⟩
def w_Bs_imageInChain : List Cond := .code y_Bs_imageInChain b_Bs_imageInChain 4 (some .int) :: zws
abbrev b_Bk_hasImageOf : ByteArray := prog_2_method_3_code
def y_Bk_hasImageOf : MethodName := ⟨R_Bk, "hasImageOf", "(I)Z"⟩
def w_Bk_hasImageOf : List Cond := .code y_Bk_hasImageOf b_Bk_hasImageOf 2 (some .boolean) :: zws
abbrev b_Lg_tableUpTo : ByteArray := prog_5_method_18_code
def y_Lg_tableUpTo : MethodName := ⟨R_Lg, "tableUpTo", "(I[J)V"⟩
def w_Lg_tableUpTo : List Cond := .code y_Lg_tableUpTo b_Lg_tableUpTo 5 none :: zws
abbrev b_Pr_look : ByteArray := prog_1_method_14_code
def y_Pr_look : MethodName := ⟨R_Pr, "look", "(I)J"⟩
def w_Pr_look : List Cond := .code y_Pr_look b_Pr_look 2 (some .long) :: zws
abbrev b_Pr_page : ByteArray := prog_1_method_15_code
def y_Pr_page : MethodName := ⟨R_Pr, "page", "(II)I"⟩
def w_Pr_page : List Cond := .code y_Pr_page b_Pr_page 3 (some .int) :: zws
abbrev b_Dk_numberOf : ByteArray := prog_4_method_4_code
def y_Dk_numberOf : MethodName := ⟨R_Dk, "numberOf", "(I)I"⟩
def w_Dk_numberOf : List Cond := .code y_Dk_numberOf b_Dk_numberOf 2 (some .int) :: zws
abbrev b_Dk_isReadable : ByteArray := prog_4_method_5_code
def y_Dk_isReadable : MethodName := ⟨R_Dk, "isReadable", "(I)Z"⟩
def w_Dk_isReadable : List Cond := .code y_Dk_isReadable b_Dk_isReadable 2 (some .boolean) :: zws
abbrev b_Bs_keptImagesOf : ByteArray := prog_3_method_12_code
def y_Bs_keptImagesOf : MethodName := ⟨R_Bs, "keptImagesOf", "(I)I"⟩
def w_Bs_keptImagesOf : List Cond := .code y_Bs_keptImagesOf b_Bs_keptImagesOf 4 (some .int) :: zws
abbrev b_Pr_ofBackup : ByteArray := prog_1_method_16_code
def y_Pr_ofBackup : MethodName := ⟨R_Pr, "ofBackup", "(II)I"⟩
def w_Pr_ofBackup : List Cond := .code y_Pr_ofBackup b_Pr_ofBackup 4 (some .int) :: zws
abbrev b_Bs_isKept : ByteArray := prog_3_method_4_code
def y_Bs_isKept : MethodName := ⟨R_Bs, "isKept", "(I)Z"⟩
def w_Bs_isKept : List Cond := .code y_Bs_isKept b_Bs_isKept 2 (some .boolean) :: zws
abbrev b_Pr_count : ByteArray := prog_1_method_17_code
def y_Pr_count : MethodName := ⟨R_Pr, "count", "(I)I"⟩
def w_Pr_count : List Cond := .code y_Pr_count b_Pr_count 2 (some .int) :: zws
abbrev b_Lg_online : ByteArray := prog_5_method_9_code
def y_Lg_online : MethodName := ⟨R_Lg, "online", "()I"⟩
def w_Lg_online : List Cond := .code y_Lg_online b_Lg_online 2 (some .int) :: zws
abbrev b_Lg_archived : ByteArray := prog_5_method_4_code
def y_Lg_archived : MethodName := ⟨R_Lg, "archived", "()I"⟩
def w_Lg_archived : List Cond := .code y_Lg_archived b_Lg_archived 1 (some .int) :: zws
abbrev b_Bs_stillToVisit : ByteArray := prog_3_method_5_code
def y_Bs_stillToVisit : MethodName := ⟨R_Bs, "stillToVisit", "()I"⟩
def w_Bs_stillToVisit : List Cond := .code y_Bs_stillToVisit b_Bs_stillToVisit 1 (some .int) :: zws
abbrev b_Lw_cell : ByteArray := method_2_code
def y_Lw_cell : MethodName := ⟨R_Lw, "cell", "([II)I"⟩
def w_Lw_cell : List Cond := .code y_Lw_cell b_Lw_cell 2 (some .int) :: zws
abbrev b_Md_init : ByteArray := prog_8_method_1_code
def y_Md_init : MethodName := ⟨R_Md, "<init>", "(II)V"⟩
def w_Md_init : List Cond := .code y_Md_init b_Md_init 4 none :: zws
abbrev b_Md_begin : ByteArray := prog_8_method_10_code
def y_Md_begin : MethodName := ⟨R_Md, "begin", "()I"⟩
def w_Md_begin : List Cond := .code y_Md_begin b_Md_begin 1 (some .int) :: zws
abbrev b_Md_put : ByteArray := prog_8_method_11_code
def y_Md_put : MethodName := ⟨R_Md, "put", "(IIZ)I"⟩
def w_Md_put : List Cond := .code y_Md_put b_Md_put 4 (some .int) :: zws
abbrev b_Md_in : ByteArray := prog_8_method_2_code
def y_Md_in : MethodName := ⟨R_Md, "in", "(II)Z"⟩
def w_Md_in : List Cond := .code y_Md_in b_Md_in 2 (some .boolean) :: zws
abbrev b_Md_room : ByteArray := prog_8_method_5_code
def y_Md_room : MethodName := ⟨R_Md, "room", "()I"⟩
def w_Md_room : List Cond := .code y_Md_room b_Md_room 1 (some .int) :: zws
abbrev b_Md_log : ByteArray := prog_8_method_3_code
def y_Md_log : MethodName := ⟨R_Md, "log", "(IIZ)I"⟩
def w_Md_log : List Cond := .code y_Md_log b_Md_log 4 (some .int) :: zws
abbrev b_Md_commit : ByteArray := prog_8_method_13_code
def y_Md_commit : MethodName := ⟨R_Md, "commit", "()I"⟩
def w_Md_commit : List Cond := .code y_Md_commit b_Md_commit 2 (some .int) :: zws
abbrev b_Md_commits : ByteArray := prog_8_method_12_code
def y_Md_commits : MethodName := ⟨R_Md, "commits", "()I"⟩
def w_Md_commits : List Cond := .code y_Md_commits b_Md_commits 3 (some .int) :: zws
abbrev b_Md_abort : ByteArray := prog_8_method_14_code
def y_Md_abort : MethodName := ⟨R_Md, "abort", "()I"⟩
def w_Md_abort : List Cond := .code y_Md_abort b_Md_abort 2 (some .int) :: zws
abbrev b_Md_undo : ByteArray := prog_8_method_9_code
def y_Md_undo : MethodName := ⟨R_Md, "undo", "()V"⟩
def w_Md_undo : List Cond := .code y_Md_undo b_Md_undo 5 none :: zws
abbrev b_Md_after : ByteArray := prog_8_method_4_code
def y_Md_after : MethodName := ⟨R_Md, "after", "(II)J"⟩
def w_Md_after : List Cond := .code y_Md_after b_Md_after 4 (some .long) :: zws
abbrev b_Md_get : ByteArray := prog_8_method_15_code
def y_Md_get : MethodName := ⟨R_Md, "get", "(I)J"⟩
def w_Md_get : List Cond := .code y_Md_get b_Md_get 2 (some .long) :: zws
abbrev b_Md_write : ByteArray := prog_8_method_16_code
def y_Md_write : MethodName := ⟨R_Md, "write", "(I)I"⟩
def w_Md_write : List Cond := .code y_Md_write b_Md_write 2 (some .int) :: zws
abbrev b_Md_numberOf : ByteArray := prog_8_method_7_code
def y_Md_numberOf : MethodName := ⟨R_Md, "numberOf", "(I)I"⟩
def w_Md_numberOf : List Cond := .code y_Md_numberOf b_Md_numberOf 3 (some .int) :: zws
abbrev b_Md_archive : ByteArray := prog_8_method_17_code
def y_Md_archive : MethodName := ⟨R_Md, "archive", "()I"⟩
def w_Md_archive : List Cond := .code y_Md_archive b_Md_archive 1 (some .int) :: zws
abbrev b_Md_backup : ByteArray := prog_8_method_19_code
def y_Md_backup : MethodName := ⟨R_Md, "backup", "(Z)I"⟩
def w_Md_backup : List Cond := .code y_Md_backup b_Md_backup 4 (some .int) :: zws
abbrev b_Md_fulls : ByteArray := prog_8_method_18_code
def y_Md_fulls : MethodName := ⟨R_Md, "fulls", "()I"⟩
def w_Md_fulls : List Cond := .code y_Md_fulls b_Md_fulls 3 (some .int) :: zws
abbrev b_Md_step : ByteArray := prog_8_method_22_code
def y_Md_step : MethodName := ⟨R_Md, "step", "(I)I"⟩
def w_Md_step : List Cond := .code y_Md_step b_Md_step 6 (some .int) :: zws
abbrev b_Md_finish : ByteArray := prog_8_method_21_code
def y_Md_finish : MethodName := ⟨R_Md, "finish", "()V"⟩
def w_Md_finish : List Cond := .code y_Md_finish b_Md_finish 3 none :: zws
abbrev b_Md_firstFull : ByteArray := prog_8_method_20_code
def y_Md_firstFull : MethodName := ⟨R_Md, "firstFull", "(I)I"⟩
def w_Md_firstFull : List Cond := .code y_Md_firstFull b_Md_firstFull 3 (some .int) :: zws
abbrev b_Md_crash : ByteArray := prog_8_method_25_code
def y_Md_crash : MethodName := ⟨R_Md, "crash", "(I)I"⟩
def w_Md_crash : List Cond := .code y_Md_crash b_Md_crash 2 (some .int) :: zws
abbrev b_Md_recover : ByteArray := prog_8_method_24_code
def y_Md_recover : MethodName := ⟨R_Md, "recover", "()I"⟩
def w_Md_recover : List Cond := .code y_Md_recover b_Md_recover 3 (some .int) :: zws
abbrev b_Md_best : ByteArray := prog_8_method_23_code
def y_Md_best : MethodName := ⟨R_Md, "best", "(I)I"⟩
def w_Md_best : List Cond := .code y_Md_best b_Md_best 4 (some .int) :: zws
abbrev b_Md_changesOn : ByteArray := prog_8_method_8_code
def y_Md_changesOn : MethodName := ⟨R_Md, "changesOn", "(III)I"⟩
def w_Md_changesOn : List Cond := .code y_Md_changesOn b_Md_changesOn 6 (some .int) :: zws
abbrev b_Md_lose : ByteArray := prog_8_method_26_code
def y_Md_lose : MethodName := ⟨R_Md, "lose", "()I"⟩
def w_Md_lose : List Cond := .code y_Md_lose b_Md_lose 2 (some .int) :: zws
abbrev b_Md_restore : ByteArray := prog_8_method_28_code
def y_Md_restore : MethodName := ⟨R_Md, "restore", "(I)I"⟩
def w_Md_restore : List Cond := .code y_Md_restore b_Md_restore 9 (some .int) :: zws
abbrev b_Md_commitRecord : ByteArray := prog_8_method_27_code
def y_Md_commitRecord : MethodName := ⟨R_Md, "commitRecord", "(I)I"⟩
def w_Md_commitRecord : List Cond := .code y_Md_commitRecord b_Md_commitRecord 4 (some .int) :: zws
abbrev b_Md_look : ByteArray := prog_8_method_29_code
def y_Md_look : MethodName := ⟨R_Md, "look", "(I)J"⟩
def w_Md_look : List Cond := .code y_Md_look b_Md_look 2 (some .long) :: zws
abbrev b_Md_page : ByteArray := prog_8_method_30_code
def y_Md_page : MethodName := ⟨R_Md, "page", "(II)I"⟩
def w_Md_page : List Cond := .code y_Md_page b_Md_page 5 (some .int) :: zws
abbrev b_Md_ofBackup : ByteArray := prog_8_method_31_code
def y_Md_ofBackup : MethodName := ⟨R_Md, "ofBackup", "(II)I"⟩
def w_Md_ofBackup : List Cond := .code y_Md_ofBackup b_Md_ofBackup 5 (some .int) :: zws
abbrev b_Md_count : ByteArray := prog_8_method_32_code
def y_Md_count : MethodName := ⟨R_Md, "count", "(I)I"⟩
def w_Md_count : List Cond := .code y_Md_count b_Md_count 2 (some .int) :: zws
abbrev b_Md_begun : ByteArray := prog_8_method_6_code
def y_Md_begun : MethodName := ⟨R_Md, "begun", "()I"⟩
def w_Md_begun : List Cond := .code y_Md_begun b_Md_begun 1 (some .int) :: zws
end
section
/-! the tables' words, by their places -/
theorem wd_0 : (Cond.initialized "PageRescueLaw") ∈ zws := zws_t 0 (by decide +kernel) (by decide +kernel)
theorem wd_1 : (Cond.initialized "PageRescue") ∈ zws := zws_t 1 (by decide +kernel) (by decide +kernel)
theorem wd_2 : (Cond.initialized "PageRescue$Transaction") ∈ zws := zws_t 2 (by decide +kernel) (by decide +kernel)
theorem wd_3 : (Cond.initialized "PageRescue$Disk") ∈ zws := zws_t 3 (by decide +kernel) (by decide +kernel)
theorem wd_4 : (Cond.initialized "PageRescue$Log") ∈ zws := zws_t 4 (by decide +kernel) (by decide +kernel)
theorem wd_5 : (Cond.initialized "java/lang/Math") ∈ zws := zws_t 5 (by decide +kernel) (by decide +kernel)
theorem wd_6 : (Cond.initialized "java/util/Arrays") ∈ zws := zws_t 6 (by decide +kernel) (by decide +kernel)
theorem wd_7 : (Cond.initialized "PageRescue$Backups") ∈ zws := zws_t 7 (by decide +kernel) (by decide +kernel)
theorem wd_8 : (Cond.initialized "java/util/AbstractCollection") ∈ zws := zws_t 8 (by decide +kernel) (by decide +kernel)
theorem wd_9 : (Cond.initialized "java/util/AbstractList") ∈ zws := zws_t 9 (by decide +kernel) (by decide +kernel)
theorem wd_10 : (Cond.initialized "java/util/ArrayList") ∈ zws := zws_t 10 (by decide +kernel) (by decide +kernel)
theorem wd_11 : (Cond.initialized "PageRescueModel") ∈ zws := zws_t 11 (by decide +kernel) (by decide +kernel)
theorem wd_12 : (Cond.initialized "PageRescue$Backup") ∈ zws := zws_t 12 (by decide +kernel) (by decide +kernel)
theorem wd_13 : (Cond.initialized "java/util/Objects") ∈ zws := zws_t 13 (by decide +kernel) (by decide +kernel)
theorem wd_14 : (Cond.initialized "jdk/internal/util/Preconditions") ∈ zws := zws_t 14 (by decide +kernel) (by decide +kernel)
theorem wd_15 : (Cond.initialized "jdk/internal/util/ArraysSupport") ∈ zws := zws_t 15 (by decide +kernel) (by decide +kernel)
theorem wd_16 : (Cond.initialized "java/lang/System") ∈ zws := zws_t 16 (by decide +kernel) (by decide +kernel)
theorem wd_17 : (Cond.classLink "PageRescueLaw" (7 : Nat) "PageRescue") ∈ zws := zws_t 17 (by decide +kernel) (by decide +kernel)
theorem wd_18 : (Cond.instantiable "PageRescue" (7 : Nat)) ∈ zws := zws_t 18 (by decide +kernel) (by decide +kernel)
theorem wd_19 : (Cond.methodLink "PageRescueLaw" (15 : Nat) ({ cls := "PageRescue", name := "<init>", desc := "(II)V" } : MethodName)) ∈ zws := zws_t 19 (by decide +kernel) (by decide +kernel)
theorem wd_20 : (Cond.instanceMethod ({ cls := "PageRescue", name := "<init>", desc := "(II)V" } : MethodName)) ∈ zws := zws_t 20 (by decide +kernel) (by decide +kernel)
theorem wd_21 : (Cond.code ({ cls := "PageRescue", name := "<init>", desc := "(II)V" } : MethodName) prog_1_method_1_code (3 : Nat) (Option.none : Option FieldType)) ∈ zws := zws_t 21 (by decide +kernel) (by decide +kernel)
theorem wd_22 : (Cond.methodLink "PageRescue" (1 : Nat) ({ cls := "java/lang/Object", name := "<init>", desc := "()V" } : MethodName)) ∈ zws := zws_t 22 (by decide +kernel) (by decide +kernel)
theorem wd_23 : (Cond.instanceMethod ({ cls := "java/lang/Object", name := "<init>", desc := "()V" } : MethodName)) ∈ zws := zws_t 23 (by decide +kernel) (by decide +kernel)
theorem wd_24 : (Cond.code ({ cls := "java/lang/Object", name := "<init>", desc := "()V" } : MethodName) object_method_1_code (1 : Nat) (Option.none : Option FieldType)) ∈ zws := zws_t 24 (by decide +kernel) (by decide +kernel)
theorem wd_25 : (Cond.classLink "PageRescue" (7 : Nat) "PageRescue$Transaction") ∈ zws := zws_t 25 (by decide +kernel) (by decide +kernel)
theorem wd_26 : (Cond.instantiable "PageRescue$Transaction" (4 : Nat)) ∈ zws := zws_t 26 (by decide +kernel) (by decide +kernel)
theorem wd_28 : (Cond.instanceMethod ({ cls := "PageRescue$Transaction", name := "<init>", desc := "()V" } : MethodName)) ∈ zws := zws_t 28 (by decide +kernel) (by decide +kernel)
theorem wd_29 : (Cond.code ({ cls := "PageRescue$Transaction", name := "<init>", desc := "()V" } : MethodName) prog_6_method_1_code (1 : Nat) (Option.none : Option FieldType)) ∈ zws := zws_t 29 (by decide +kernel) (by decide +kernel)
theorem wd_30 : (Cond.methodLink "PageRescue$Transaction" (3 : Nat) ({ cls := "java/lang/Object", name := "<init>", desc := "()V" } : MethodName)) ∈ zws := zws_t 30 (by decide +kernel) (by decide +kernel)
theorem wd_31 : (Cond.fieldLink "PageRescue$Transaction" (9 : Nat) "PageRescue$Transaction" "keys" "[I") ∈ zws := zws_t 31 (by decide +kernel) (by decide +kernel)
theorem wd_32 : (Cond.fieldLink "PageRescue$Transaction" (15 : Nat) "PageRescue$Transaction" "replaced" "[J") ∈ zws := zws_t 32 (by decide +kernel) (by decide +kernel)
theorem wd_33 : (Cond.fieldLink "PageRescue$Transaction" (19 : Nat) "PageRescue$Transaction" "changes" "I") ∈ zws := zws_t 33 (by decide +kernel) (by decide +kernel)
theorem wd_34 : (Cond.fieldLink "PageRescue$Transaction" (23 : Nat) "PageRescue$Transaction" "isOpen" "Z") ∈ zws := zws_t 34 (by decide +kernel) (by decide +kernel)
theorem wd_44 : (Cond.arrayClass FieldType.int) ∈ zws := zws_t 44 (by decide +kernel) (by decide +kernel)
theorem wd_45 : (Cond.arrayClass FieldType.long) ∈ zws := zws_t 45 (by decide +kernel) (by decide +kernel)
theorem wd_46 : (Cond.classLink "PageRescue" (16 : Nat) "PageRescue$Disk") ∈ zws := zws_t 46 (by decide +kernel) (by decide +kernel)
theorem wd_47 : (Cond.instantiable "PageRescue$Disk" (2 : Nat)) ∈ zws := zws_t 47 (by decide +kernel) (by decide +kernel)
theorem wd_49 : (Cond.instanceMethod ({ cls := "PageRescue$Disk", name := "<init>", desc := "()V" } : MethodName)) ∈ zws := zws_t 49 (by decide +kernel) (by decide +kernel)
theorem wd_50 : (Cond.code ({ cls := "PageRescue$Disk", name := "<init>", desc := "()V" } : MethodName) prog_4_method_1_code (1 : Nat) (Option.none : Option FieldType)) ∈ zws := zws_t 50 (by decide +kernel) (by decide +kernel)
theorem wd_51 : (Cond.methodLink "PageRescue$Disk" (3 : Nat) ({ cls := "java/lang/Object", name := "<init>", desc := "()V" } : MethodName)) ∈ zws := zws_t 51 (by decide +kernel) (by decide +kernel)
theorem wd_52 : (Cond.fieldLink "PageRescue$Disk" (9 : Nat) "PageRescue$Disk" "numbers" "[I") ∈ zws := zws_t 52 (by decide +kernel) (by decide +kernel)
theorem wd_53 : (Cond.fieldLink "PageRescue$Disk" (15 : Nat) "PageRescue$Disk" "torn" "[Z") ∈ zws := zws_t 53 (by decide +kernel) (by decide +kernel)
theorem wd_59 : (Cond.arrayClass FieldType.boolean) ∈ zws := zws_t 59 (by decide +kernel) (by decide +kernel)
theorem wd_60 : (Cond.classLink "PageRescue" (35 : Nat) "PageRescue$Log") ∈ zws := zws_t 60 (by decide +kernel) (by decide +kernel)
theorem wd_61 : (Cond.instantiable "PageRescue$Log" (9 : Nat)) ∈ zws := zws_t 61 (by decide +kernel) (by decide +kernel)
theorem wd_62 : (Cond.methodLink "PageRescue" (37 : Nat) ({ cls := "java/lang/Math", name := "min", desc := "(II)I" } : MethodName)) ∈ zws := zws_t 62 (by decide +kernel) (by decide +kernel)
theorem wd_63 : (Cond.static ({ cls := "java/lang/Math", name := "min", desc := "(II)I" } : MethodName)) ∈ zws := zws_t 63 (by decide +kernel) (by decide +kernel)
theorem wd_64 : (Cond.code ({ cls := "java/lang/Math", name := "min", desc := "(II)I" } : MethodName) prog_12_method_69_code (2 : Nat) (Option.some FieldType.int)) ∈ zws := zws_t 64 (by decide +kernel) (by decide +kernel)
theorem wd_65 : (Cond.methodLink "PageRescue" (43 : Nat) ({ cls := "java/lang/Math", name := "max", desc := "(II)I" } : MethodName)) ∈ zws := zws_t 65 (by decide +kernel) (by decide +kernel)
theorem wd_66 : (Cond.static ({ cls := "java/lang/Math", name := "max", desc := "(II)I" } : MethodName)) ∈ zws := zws_t 66 (by decide +kernel) (by decide +kernel)
theorem wd_67 : (Cond.code ({ cls := "java/lang/Math", name := "max", desc := "(II)I" } : MethodName) prog_12_method_65_code (2 : Nat) (Option.some FieldType.int)) ∈ zws := zws_t 67 (by decide +kernel) (by decide +kernel)
theorem wd_68 : (Cond.methodLink "PageRescue" (46 : Nat) ({ cls := "PageRescue$Log", name := "<init>", desc := "(I)V" } : MethodName)) ∈ zws := zws_t 68 (by decide +kernel) (by decide +kernel)
theorem wd_69 : (Cond.instanceMethod ({ cls := "PageRescue$Log", name := "<init>", desc := "(I)V" } : MethodName)) ∈ zws := zws_t 69 (by decide +kernel) (by decide +kernel)
theorem wd_70 : (Cond.code ({ cls := "PageRescue$Log", name := "<init>", desc := "(I)V" } : MethodName) prog_5_method_1_code (2 : Nat) (Option.none : Option FieldType)) ∈ zws := zws_t 70 (by decide +kernel) (by decide +kernel)
theorem wd_71 : (Cond.methodLink "PageRescue$Log" (3 : Nat) ({ cls := "java/lang/Object", name := "<init>", desc := "()V" } : MethodName)) ∈ zws := zws_t 71 (by decide +kernel) (by decide +kernel)
theorem wd_72 : (Cond.constantLong "PageRescue$Log" (41 : Nat) (1000000000000 : Int64)) ∈ zws := zws_t 72 (by decide +kernel) (by decide +kernel)
theorem wd_73 : (Cond.methodLink "PageRescue$Log" (43 : Nat) ({ cls := "java/util/Arrays", name := "fill", desc := "([JJ)V" } : MethodName)) ∈ zws := zws_t 73 (by decide +kernel) (by decide +kernel)
theorem wd_74 : (Cond.static ({ cls := "java/util/Arrays", name := "fill", desc := "([JJ)V" } : MethodName)) ∈ zws := zws_t 74 (by decide +kernel) (by decide +kernel)
theorem wd_75 : (Cond.code ({ cls := "java/util/Arrays", name := "fill", desc := "([JJ)V" } : MethodName) prog_17_method_101_code (5 : Nat) (Option.none : Option FieldType)) ∈ zws := zws_t 75 (by decide +kernel) (by decide +kernel)
theorem wd_76 : (Cond.fieldLink "PageRescue$Log" (38 : Nat) "PageRescue$Log" "size" "I") ∈ zws := zws_t 76 (by decide +kernel) (by decide +kernel)
theorem wd_77 : (Cond.fieldLink "PageRescue$Log" (9 : Nat) "PageRescue$Log" "keys" "[I") ∈ zws := zws_t 77 (by decide +kernel) (by decide +kernel)
theorem wd_78 : (Cond.fieldLink "PageRescue$Log" (15 : Nat) "PageRescue$Log" "contents" "[J") ∈ zws := zws_t 78 (by decide +kernel) (by decide +kernel)
theorem wd_79 : (Cond.fieldLink "PageRescue$Log" (19 : Nat) "PageRescue$Log" "table" "[J") ∈ zws := zws_t 79 (by decide +kernel) (by decide +kernel)
theorem wd_80 : (Cond.fieldLink "PageRescue$Log" (22 : Nat) "PageRescue$Log" "pageNumbers" "[I") ∈ zws := zws_t 80 (by decide +kernel) (by decide +kernel)
theorem wd_81 : (Cond.fieldLink "PageRescue$Log" (25 : Nat) "PageRescue$Log" "latest" "I") ∈ zws := zws_t 81 (by decide +kernel) (by decide +kernel)
theorem wd_82 : (Cond.fieldLink "PageRescue$Log" (29 : Nat) "PageRescue$Log" "commits" "I") ∈ zws := zws_t 82 (by decide +kernel) (by decide +kernel)
theorem wd_83 : (Cond.fieldLink "PageRescue$Log" (32 : Nat) "PageRescue$Log" "archived" "I") ∈ zws := zws_t 83 (by decide +kernel) (by decide +kernel)
theorem wd_84 : (Cond.fieldLink "PageRescue$Log" (35 : Nat) "PageRescue$Log" "purged" "I") ∈ zws := zws_t 84 (by decide +kernel) (by decide +kernel)
theorem wd_104 : (Cond.classLink "PageRescue" (53 : Nat) "PageRescue$Backups") ∈ zws := zws_t 104 (by decide +kernel) (by decide +kernel)
theorem wd_105 : (Cond.instantiable "PageRescue$Backups" (5 : Nat)) ∈ zws := zws_t 105 (by decide +kernel) (by decide +kernel)
theorem wd_106 : (Cond.methodLink "PageRescue" (55 : Nat) ({ cls := "PageRescue$Backups", name := "<init>", desc := "(I)V" } : MethodName)) ∈ zws := zws_t 106 (by decide +kernel) (by decide +kernel)
theorem wd_107 : (Cond.instanceMethod ({ cls := "PageRescue$Backups", name := "<init>", desc := "(I)V" } : MethodName)) ∈ zws := zws_t 107 (by decide +kernel) (by decide +kernel)
theorem wd_108 : (Cond.code ({ cls := "PageRescue$Backups", name := "<init>", desc := "(I)V" } : MethodName) prog_3_method_1_code (2 : Nat) (Option.none : Option FieldType)) ∈ zws := zws_t 108 (by decide +kernel) (by decide +kernel)
theorem wd_109 : (Cond.methodLink "PageRescue$Backups" (3 : Nat) ({ cls := "java/lang/Object", name := "<init>", desc := "()V" } : MethodName)) ∈ zws := zws_t 109 (by decide +kernel) (by decide +kernel)
theorem wd_110 : (Cond.classLink "PageRescue$Backups" (9 : Nat) "java/util/ArrayList") ∈ zws := zws_t 110 (by decide +kernel) (by decide +kernel)
theorem wd_111 : (Cond.instantiable "java/util/ArrayList" (3 : Nat)) ∈ zws := zws_t 111 (by decide +kernel) (by decide +kernel)
theorem wd_112 : (Cond.methodLink "PageRescue$Backups" (11 : Nat) ({ cls := "java/util/ArrayList", name := "<init>", desc := "()V" } : MethodName)) ∈ zws := zws_t 112 (by decide +kernel) (by decide +kernel)
theorem wd_113 : (Cond.instanceMethod ({ cls := "java/util/ArrayList", name := "<init>", desc := "()V" } : MethodName)) ∈ zws := zws_t 113 (by decide +kernel) (by decide +kernel)
theorem wd_114 : (Cond.code ({ cls := "java/util/ArrayList", name := "<init>", desc := "()V" } : MethodName) prog_16_method_2_code (1 : Nat) (Option.none : Option FieldType)) ∈ zws := zws_t 114 (by decide +kernel) (by decide +kernel)
theorem wd_115 : (Cond.methodLink "java/util/ArrayList" (1 : Nat) ({ cls := "java/util/AbstractList", name := "<init>", desc := "()V" } : MethodName)) ∈ zws := zws_t 115 (by decide +kernel) (by decide +kernel)
theorem wd_116 : (Cond.instanceMethod ({ cls := "java/util/AbstractList", name := "<init>", desc := "()V" } : MethodName)) ∈ zws := zws_t 116 (by decide +kernel) (by decide +kernel)
theorem wd_117 : (Cond.code ({ cls := "java/util/AbstractList", name := "<init>", desc := "()V" } : MethodName) prog_15_method_1_code (1 : Nat) (Option.none : Option FieldType)) ∈ zws := zws_t 117 (by decide +kernel) (by decide +kernel)
theorem wd_118 : (Cond.methodLink "java/util/AbstractList" (1 : Nat) ({ cls := "java/util/AbstractCollection", name := "<init>", desc := "()V" } : MethodName)) ∈ zws := zws_t 118 (by decide +kernel) (by decide +kernel)
theorem wd_119 : (Cond.instanceMethod ({ cls := "java/util/AbstractCollection", name := "<init>", desc := "()V" } : MethodName)) ∈ zws := zws_t 119 (by decide +kernel) (by decide +kernel)
theorem wd_120 : (Cond.code ({ cls := "java/util/AbstractCollection", name := "<init>", desc := "()V" } : MethodName) prog_14_method_1_code (1 : Nat) (Option.none : Option FieldType)) ∈ zws := zws_t 120 (by decide +kernel) (by decide +kernel)
theorem wd_121 : (Cond.methodLink "java/util/AbstractCollection" (1 : Nat) ({ cls := "java/lang/Object", name := "<init>", desc := "()V" } : MethodName)) ∈ zws := zws_t 121 (by decide +kernel) (by decide +kernel)
theorem wd_122 : (Cond.fieldLink "java/util/ArrayList" (39 : Nat) "java/util/ArrayList" "DEFAULTCAPACITY_EMPTY_ELEMENTDATA" "[Ljava/lang/Object;") ∈ zws := zws_t 122 (by decide +kernel) (by decide +kernel)
theorem wd_124 : (Cond.fieldLink "java/util/ArrayList" (9 : Nat) "java/util/ArrayList" "elementData" "[Ljava/lang/Object;") ∈ zws := zws_t 124 (by decide +kernel) (by decide +kernel)
theorem wd_125 : (Cond.fieldLink "java/util/ArrayList" (48 : Nat) "java/util/ArrayList" "size" "I") ∈ zws := zws_t 125 (by decide +kernel) (by decide +kernel)
theorem wd_126 : (Cond.fieldLink "java/util/AbstractList" (7 : Nat) "java/util/AbstractList" "modCount" "I") ∈ zws := zws_t 126 (by decide +kernel) (by decide +kernel)
theorem wd_127 : (Cond.fieldLink "java/util/ArrayList" (63 : Nat) "java/util/ArrayList" "modCount" "I") ∈ zws := zws_t 127 (by decide +kernel) (by decide +kernel)
theorem wd_128 : (Cond.sameField "java/util/ArrayList" "java/util/AbstractList" "modCount" "I") ∈ zws := zws_t 128 (by decide +kernel) (by decide +kernel)
theorem wd_136 : (Cond.fieldLink "PageRescue$Backups" (29 : Nat) "PageRescue$Backups" "keep" "I") ∈ zws := zws_t 136 (by decide +kernel) (by decide +kernel)
theorem wd_137 : (Cond.fieldLink "PageRescue$Backups" (12 : Nat) "PageRescue$Backups" "finished" "Ljava/util/ArrayList;") ∈ zws := zws_t 137 (by decide +kernel) (by decide +kernel)
theorem wd_138 : (Cond.fieldLink "PageRescue$Backups" (18 : Nat) "PageRescue$Backups" "running" "LPageRescue$Backup;") ∈ zws := zws_t 138 (by decide +kernel) (by decide +kernel)
theorem wd_139 : (Cond.fieldLink "PageRescue$Backups" (22 : Nat) "PageRescue$Backups" "oldestKept" "I") ∈ zws := zws_t 139 (by decide +kernel) (by decide +kernel)
theorem wd_140 : (Cond.fieldLink "PageRescue$Backups" (26 : Nat) "PageRescue$Backups" "fullKept" "I") ∈ zws := zws_t 140 (by decide +kernel) (by decide +kernel)
theorem wd_152 : (Cond.fieldLink "PageRescue" (49 : Nat) "PageRescue" "log" "LPageRescue$Log;") ∈ zws := zws_t 152 (by decide +kernel) (by decide +kernel)
theorem wd_153 : (Cond.fieldLink "PageRescue" (10 : Nat) "PageRescue" "transaction" "LPageRescue$Transaction;") ∈ zws := zws_t 153 (by decide +kernel) (by decide +kernel)
theorem wd_154 : (Cond.fieldLink "PageRescue" (19 : Nat) "PageRescue" "disk" "LPageRescue$Disk;") ∈ zws := zws_t 154 (by decide +kernel) (by decide +kernel)
theorem wd_155 : (Cond.fieldLink "PageRescue" (56 : Nat) "PageRescue" "backups" "LPageRescue$Backups;") ∈ zws := zws_t 155 (by decide +kernel) (by decide +kernel)
theorem wd_156 : (Cond.fieldLink "PageRescue" (23 : Nat) "PageRescue" "scratch" "[J") ∈ zws := zws_t 156 (by decide +kernel) (by decide +kernel)
theorem wd_157 : (Cond.fieldLink "PageRescue" (27 : Nat) "PageRescue" "scratchOpen" "Z") ∈ zws := zws_t 157 (by decide +kernel) (by decide +kernel)
theorem wd_158 : (Cond.fieldLink "PageRescue" (31 : Nat) "PageRescue" "redoFrom" "[I") ∈ zws := zws_t 158 (by decide +kernel) (by decide +kernel)
theorem wd_174 : (Cond.methodLink "PageRescueLaw" (21 : Nat) ({ cls := "PageRescue", name := "begin", desc := "()I" } : MethodName)) ∈ zws := zws_t 174 (by decide +kernel) (by decide +kernel)
theorem wd_175 : (Cond.instanceMethod ({ cls := "PageRescue", name := "begin", desc := "()I" } : MethodName)) ∈ zws := zws_t 175 (by decide +kernel) (by decide +kernel)
theorem wd_176 : (Cond.selects "PageRescue" ({ cls := "PageRescue", name := "begin", desc := "()I" } : MethodName) ({ cls := "PageRescue", name := "begin", desc := "()I" } : MethodName)) ∈ zws := zws_t 176 (by decide +kernel) (by decide +kernel)
theorem wd_177 : (Cond.code ({ cls := "PageRescue", name := "begin", desc := "()I" } : MethodName) prog_1_method_2_code (1 : Nat) (Option.some FieldType.int)) ∈ zws := zws_t 177 (by decide +kernel) (by decide +kernel)
theorem wd_178 : (Cond.methodLink "PageRescue" (60 : Nat) ({ cls := "PageRescue$Transaction", name := "isOpen", desc := "()Z" } : MethodName)) ∈ zws := zws_t 178 (by decide +kernel) (by decide +kernel)
theorem wd_179 : (Cond.instanceMethod ({ cls := "PageRescue$Transaction", name := "isOpen", desc := "()Z" } : MethodName)) ∈ zws := zws_t 179 (by decide +kernel) (by decide +kernel)
theorem wd_180 : (Cond.selects "PageRescue$Transaction" ({ cls := "PageRescue$Transaction", name := "isOpen", desc := "()Z" } : MethodName) ({ cls := "PageRescue$Transaction", name := "isOpen", desc := "()Z" } : MethodName)) ∈ zws := zws_t 180 (by decide +kernel) (by decide +kernel)
theorem wd_181 : (Cond.code ({ cls := "PageRescue$Transaction", name := "isOpen", desc := "()Z" } : MethodName) prog_6_method_2_code (1 : Nat) (Option.some FieldType.boolean)) ∈ zws := zws_t 181 (by decide +kernel) (by decide +kernel)
theorem wd_182 : (Cond.methodLink "PageRescue" (64 : Nat) ({ cls := "PageRescue$Transaction", name := "open", desc := "()V" } : MethodName)) ∈ zws := zws_t 182 (by decide +kernel) (by decide +kernel)
theorem wd_183 : (Cond.instanceMethod ({ cls := "PageRescue$Transaction", name := "open", desc := "()V" } : MethodName)) ∈ zws := zws_t 183 (by decide +kernel) (by decide +kernel)
theorem wd_184 : (Cond.selects "PageRescue$Transaction" ({ cls := "PageRescue$Transaction", name := "open", desc := "()V" } : MethodName) ({ cls := "PageRescue$Transaction", name := "open", desc := "()V" } : MethodName)) ∈ zws := zws_t 184 (by decide +kernel) (by decide +kernel)
theorem wd_185 : (Cond.code ({ cls := "PageRescue$Transaction", name := "open", desc := "()V" } : MethodName) prog_6_method_5_code (1 : Nat) (Option.none : Option FieldType)) ∈ zws := zws_t 185 (by decide +kernel) (by decide +kernel)
theorem wd_186 : (Cond.methodLink "PageRescueLaw" (26 : Nat) ({ cls := "PageRescue", name := "put", desc := "(IIZ)I" } : MethodName)) ∈ zws := zws_t 186 (by decide +kernel) (by decide +kernel)
theorem wd_187 : (Cond.instanceMethod ({ cls := "PageRescue", name := "put", desc := "(IIZ)I" } : MethodName)) ∈ zws := zws_t 187 (by decide +kernel) (by decide +kernel)
theorem wd_188 : (Cond.selects "PageRescue" ({ cls := "PageRescue", name := "put", desc := "(IIZ)I" } : MethodName) ({ cls := "PageRescue", name := "put", desc := "(IIZ)I" } : MethodName)) ∈ zws := zws_t 188 (by decide +kernel) (by decide +kernel)
theorem wd_189 : (Cond.code ({ cls := "PageRescue", name := "put", desc := "(IIZ)I" } : MethodName) prog_1_method_3_code (5 : Nat) (Option.some FieldType.int)) ∈ zws := zws_t 189 (by decide +kernel) (by decide +kernel)
theorem wd_190 : (Cond.methodLink "PageRescue" (67 : Nat) ({ cls := "PageRescue", name := "isKey", desc := "(I)Z" } : MethodName)) ∈ zws := zws_t 190 (by decide +kernel) (by decide +kernel)
theorem wd_191 : (Cond.static ({ cls := "PageRescue", name := "isKey", desc := "(I)Z" } : MethodName)) ∈ zws := zws_t 191 (by decide +kernel) (by decide +kernel)
theorem wd_192 : (Cond.code ({ cls := "PageRescue", name := "isKey", desc := "(I)Z" } : MethodName) prog_1_method_19_code (1 : Nat) (Option.some FieldType.boolean)) ∈ zws := zws_t 192 (by decide +kernel) (by decide +kernel)
theorem wd_193 : (Cond.methodLink "PageRescue" (71 : Nat) ({ cls := "PageRescue$Transaction", name := "takesAChange", desc := "()Z" } : MethodName)) ∈ zws := zws_t 193 (by decide +kernel) (by decide +kernel)
theorem wd_194 : (Cond.instanceMethod ({ cls := "PageRescue$Transaction", name := "takesAChange", desc := "()Z" } : MethodName)) ∈ zws := zws_t 194 (by decide +kernel) (by decide +kernel)
theorem wd_195 : (Cond.selects "PageRescue$Transaction" ({ cls := "PageRescue$Transaction", name := "takesAChange", desc := "()Z" } : MethodName) ({ cls := "PageRescue$Transaction", name := "takesAChange", desc := "()Z" } : MethodName)) ∈ zws := zws_t 195 (by decide +kernel) (by decide +kernel)
theorem wd_196 : (Cond.code ({ cls := "PageRescue$Transaction", name := "takesAChange", desc := "()Z" } : MethodName) prog_6_method_4_code (1 : Nat) (Option.some FieldType.boolean)) ∈ zws := zws_t 196 (by decide +kernel) (by decide +kernel)
theorem wd_197 : (Cond.methodLink "PageRescue" (74 : Nat) ({ cls := "PageRescue$Transaction", name := "changes", desc := "()I" } : MethodName)) ∈ zws := zws_t 197 (by decide +kernel) (by decide +kernel)
theorem wd_198 : (Cond.instanceMethod ({ cls := "PageRescue$Transaction", name := "changes", desc := "()I" } : MethodName)) ∈ zws := zws_t 198 (by decide +kernel) (by decide +kernel)
theorem wd_199 : (Cond.selects "PageRescue$Transaction" ({ cls := "PageRescue$Transaction", name := "changes", desc := "()I" } : MethodName) ({ cls := "PageRescue$Transaction", name := "changes", desc := "()I" } : MethodName)) ∈ zws := zws_t 199 (by decide +kernel) (by decide +kernel)
theorem wd_200 : (Cond.code ({ cls := "PageRescue$Transaction", name := "changes", desc := "()I" } : MethodName) prog_6_method_3_code (1 : Nat) (Option.some FieldType.int)) ∈ zws := zws_t 200 (by decide +kernel) (by decide +kernel)
theorem wd_201 : (Cond.methodLink "PageRescue" (78 : Nat) ({ cls := "PageRescue$Log", name := "left", desc := "()I" } : MethodName)) ∈ zws := zws_t 201 (by decide +kernel) (by decide +kernel)
theorem wd_202 : (Cond.instanceMethod ({ cls := "PageRescue$Log", name := "left", desc := "()I" } : MethodName)) ∈ zws := zws_t 202 (by decide +kernel) (by decide +kernel)
theorem wd_203 : (Cond.selects "PageRescue$Log" ({ cls := "PageRescue$Log", name := "left", desc := "()I" } : MethodName) ({ cls := "PageRescue$Log", name := "left", desc := "()I" } : MethodName)) ∈ zws := zws_t 203 (by decide +kernel) (by decide +kernel)
theorem wd_204 : (Cond.code ({ cls := "PageRescue$Log", name := "left", desc := "()I" } : MethodName) prog_5_method_8_code (1 : Nat) (Option.some FieldType.int)) ∈ zws := zws_t 204 (by decide +kernel) (by decide +kernel)
theorem wd_205 : (Cond.methodLink "PageRescue$Log" (49 : Nat) ({ cls := "java/lang/Math", name := "min", desc := "(II)I" } : MethodName)) ∈ zws := zws_t 205 (by decide +kernel) (by decide +kernel)
theorem wd_206 : (Cond.methodLink "PageRescue" (81 : Nat) ({ cls := "PageRescue$Log", name := "contentOf", desc := "(I)J" } : MethodName)) ∈ zws := zws_t 206 (by decide +kernel) (by decide +kernel)
theorem wd_207 : (Cond.instanceMethod ({ cls := "PageRescue$Log", name := "contentOf", desc := "(I)J" } : MethodName)) ∈ zws := zws_t 207 (by decide +kernel) (by decide +kernel)
theorem wd_208 : (Cond.selects "PageRescue$Log" ({ cls := "PageRescue$Log", name := "contentOf", desc := "(I)J" } : MethodName) ({ cls := "PageRescue$Log", name := "contentOf", desc := "(I)J" } : MethodName)) ∈ zws := zws_t 208 (by decide +kernel) (by decide +kernel)
theorem wd_209 : (Cond.code ({ cls := "PageRescue$Log", name := "contentOf", desc := "(I)J" } : MethodName) prog_5_method_6_code (2 : Nat) (Option.some FieldType.long)) ∈ zws := zws_t 209 (by decide +kernel) (by decide +kernel)
theorem wd_210 : (Cond.methodLink "PageRescue" (85 : Nat) ({ cls := "PageRescue$Transaction", name := "remember", desc := "(IJ)V" } : MethodName)) ∈ zws := zws_t 210 (by decide +kernel) (by decide +kernel)
theorem wd_211 : (Cond.instanceMethod ({ cls := "PageRescue$Transaction", name := "remember", desc := "(IJ)V" } : MethodName)) ∈ zws := zws_t 211 (by decide +kernel) (by decide +kernel)
theorem wd_212 : (Cond.selects "PageRescue$Transaction" ({ cls := "PageRescue$Transaction", name := "remember", desc := "(IJ)V" } : MethodName) ({ cls := "PageRescue$Transaction", name := "remember", desc := "(IJ)V" } : MethodName)) ∈ zws := zws_t 212 (by decide +kernel) (by decide +kernel)
theorem wd_213 : (Cond.code ({ cls := "PageRescue$Transaction", name := "remember", desc := "(IJ)V" } : MethodName) prog_6_method_7_code (4 : Nat) (Option.none : Option FieldType)) ∈ zws := zws_t 213 (by decide +kernel) (by decide +kernel)
theorem wd_214 : (Cond.constantLong "PageRescue" (89 : Nat) (1000000000000 : Int64)) ∈ zws := zws_t 214 (by decide +kernel) (by decide +kernel)
theorem wd_215 : (Cond.methodLink "PageRescue" (91 : Nat) ({ cls := "PageRescue$Log", name := "addChange", desc := "(IJ)I" } : MethodName)) ∈ zws := zws_t 215 (by decide +kernel) (by decide +kernel)
theorem wd_216 : (Cond.instanceMethod ({ cls := "PageRescue$Log", name := "addChange", desc := "(IJ)I" } : MethodName)) ∈ zws := zws_t 216 (by decide +kernel) (by decide +kernel)
theorem wd_217 : (Cond.selects "PageRescue$Log" ({ cls := "PageRescue$Log", name := "addChange", desc := "(IJ)I" } : MethodName) ({ cls := "PageRescue$Log", name := "addChange", desc := "(IJ)I" } : MethodName)) ∈ zws := zws_t 217 (by decide +kernel) (by decide +kernel)
theorem wd_218 : (Cond.code ({ cls := "PageRescue$Log", name := "addChange", desc := "(IJ)I" } : MethodName) prog_5_method_10_code (4 : Nat) (Option.some FieldType.int)) ∈ zws := zws_t 218 (by decide +kernel) (by decide +kernel)
theorem wd_219 : (Cond.methodLink "PageRescue$Log" (55 : Nat) ({ cls := "PageRescue$Log", name := "addRecord", desc := "(IJ)V" } : MethodName)) ∈ zws := zws_t 219 (by decide +kernel) (by decide +kernel)
theorem wd_221 : (Cond.instanceMethod ({ cls := "PageRescue$Log", name := "addRecord", desc := "(IJ)V" } : MethodName)) ∈ zws := zws_t 221 (by decide +kernel) (by decide +kernel)
theorem wd_222 : (Cond.code ({ cls := "PageRescue$Log", name := "addRecord", desc := "(IJ)V" } : MethodName) prog_5_method_13_code (4 : Nat) (Option.none : Option FieldType)) ∈ zws := zws_t 222 (by decide +kernel) (by decide +kernel)
theorem wd_223 : (Cond.methodLink "PageRescueLaw" (31 : Nat) ({ cls := "PageRescue", name := "commit", desc := "()I" } : MethodName)) ∈ zws := zws_t 223 (by decide +kernel) (by decide +kernel)
theorem wd_224 : (Cond.instanceMethod ({ cls := "PageRescue", name := "commit", desc := "()I" } : MethodName)) ∈ zws := zws_t 224 (by decide +kernel) (by decide +kernel)
theorem wd_225 : (Cond.selects "PageRescue" ({ cls := "PageRescue", name := "commit", desc := "()I" } : MethodName) ({ cls := "PageRescue", name := "commit", desc := "()I" } : MethodName)) ∈ zws := zws_t 225 (by decide +kernel) (by decide +kernel)
theorem wd_226 : (Cond.code ({ cls := "PageRescue", name := "commit", desc := "()I" } : MethodName) prog_1_method_4_code (1 : Nat) (Option.some FieldType.int)) ∈ zws := zws_t 226 (by decide +kernel) (by decide +kernel)
theorem wd_227 : (Cond.methodLink "PageRescue" (95 : Nat) ({ cls := "PageRescue$Transaction", name := "close", desc := "()V" } : MethodName)) ∈ zws := zws_t 227 (by decide +kernel) (by decide +kernel)
theorem wd_228 : (Cond.instanceMethod ({ cls := "PageRescue$Transaction", name := "close", desc := "()V" } : MethodName)) ∈ zws := zws_t 228 (by decide +kernel) (by decide +kernel)
theorem wd_229 : (Cond.selects "PageRescue$Transaction" ({ cls := "PageRescue$Transaction", name := "close", desc := "()V" } : MethodName) ({ cls := "PageRescue$Transaction", name := "close", desc := "()V" } : MethodName)) ∈ zws := zws_t 229 (by decide +kernel) (by decide +kernel)
theorem wd_230 : (Cond.code ({ cls := "PageRescue$Transaction", name := "close", desc := "()V" } : MethodName) prog_6_method_6_code (1 : Nat) (Option.none : Option FieldType)) ∈ zws := zws_t 230 (by decide +kernel) (by decide +kernel)
theorem wd_231 : (Cond.methodLink "PageRescue" (98 : Nat) ({ cls := "PageRescue$Log", name := "addCommit", desc := "()I" } : MethodName)) ∈ zws := zws_t 231 (by decide +kernel) (by decide +kernel)
theorem wd_232 : (Cond.instanceMethod ({ cls := "PageRescue$Log", name := "addCommit", desc := "()I" } : MethodName)) ∈ zws := zws_t 232 (by decide +kernel) (by decide +kernel)
theorem wd_233 : (Cond.selects "PageRescue$Log" ({ cls := "PageRescue$Log", name := "addCommit", desc := "()I" } : MethodName) ({ cls := "PageRescue$Log", name := "addCommit", desc := "()I" } : MethodName)) ∈ zws := zws_t 233 (by decide +kernel) (by decide +kernel)
theorem wd_234 : (Cond.code ({ cls := "PageRescue$Log", name := "addCommit", desc := "()I" } : MethodName) prog_5_method_11_code (1 : Nat) (Option.some FieldType.int)) ∈ zws := zws_t 234 (by decide +kernel) (by decide +kernel)
theorem wd_235 : (Cond.methodLink "PageRescueLaw" (35 : Nat) ({ cls := "PageRescue", name := "abort", desc := "()I" } : MethodName)) ∈ zws := zws_t 235 (by decide +kernel) (by decide +kernel)
theorem wd_236 : (Cond.instanceMethod ({ cls := "PageRescue", name := "abort", desc := "()I" } : MethodName)) ∈ zws := zws_t 236 (by decide +kernel) (by decide +kernel)
theorem wd_237 : (Cond.selects "PageRescue" ({ cls := "PageRescue", name := "abort", desc := "()I" } : MethodName) ({ cls := "PageRescue", name := "abort", desc := "()I" } : MethodName)) ∈ zws := zws_t 237 (by decide +kernel) (by decide +kernel)
theorem wd_238 : (Cond.code ({ cls := "PageRescue", name := "abort", desc := "()I" } : MethodName) prog_1_method_5_code (2 : Nat) (Option.some FieldType.int)) ∈ zws := zws_t 238 (by decide +kernel) (by decide +kernel)
theorem wd_239 : (Cond.methodLink "PageRescue" (101 : Nat) ({ cls := "PageRescue$Transaction", name := "undoIn", desc := "(LPageRescue$Log;)V" } : MethodName)) ∈ zws := zws_t 239 (by decide +kernel) (by decide +kernel)
theorem wd_240 : (Cond.instanceMethod ({ cls := "PageRescue$Transaction", name := "undoIn", desc := "(LPageRescue$Log;)V" } : MethodName)) ∈ zws := zws_t 240 (by decide +kernel) (by decide +kernel)
theorem wd_241 : (Cond.selects "PageRescue$Transaction" ({ cls := "PageRescue$Transaction", name := "undoIn", desc := "(LPageRescue$Log;)V" } : MethodName) ({ cls := "PageRescue$Transaction", name := "undoIn", desc := "(LPageRescue$Log;)V" } : MethodName)) ∈ zws := zws_t 241 (by decide +kernel) (by decide +kernel)
theorem wd_242 : (Cond.code ({ cls := "PageRescue$Transaction", name := "undoIn", desc := "(LPageRescue$Log;)V" } : MethodName) prog_6_method_8_code (3 : Nat) (Option.none : Option FieldType)) ∈ zws := zws_t 242 (by decide +kernel) (by decide +kernel)
theorem wd_243 : (Cond.methodLink "PageRescue$Transaction" (27 : Nat) ({ cls := "PageRescue$Log", name := "addChange", desc := "(IJ)I" } : MethodName)) ∈ zws := zws_t 243 (by decide +kernel) (by decide +kernel)
theorem wd_244 : (Cond.methodLink "PageRescue$Transaction" (33 : Nat) ({ cls := "PageRescue$Log", name := "addEnd", desc := "()V" } : MethodName)) ∈ zws := zws_t 244 (by decide +kernel) (by decide +kernel)
theorem wd_245 : (Cond.instanceMethod ({ cls := "PageRescue$Log", name := "addEnd", desc := "()V" } : MethodName)) ∈ zws := zws_t 245 (by decide +kernel) (by decide +kernel)
theorem wd_246 : (Cond.selects "PageRescue$Log" ({ cls := "PageRescue$Log", name := "addEnd", desc := "()V" } : MethodName) ({ cls := "PageRescue$Log", name := "addEnd", desc := "()V" } : MethodName)) ∈ zws := zws_t 246 (by decide +kernel) (by decide +kernel)
theorem wd_247 : (Cond.code ({ cls := "PageRescue$Log", name := "addEnd", desc := "()V" } : MethodName) prog_5_method_12_code (1 : Nat) (Option.none : Option FieldType)) ∈ zws := zws_t 247 (by decide +kernel) (by decide +kernel)
theorem wd_248 : (Cond.methodLink "PageRescue$Transaction" (36 : Nat) ({ cls := "PageRescue$Transaction", name := "close", desc := "()V" } : MethodName)) ∈ zws := zws_t 248 (by decide +kernel) (by decide +kernel)
theorem wd_249 : (Cond.methodLink "PageRescueLaw" (39 : Nat) ({ cls := "PageRescue", name := "get", desc := "(I)J" } : MethodName)) ∈ zws := zws_t 249 (by decide +kernel) (by decide +kernel)
theorem wd_250 : (Cond.instanceMethod ({ cls := "PageRescue", name := "get", desc := "(I)J" } : MethodName)) ∈ zws := zws_t 250 (by decide +kernel) (by decide +kernel)
theorem wd_251 : (Cond.selects "PageRescue" ({ cls := "PageRescue", name := "get", desc := "(I)J" } : MethodName) ({ cls := "PageRescue", name := "get", desc := "(I)J" } : MethodName)) ∈ zws := zws_t 251 (by decide +kernel) (by decide +kernel)
theorem wd_252 : (Cond.code ({ cls := "PageRescue", name := "get", desc := "(I)J" } : MethodName) prog_1_method_6_code (2 : Nat) (Option.some FieldType.long)) ∈ zws := zws_t 252 (by decide +kernel) (by decide +kernel)
theorem wd_253 : (Cond.constantLong "PageRescue" (105 : Nat) (-1000000000000 : Int64)) ∈ zws := zws_t 253 (by decide +kernel) (by decide +kernel)
theorem wd_254 : (Cond.methodLink "PageRescueLaw" (44 : Nat) ({ cls := "PageRescue", name := "write", desc := "(I)I" } : MethodName)) ∈ zws := zws_t 254 (by decide +kernel) (by decide +kernel)
theorem wd_255 : (Cond.instanceMethod ({ cls := "PageRescue", name := "write", desc := "(I)I" } : MethodName)) ∈ zws := zws_t 255 (by decide +kernel) (by decide +kernel)
theorem wd_256 : (Cond.selects "PageRescue" ({ cls := "PageRescue", name := "write", desc := "(I)I" } : MethodName) ({ cls := "PageRescue", name := "write", desc := "(I)I" } : MethodName)) ∈ zws := zws_t 256 (by decide +kernel) (by decide +kernel)
theorem wd_257 : (Cond.code ({ cls := "PageRescue", name := "write", desc := "(I)I" } : MethodName) prog_1_method_7_code (3 : Nat) (Option.some FieldType.int)) ∈ zws := zws_t 257 (by decide +kernel) (by decide +kernel)
theorem wd_258 : (Cond.methodLink "PageRescue" (107 : Nat) ({ cls := "PageRescue", name := "isPage", desc := "(I)Z" } : MethodName)) ∈ zws := zws_t 258 (by decide +kernel) (by decide +kernel)
theorem wd_259 : (Cond.static ({ cls := "PageRescue", name := "isPage", desc := "(I)Z" } : MethodName)) ∈ zws := zws_t 259 (by decide +kernel) (by decide +kernel)
theorem wd_260 : (Cond.code ({ cls := "PageRescue", name := "isPage", desc := "(I)Z" } : MethodName) prog_1_method_20_code (1 : Nat) (Option.some FieldType.boolean)) ∈ zws := zws_t 260 (by decide +kernel) (by decide +kernel)
theorem wd_261 : (Cond.methodLink "PageRescue" (110 : Nat) ({ cls := "PageRescue$Log", name := "numberOfPage", desc := "(I)I" } : MethodName)) ∈ zws := zws_t 261 (by decide +kernel) (by decide +kernel)
theorem wd_262 : (Cond.instanceMethod ({ cls := "PageRescue$Log", name := "numberOfPage", desc := "(I)I" } : MethodName)) ∈ zws := zws_t 262 (by decide +kernel) (by decide +kernel)
theorem wd_263 : (Cond.selects "PageRescue$Log" ({ cls := "PageRescue$Log", name := "numberOfPage", desc := "(I)I" } : MethodName) ({ cls := "PageRescue$Log", name := "numberOfPage", desc := "(I)I" } : MethodName)) ∈ zws := zws_t 263 (by decide +kernel) (by decide +kernel)
theorem wd_264 : (Cond.code ({ cls := "PageRescue$Log", name := "numberOfPage", desc := "(I)I" } : MethodName) prog_5_method_7_code (2 : Nat) (Option.some FieldType.int)) ∈ zws := zws_t 264 (by decide +kernel) (by decide +kernel)
theorem wd_265 : (Cond.methodLink "PageRescue" (114 : Nat) ({ cls := "PageRescue$Disk", name := "store", desc := "(II)V" } : MethodName)) ∈ zws := zws_t 265 (by decide +kernel) (by decide +kernel)
theorem wd_266 : (Cond.instanceMethod ({ cls := "PageRescue$Disk", name := "store", desc := "(II)V" } : MethodName)) ∈ zws := zws_t 266 (by decide +kernel) (by decide +kernel)
theorem wd_267 : (Cond.selects "PageRescue$Disk" ({ cls := "PageRescue$Disk", name := "store", desc := "(II)V" } : MethodName) ({ cls := "PageRescue$Disk", name := "store", desc := "(II)V" } : MethodName)) ∈ zws := zws_t 267 (by decide +kernel) (by decide +kernel)
theorem wd_268 : (Cond.code ({ cls := "PageRescue$Disk", name := "store", desc := "(II)V" } : MethodName) prog_4_method_2_code (3 : Nat) (Option.none : Option FieldType)) ∈ zws := zws_t 268 (by decide +kernel) (by decide +kernel)
theorem wd_269 : (Cond.methodLink "PageRescueLaw" (49 : Nat) ({ cls := "PageRescue", name := "archive", desc := "()I" } : MethodName)) ∈ zws := zws_t 269 (by decide +kernel) (by decide +kernel)
theorem wd_270 : (Cond.instanceMethod ({ cls := "PageRescue", name := "archive", desc := "()I" } : MethodName)) ∈ zws := zws_t 270 (by decide +kernel) (by decide +kernel)
theorem wd_271 : (Cond.selects "PageRescue" ({ cls := "PageRescue", name := "archive", desc := "()I" } : MethodName) ({ cls := "PageRescue", name := "archive", desc := "()I" } : MethodName)) ∈ zws := zws_t 271 (by decide +kernel) (by decide +kernel)
theorem wd_272 : (Cond.code ({ cls := "PageRescue", name := "archive", desc := "()I" } : MethodName) prog_1_method_8_code (1 : Nat) (Option.some FieldType.int)) ∈ zws := zws_t 272 (by decide +kernel) (by decide +kernel)
theorem wd_273 : (Cond.methodLink "PageRescue" (118 : Nat) ({ cls := "PageRescue$Log", name := "archiveOldest", desc := "()I" } : MethodName)) ∈ zws := zws_t 273 (by decide +kernel) (by decide +kernel)
theorem wd_274 : (Cond.instanceMethod ({ cls := "PageRescue$Log", name := "archiveOldest", desc := "()I" } : MethodName)) ∈ zws := zws_t 274 (by decide +kernel) (by decide +kernel)
theorem wd_275 : (Cond.selects "PageRescue$Log" ({ cls := "PageRescue$Log", name := "archiveOldest", desc := "()I" } : MethodName) ({ cls := "PageRescue$Log", name := "archiveOldest", desc := "()I" } : MethodName)) ∈ zws := zws_t 275 (by decide +kernel) (by decide +kernel)
theorem wd_276 : (Cond.code ({ cls := "PageRescue$Log", name := "archiveOldest", desc := "()I" } : MethodName) prog_5_method_14_code (1 : Nat) (Option.some FieldType.int)) ∈ zws := zws_t 276 (by decide +kernel) (by decide +kernel)
theorem wd_277 : (Cond.methodLink "PageRescueLaw" (53 : Nat) ({ cls := "PageRescue", name := "backup", desc := "(Z)I" } : MethodName)) ∈ zws := zws_t 277 (by decide +kernel) (by decide +kernel)
theorem wd_278 : (Cond.instanceMethod ({ cls := "PageRescue", name := "backup", desc := "(Z)I" } : MethodName)) ∈ zws := zws_t 278 (by decide +kernel) (by decide +kernel)
theorem wd_279 : (Cond.selects "PageRescue" ({ cls := "PageRescue", name := "backup", desc := "(Z)I" } : MethodName) ({ cls := "PageRescue", name := "backup", desc := "(Z)I" } : MethodName)) ∈ zws := zws_t 279 (by decide +kernel) (by decide +kernel)
theorem wd_280 : (Cond.code ({ cls := "PageRescue", name := "backup", desc := "(Z)I" } : MethodName) prog_1_method_9_code (2 : Nat) (Option.some FieldType.int)) ∈ zws := zws_t 280 (by decide +kernel) (by decide +kernel)
theorem wd_281 : (Cond.methodLink "PageRescue" (121 : Nat) ({ cls := "PageRescue$Log", name := "latest", desc := "()I" } : MethodName)) ∈ zws := zws_t 281 (by decide +kernel) (by decide +kernel)
theorem wd_282 : (Cond.instanceMethod ({ cls := "PageRescue$Log", name := "latest", desc := "()I" } : MethodName)) ∈ zws := zws_t 282 (by decide +kernel) (by decide +kernel)
theorem wd_283 : (Cond.selects "PageRescue$Log" ({ cls := "PageRescue$Log", name := "latest", desc := "()I" } : MethodName) ({ cls := "PageRescue$Log", name := "latest", desc := "()I" } : MethodName)) ∈ zws := zws_t 283 (by decide +kernel) (by decide +kernel)
theorem wd_284 : (Cond.code ({ cls := "PageRescue$Log", name := "latest", desc := "()I" } : MethodName) prog_5_method_2_code (1 : Nat) (Option.some FieldType.int)) ∈ zws := zws_t 284 (by decide +kernel) (by decide +kernel)
theorem wd_285 : (Cond.methodLink "PageRescue" (124 : Nat) ({ cls := "PageRescue$Backups", name := "start", desc := "(ZI)I" } : MethodName)) ∈ zws := zws_t 285 (by decide +kernel) (by decide +kernel)
theorem wd_286 : (Cond.instanceMethod ({ cls := "PageRescue$Backups", name := "start", desc := "(ZI)I" } : MethodName)) ∈ zws := zws_t 286 (by decide +kernel) (by decide +kernel)
theorem wd_287 : (Cond.selects "PageRescue$Backups" ({ cls := "PageRescue$Backups", name := "start", desc := "(ZI)I" } : MethodName) ({ cls := "PageRescue$Backups", name := "start", desc := "(ZI)I" } : MethodName)) ∈ zws := zws_t 287 (by decide +kernel) (by decide +kernel)
theorem wd_288 : (Cond.code ({ cls := "PageRescue$Backups", name := "start", desc := "(ZI)I" } : MethodName) prog_3_method_6_code (3 : Nat) (Option.some FieldType.int)) ∈ zws := zws_t 288 (by decide +kernel) (by decide +kernel)
theorem wd_289 : (Cond.methodLink "PageRescue$Backups" (45 : Nat) ({ cls := "PageRescue$Backups", name := "howMany", desc := "()I" } : MethodName)) ∈ zws := zws_t 289 (by decide +kernel) (by decide +kernel)
theorem wd_290 : (Cond.instanceMethod ({ cls := "PageRescue$Backups", name := "howMany", desc := "()I" } : MethodName)) ∈ zws := zws_t 290 (by decide +kernel) (by decide +kernel)
theorem wd_291 : (Cond.selects "PageRescue$Backups" ({ cls := "PageRescue$Backups", name := "howMany", desc := "()I" } : MethodName) ({ cls := "PageRescue$Backups", name := "howMany", desc := "()I" } : MethodName)) ∈ zws := zws_t 291 (by decide +kernel) (by decide +kernel)
theorem wd_292 : (Cond.code ({ cls := "PageRescue$Backups", name := "howMany", desc := "()I" } : MethodName) prog_3_method_2_code (1 : Nat) (Option.some FieldType.int)) ∈ zws := zws_t 292 (by decide +kernel) (by decide +kernel)
theorem wd_293 : (Cond.methodLink "PageRescue$Backups" (32 : Nat) ({ cls := "java/util/ArrayList", name := "size", desc := "()I" } : MethodName)) ∈ zws := zws_t 293 (by decide +kernel) (by decide +kernel)
theorem wd_294 : (Cond.instanceMethod ({ cls := "java/util/ArrayList", name := "size", desc := "()I" } : MethodName)) ∈ zws := zws_t 294 (by decide +kernel) (by decide +kernel)
theorem wd_295 : (Cond.selects "java/util/ArrayList" ({ cls := "java/util/ArrayList", name := "size", desc := "()I" } : MethodName) ({ cls := "java/util/ArrayList", name := "size", desc := "()I" } : MethodName)) ∈ zws := zws_t 295 (by decide +kernel) (by decide +kernel)
theorem wd_296 : (Cond.code ({ cls := "java/util/ArrayList", name := "size", desc := "()I" } : MethodName) prog_16_method_8_code (1 : Nat) (Option.some FieldType.int)) ∈ zws := zws_t 296 (by decide +kernel) (by decide +kernel)
theorem wd_297 : (Cond.classLink "PageRescue$Backups" (40 : Nat) "PageRescue$Backup") ∈ zws := zws_t 297 (by decide +kernel) (by decide +kernel)
theorem wd_298 : (Cond.instantiable "PageRescue$Backup" (6 : Nat)) ∈ zws := zws_t 298 (by decide +kernel) (by decide +kernel)
theorem wd_299 : (Cond.methodLink "PageRescue$Backups" (48 : Nat) ({ cls := "PageRescue$Backup", name := "<init>", desc := "(ZI)V" } : MethodName)) ∈ zws := zws_t 299 (by decide +kernel) (by decide +kernel)
theorem wd_300 : (Cond.instanceMethod ({ cls := "PageRescue$Backup", name := "<init>", desc := "(ZI)V" } : MethodName)) ∈ zws := zws_t 300 (by decide +kernel) (by decide +kernel)
theorem wd_301 : (Cond.code ({ cls := "PageRescue$Backup", name := "<init>", desc := "(ZI)V" } : MethodName) prog_2_method_1_code (3 : Nat) (Option.none : Option FieldType)) ∈ zws := zws_t 301 (by decide +kernel) (by decide +kernel)
theorem wd_302 : (Cond.methodLink "PageRescue$Backup" (3 : Nat) ({ cls := "java/lang/Object", name := "<init>", desc := "()V" } : MethodName)) ∈ zws := zws_t 302 (by decide +kernel) (by decide +kernel)
theorem wd_303 : (Cond.methodLink "PageRescue$Backup" (32 : Nat) ({ cls := "java/util/Arrays", name := "fill", desc := "([II)V" } : MethodName)) ∈ zws := zws_t 303 (by decide +kernel) (by decide +kernel)
theorem wd_304 : (Cond.static ({ cls := "java/util/Arrays", name := "fill", desc := "([II)V" } : MethodName)) ∈ zws := zws_t 304 (by decide +kernel) (by decide +kernel)
theorem wd_305 : (Cond.code ({ cls := "java/util/Arrays", name := "fill", desc := "([II)V" } : MethodName) prog_17_method_103_code (4 : Nat) (Option.none : Option FieldType)) ∈ zws := zws_t 305 (by decide +kernel) (by decide +kernel)
theorem wd_306 : (Cond.fieldLink "PageRescue$Backup" (25 : Nat) "PageRescue$Backup" "full" "Z") ∈ zws := zws_t 306 (by decide +kernel) (by decide +kernel)
theorem wd_307 : (Cond.fieldLink "PageRescue$Backups" (63 : Nat) "PageRescue$Backup" "full" "Z") ∈ zws := zws_t 307 (by decide +kernel) (by decide +kernel)
theorem wd_308 : (Cond.fieldLink "PageRescue" (180 : Nat) "PageRescue$Backup" "full" "Z") ∈ zws := zws_t 308 (by decide +kernel) (by decide +kernel)
theorem wd_309 : (Cond.fieldLink "PageRescue$Backup" (29 : Nat) "PageRescue$Backup" "start" "I") ∈ zws := zws_t 309 (by decide +kernel) (by decide +kernel)
theorem wd_310 : (Cond.fieldLink "PageRescue$Backups" (86 : Nat) "PageRescue$Backup" "start" "I") ∈ zws := zws_t 310 (by decide +kernel) (by decide +kernel)
theorem wd_311 : (Cond.fieldLink "PageRescue" (185 : Nat) "PageRescue$Backup" "start" "I") ∈ zws := zws_t 311 (by decide +kernel) (by decide +kernel)
theorem wd_312 : (Cond.fieldLink "PageRescue$Backup" (9 : Nat) "PageRescue$Backup" "imageNumbers" "[I") ∈ zws := zws_t 312 (by decide +kernel) (by decide +kernel)
theorem wd_313 : (Cond.fieldLink "PageRescue$Backup" (15 : Nat) "PageRescue$Backup" "end" "I") ∈ zws := zws_t 313 (by decide +kernel) (by decide +kernel)
theorem wd_314 : (Cond.fieldLink "PageRescue$Backups" (92 : Nat) "PageRescue$Backup" "end" "I") ∈ zws := zws_t 314 (by decide +kernel) (by decide +kernel)
theorem wd_315 : (Cond.fieldLink "PageRescue" (188 : Nat) "PageRescue$Backup" "end" "I") ∈ zws := zws_t 315 (by decide +kernel) (by decide +kernel)
theorem wd_316 : (Cond.fieldLink "PageRescue$Backup" (19 : Nat) "PageRescue$Backup" "images" "I") ∈ zws := zws_t 316 (by decide +kernel) (by decide +kernel)
theorem wd_317 : (Cond.fieldLink "PageRescue" (191 : Nat) "PageRescue$Backup" "images" "I") ∈ zws := zws_t 317 (by decide +kernel) (by decide +kernel)
theorem wd_318 : (Cond.fieldLink "PageRescue$Backup" (22 : Nat) "PageRescue$Backup" "visited" "I") ∈ zws := zws_t 318 (by decide +kernel) (by decide +kernel)
theorem wd_319 : (Cond.fieldLink "PageRescue$Backups" (42 : Nat) "PageRescue$Backup" "visited" "I") ∈ zws := zws_t 319 (by decide +kernel) (by decide +kernel)
theorem wd_333 : (Cond.methodLink "PageRescueLaw" (58 : Nat) ({ cls := "PageRescue", name := "step", desc := "(I)I" } : MethodName)) ∈ zws := zws_t 333 (by decide +kernel) (by decide +kernel)
theorem wd_334 : (Cond.instanceMethod ({ cls := "PageRescue", name := "step", desc := "(I)I" } : MethodName)) ∈ zws := zws_t 334 (by decide +kernel) (by decide +kernel)
theorem wd_335 : (Cond.selects "PageRescue" ({ cls := "PageRescue", name := "step", desc := "(I)I" } : MethodName) ({ cls := "PageRescue", name := "step", desc := "(I)I" } : MethodName)) ∈ zws := zws_t 335 (by decide +kernel) (by decide +kernel)
theorem wd_336 : (Cond.code ({ cls := "PageRescue", name := "step", desc := "(I)I" } : MethodName) prog_1_method_10_code (2 : Nat) (Option.some FieldType.int)) ∈ zws := zws_t 336 (by decide +kernel) (by decide +kernel)
theorem wd_337 : (Cond.methodLink "PageRescue" (128 : Nat) ({ cls := "PageRescue$Backups", name := "visit", desc := "(ILPageRescue$Log;)I" } : MethodName)) ∈ zws := zws_t 337 (by decide +kernel) (by decide +kernel)
theorem wd_338 : (Cond.instanceMethod ({ cls := "PageRescue$Backups", name := "visit", desc := "(ILPageRescue$Log;)I" } : MethodName)) ∈ zws := zws_t 338 (by decide +kernel) (by decide +kernel)
theorem wd_339 : (Cond.selects "PageRescue$Backups" ({ cls := "PageRescue$Backups", name := "visit", desc := "(ILPageRescue$Log;)I" } : MethodName) ({ cls := "PageRescue$Backups", name := "visit", desc := "(ILPageRescue$Log;)I" } : MethodName)) ∈ zws := zws_t 339 (by decide +kernel) (by decide +kernel)
theorem wd_340 : (Cond.code ({ cls := "PageRescue$Backups", name := "visit", desc := "(ILPageRescue$Log;)I" } : MethodName) prog_3_method_8_code (6 : Nat) (Option.some FieldType.int)) ∈ zws := zws_t 340 (by decide +kernel) (by decide +kernel)
theorem wd_341 : (Cond.methodLink "PageRescue$Backups" (51 : Nat) ({ cls := "java/lang/Math", name := "min", desc := "(II)I" } : MethodName)) ∈ zws := zws_t 341 (by decide +kernel) (by decide +kernel)
theorem wd_342 : (Cond.methodLink "PageRescue$Backups" (57 : Nat) ({ cls := "PageRescue$Log", name := "numberOfPage", desc := "(I)I" } : MethodName)) ∈ zws := zws_t 342 (by decide +kernel) (by decide +kernel)
theorem wd_343 : (Cond.methodLink "PageRescue$Backups" (67 : Nat) ({ cls := "PageRescue$Backups", name := "startOfLatest", desc := "()I" } : MethodName)) ∈ zws := zws_t 343 (by decide +kernel) (by decide +kernel)
theorem wd_345 : (Cond.instanceMethod ({ cls := "PageRescue$Backups", name := "startOfLatest", desc := "()I" } : MethodName)) ∈ zws := zws_t 345 (by decide +kernel) (by decide +kernel)
theorem wd_346 : (Cond.code ({ cls := "PageRescue$Backups", name := "startOfLatest", desc := "()I" } : MethodName) prog_3_method_9_code (1 : Nat) (Option.some FieldType.int)) ∈ zws := zws_t 346 (by decide +kernel) (by decide +kernel)
theorem wd_347 : (Cond.methodLink "PageRescue$Backups" (78 : Nat) ({ cls := "java/util/ArrayList", name := "isEmpty", desc := "()Z" } : MethodName)) ∈ zws := zws_t 347 (by decide +kernel) (by decide +kernel)
theorem wd_348 : (Cond.instanceMethod ({ cls := "java/util/ArrayList", name := "isEmpty", desc := "()Z" } : MethodName)) ∈ zws := zws_t 348 (by decide +kernel) (by decide +kernel)
theorem wd_349 : (Cond.selects "java/util/ArrayList" ({ cls := "java/util/ArrayList", name := "isEmpty", desc := "()Z" } : MethodName) ({ cls := "java/util/ArrayList", name := "isEmpty", desc := "()Z" } : MethodName)) ∈ zws := zws_t 349 (by decide +kernel) (by decide +kernel)
theorem wd_350 : (Cond.code ({ cls := "java/util/ArrayList", name := "isEmpty", desc := "()Z" } : MethodName) prog_16_method_9_code (1 : Nat) (Option.some FieldType.boolean)) ∈ zws := zws_t 350 (by decide +kernel) (by decide +kernel)
theorem wd_351 : (Cond.methodLink "PageRescue$Backups" (82 : Nat) ({ cls := "PageRescue$Backups", name := "numbered", desc := "(I)LPageRescue$Backup;" } : MethodName)) ∈ zws := zws_t 351 (by decide +kernel) (by decide +kernel)
theorem wd_352 : (Cond.instanceMethod ({ cls := "PageRescue$Backups", name := "numbered", desc := "(I)LPageRescue$Backup;" } : MethodName)) ∈ zws := zws_t 352 (by decide +kernel) (by decide +kernel)
theorem wd_353 : (Cond.selects "PageRescue$Backups" ({ cls := "PageRescue$Backups", name := "numbered", desc := "(I)LPageRescue$Backup;" } : MethodName) ({ cls := "PageRescue$Backups", name := "numbered", desc := "(I)LPageRescue$Backup;" } : MethodName)) ∈ zws := zws_t 353 (by decide +kernel) (by decide +kernel)
theorem wd_354 : (Cond.code ({ cls := "PageRescue$Backups", name := "numbered", desc := "(I)LPageRescue$Backup;" } : MethodName) prog_3_method_3_code (2 : Nat) (Option.some (FieldType.object "PageRescue$Backup"))) ∈ zws := zws_t 354 (by decide +kernel) (by decide +kernel)
theorem wd_355 : (Cond.methodLink "PageRescue$Backups" (36 : Nat) ({ cls := "java/util/ArrayList", name := "get", desc := "(I)Ljava/lang/Object;" } : MethodName)) ∈ zws := zws_t 355 (by decide +kernel) (by decide +kernel)
theorem wd_356 : (Cond.instanceMethod ({ cls := "java/util/ArrayList", name := "get", desc := "(I)Ljava/lang/Object;" } : MethodName)) ∈ zws := zws_t 356 (by decide +kernel) (by decide +kernel)
theorem wd_357 : (Cond.selects "java/util/ArrayList" ({ cls := "java/util/ArrayList", name := "get", desc := "(I)Ljava/lang/Object;" } : MethodName) ({ cls := "java/util/ArrayList", name := "get", desc := "(I)Ljava/lang/Object;" } : MethodName)) ∈ zws := zws_t 357 (by decide +kernel) (by decide +kernel)
theorem wd_358 : (Cond.code ({ cls := "java/util/ArrayList", name := "get", desc := "(I)Ljava/lang/Object;" } : MethodName) prog_16_method_20_code (2 : Nat) (Option.some (FieldType.object "java/lang/Object"))) ∈ zws := zws_t 358 (by decide +kernel) (by decide +kernel)
theorem wd_359 : (Cond.methodLink "java/util/ArrayList" (118 : Nat) ({ cls := "java/util/Objects", name := "checkIndex", desc := "(II)I" } : MethodName)) ∈ zws := zws_t 359 (by decide +kernel) (by decide +kernel)
theorem wd_360 : (Cond.static ({ cls := "java/util/Objects", name := "checkIndex", desc := "(II)I" } : MethodName)) ∈ zws := zws_t 360 (by decide +kernel) (by decide +kernel)
theorem wd_361 : (Cond.code ({ cls := "java/util/Objects", name := "checkIndex", desc := "(II)I" } : MethodName) prog_20_method_17_code (2 : Nat) (Option.some FieldType.int)) ∈ zws := zws_t 361 (by decide +kernel) (by decide +kernel)
theorem wd_362 : (Cond.methodLink "java/util/Objects" (105 : Nat) ({ cls := "jdk/internal/util/Preconditions", name := "checkIndex", desc := "(IILjava/util/function/BiFunction;)I" } : MethodName)) ∈ zws := zws_t 362 (by decide +kernel) (by decide +kernel)
theorem wd_363 : (Cond.static ({ cls := "jdk/internal/util/Preconditions", name := "checkIndex", desc := "(IILjava/util/function/BiFunction;)I" } : MethodName)) ∈ zws := zws_t 363 (by decide +kernel) (by decide +kernel)
theorem wd_364 : (Cond.code ({ cls := "jdk/internal/util/Preconditions", name := "checkIndex", desc := "(IILjava/util/function/BiFunction;)I" } : MethodName) prog_24_method_11_code (3 : Nat) (Option.some FieldType.int)) ∈ zws := zws_t 364 (by decide +kernel) (by decide +kernel)
theorem wd_365 : (Cond.methodLink "java/util/ArrayList" (123 : Nat) ({ cls := "java/util/ArrayList", name := "elementData", desc := "(I)Ljava/lang/Object;" } : MethodName)) ∈ zws := zws_t 365 (by decide +kernel) (by decide +kernel)
theorem wd_366 : (Cond.instanceMethod ({ cls := "java/util/ArrayList", name := "elementData", desc := "(I)Ljava/lang/Object;" } : MethodName)) ∈ zws := zws_t 366 (by decide +kernel) (by decide +kernel)
theorem wd_367 : (Cond.selects "java/util/ArrayList" ({ cls := "java/util/ArrayList", name := "elementData", desc := "(I)Ljava/lang/Object;" } : MethodName) ({ cls := "java/util/ArrayList", name := "elementData", desc := "(I)Ljava/lang/Object;" } : MethodName)) ∈ zws := zws_t 367 (by decide +kernel) (by decide +kernel)
theorem wd_368 : (Cond.code ({ cls := "java/util/ArrayList", name := "elementData", desc := "(I)Ljava/lang/Object;" } : MethodName) prog_16_method_18_code (2 : Nat) (Option.some (FieldType.object "java/lang/Object"))) ∈ zws := zws_t 368 (by decide +kernel) (by decide +kernel)
theorem wd_369 : (Cond.methodLink "PageRescue$Backups" (70 : Nat) ({ cls := "PageRescue$Backup", name := "takeImage", desc := "(II)V" } : MethodName)) ∈ zws := zws_t 369 (by decide +kernel) (by decide +kernel)
theorem wd_370 : (Cond.instanceMethod ({ cls := "PageRescue$Backup", name := "takeImage", desc := "(II)V" } : MethodName)) ∈ zws := zws_t 370 (by decide +kernel) (by decide +kernel)
theorem wd_371 : (Cond.selects "PageRescue$Backup" ({ cls := "PageRescue$Backup", name := "takeImage", desc := "(II)V" } : MethodName) ({ cls := "PageRescue$Backup", name := "takeImage", desc := "(II)V" } : MethodName)) ∈ zws := zws_t 371 (by decide +kernel) (by decide +kernel)
theorem wd_372 : (Cond.code ({ cls := "PageRescue$Backup", name := "takeImage", desc := "(II)V" } : MethodName) prog_2_method_2_code (3 : Nat) (Option.none : Option FieldType)) ∈ zws := zws_t 372 (by decide +kernel) (by decide +kernel)
theorem wd_373 : (Cond.methodLink "PageRescue$Backups" (74 : Nat) ({ cls := "PageRescue$Backups", name := "finish", desc := "(LPageRescue$Backup;LPageRescue$Log;)V" } : MethodName)) ∈ zws := zws_t 373 (by decide +kernel) (by decide +kernel)
theorem wd_375 : (Cond.instanceMethod ({ cls := "PageRescue$Backups", name := "finish", desc := "(LPageRescue$Backup;LPageRescue$Log;)V" } : MethodName)) ∈ zws := zws_t 375 (by decide +kernel) (by decide +kernel)
theorem wd_376 : (Cond.code ({ cls := "PageRescue$Backups", name := "finish", desc := "(LPageRescue$Backup;LPageRescue$Log;)V" } : MethodName) prog_3_method_10_code (3 : Nat) (Option.none : Option FieldType)) ∈ zws := zws_t 376 (by decide +kernel) (by decide +kernel)
theorem wd_377 : (Cond.methodLink "PageRescue$Backups" (89 : Nat) ({ cls := "PageRescue$Log", name := "latest", desc := "()I" } : MethodName)) ∈ zws := zws_t 377 (by decide +kernel) (by decide +kernel)
theorem wd_378 : (Cond.methodLink "PageRescue$Backups" (95 : Nat) ({ cls := "java/util/ArrayList", name := "add", desc := "(Ljava/lang/Object;)Z" } : MethodName)) ∈ zws := zws_t 378 (by decide +kernel) (by decide +kernel)
theorem wd_379 : (Cond.instanceMethod ({ cls := "java/util/ArrayList", name := "add", desc := "(Ljava/lang/Object;)Z" } : MethodName)) ∈ zws := zws_t 379 (by decide +kernel) (by decide +kernel)
theorem wd_380 : (Cond.selects "java/util/ArrayList" ({ cls := "java/util/ArrayList", name := "add", desc := "(Ljava/lang/Object;)Z" } : MethodName) ({ cls := "java/util/ArrayList", name := "add", desc := "(Ljava/lang/Object;)Z" } : MethodName)) ∈ zws := zws_t 380 (by decide +kernel) (by decide +kernel)
theorem wd_381 : (Cond.code ({ cls := "java/util/ArrayList", name := "add", desc := "(Ljava/lang/Object;)Z" } : MethodName) prog_16_method_25_code (2 : Nat) (Option.some FieldType.boolean)) ∈ zws := zws_t 381 (by decide +kernel) (by decide +kernel)
theorem wd_382 : (Cond.methodLink "java/util/ArrayList" (131 : Nat) ({ cls := "java/util/ArrayList", name := "add", desc := "(Ljava/lang/Object;[Ljava/lang/Object;I)V" } : MethodName)) ∈ zws := zws_t 382 (by decide +kernel) (by decide +kernel)
theorem wd_384 : (Cond.instanceMethod ({ cls := "java/util/ArrayList", name := "add", desc := "(Ljava/lang/Object;[Ljava/lang/Object;I)V" } : MethodName)) ∈ zws := zws_t 384 (by decide +kernel) (by decide +kernel)
theorem wd_385 : (Cond.code ({ cls := "java/util/ArrayList", name := "add", desc := "(Ljava/lang/Object;[Ljava/lang/Object;I)V" } : MethodName) prog_16_method_24_code (4 : Nat) (Option.none : Option FieldType)) ∈ zws := zws_t 385 (by decide +kernel) (by decide +kernel)
theorem wd_386 : (Cond.methodLink "java/util/ArrayList" (129 : Nat) ({ cls := "java/util/ArrayList", name := "grow", desc := "()[Ljava/lang/Object;" } : MethodName)) ∈ zws := zws_t 386 (by decide +kernel) (by decide +kernel)
theorem wd_388 : (Cond.instanceMethod ({ cls := "java/util/ArrayList", name := "grow", desc := "()[Ljava/lang/Object;" } : MethodName)) ∈ zws := zws_t 388 (by decide +kernel) (by decide +kernel)
theorem wd_389 : (Cond.code ({ cls := "java/util/ArrayList", name := "grow", desc := "()[Ljava/lang/Object;" } : MethodName) prog_16_method_7_code (1 : Nat) (Option.some (FieldType.array (FieldType.object "java/lang/Object")))) ∈ zws := zws_t 389 (by decide +kernel) (by decide +kernel)
theorem wd_390 : (Cond.methodLink "java/util/ArrayList" (69 : Nat) ({ cls := "java/util/ArrayList", name := "grow", desc := "(I)[Ljava/lang/Object;" } : MethodName)) ∈ zws := zws_t 390 (by decide +kernel) (by decide +kernel)
theorem wd_392 : (Cond.instanceMethod ({ cls := "java/util/ArrayList", name := "grow", desc := "(I)[Ljava/lang/Object;" } : MethodName)) ∈ zws := zws_t 392 (by decide +kernel) (by decide +kernel)
theorem wd_393 : (Cond.code ({ cls := "java/util/ArrayList", name := "grow", desc := "(I)[Ljava/lang/Object;" } : MethodName) prog_16_method_6_code (4 : Nat) (Option.some (FieldType.array (FieldType.object "java/lang/Object")))) ∈ zws := zws_t 393 (by decide +kernel) (by decide +kernel)
theorem wd_394 : (Cond.methodLink "java/util/ArrayList" (73 : Nat) ({ cls := "jdk/internal/util/ArraysSupport", name := "newLength", desc := "(III)I" } : MethodName)) ∈ zws := zws_t 394 (by decide +kernel) (by decide +kernel)
theorem wd_395 : (Cond.static ({ cls := "jdk/internal/util/ArraysSupport", name := "newLength", desc := "(III)I" } : MethodName)) ∈ zws := zws_t 395 (by decide +kernel) (by decide +kernel)
theorem wd_396 : (Cond.code ({ cls := "jdk/internal/util/ArraysSupport", name := "newLength", desc := "(III)I" } : MethodName) prog_23_method_27_code (4 : Nat) (Option.some FieldType.int)) ∈ zws := zws_t 396 (by decide +kernel) (by decide +kernel)
theorem wd_397 : (Cond.methodLink "jdk/internal/util/ArraysSupport" (194 : Nat) ({ cls := "java/lang/Math", name := "max", desc := "(II)I" } : MethodName)) ∈ zws := zws_t 397 (by decide +kernel) (by decide +kernel)
theorem wd_398 : (Cond.constant "jdk/internal/util/ArraysSupport" (200 : Nat) (2147483639 : Int32)) ∈ zws := zws_t 398 (by decide +kernel) (by decide +kernel)
theorem wd_399 : (Cond.methodLink "jdk/internal/util/ArraysSupport" (201 : Nat) ({ cls := "jdk/internal/util/ArraysSupport", name := "hugeLength", desc := "(II)I" } : MethodName)) ∈ zws := zws_t 399 (by decide +kernel) (by decide +kernel)
theorem wd_400 : (Cond.static ({ cls := "jdk/internal/util/ArraysSupport", name := "hugeLength", desc := "(II)I" } : MethodName)) ∈ zws := zws_t 400 (by decide +kernel) (by decide +kernel)
theorem wd_401 : (Cond.code ({ cls := "jdk/internal/util/ArraysSupport", name := "hugeLength", desc := "(II)I" } : MethodName) prog_23_method_28_code (3 : Nat) (Option.some FieldType.int)) ∈ zws := zws_t 401 (by decide +kernel) (by decide +kernel)
theorem wd_402 : (Cond.methodLink "java/util/ArrayList" (66 : Nat) ({ cls := "java/util/Arrays", name := "copyOf", desc := "([Ljava/lang/Object;I)[Ljava/lang/Object;" } : MethodName)) ∈ zws := zws_t 402 (by decide +kernel) (by decide +kernel)
theorem wd_403 : (Cond.static ({ cls := "java/util/Arrays", name := "copyOf", desc := "([Ljava/lang/Object;I)[Ljava/lang/Object;" } : MethodName)) ∈ zws := zws_t 403 (by decide +kernel) (by decide +kernel)
theorem wd_404 : (Cond.code ({ cls := "java/util/Arrays", name := "copyOf", desc := "([Ljava/lang/Object;I)[Ljava/lang/Object;" } : MethodName) prog_17_method_119_code (2 : Nat) (Option.some (FieldType.array (FieldType.object "java/lang/Object")))) ∈ zws := zws_t 404 (by decide +kernel) (by decide +kernel)
theorem wd_405 : (Cond.methodLink "java/util/Arrays" (86 : Nat) ({ cls := "java/lang/Object", name := "getClass", desc := "()Ljava/lang/Class;" } : MethodName)) ∈ zws := zws_t 405 (by decide +kernel) (by decide +kernel)
theorem wd_406 : (Cond.instanceMethod ({ cls := "java/lang/Object", name := "getClass", desc := "()Ljava/lang/Class;" } : MethodName)) ∈ zws := zws_t 406 (by decide +kernel) (by decide +kernel)
theorem wd_408 : (Cond.selects "PageRescue" ({ cls := "java/lang/Object", name := "getClass", desc := "()Ljava/lang/Class;" } : MethodName) ({ cls := "java/lang/Object", name := "getClass", desc := "()Ljava/lang/Class;" } : MethodName)) ∈ zws := zws_t 408 (by decide +kernel) (by decide +kernel)
theorem wd_409 : (Cond.selects "PageRescue$Backup" ({ cls := "java/lang/Object", name := "getClass", desc := "()Ljava/lang/Class;" } : MethodName) ({ cls := "java/lang/Object", name := "getClass", desc := "()Ljava/lang/Class;" } : MethodName)) ∈ zws := zws_t 409 (by decide +kernel) (by decide +kernel)
theorem wd_410 : (Cond.selects "PageRescue$Backups" ({ cls := "java/lang/Object", name := "getClass", desc := "()Ljava/lang/Class;" } : MethodName) ({ cls := "java/lang/Object", name := "getClass", desc := "()Ljava/lang/Class;" } : MethodName)) ∈ zws := zws_t 410 (by decide +kernel) (by decide +kernel)
theorem wd_411 : (Cond.selects "PageRescue$Disk" ({ cls := "java/lang/Object", name := "getClass", desc := "()Ljava/lang/Class;" } : MethodName) ({ cls := "java/lang/Object", name := "getClass", desc := "()Ljava/lang/Class;" } : MethodName)) ∈ zws := zws_t 411 (by decide +kernel) (by decide +kernel)
theorem wd_412 : (Cond.selects "PageRescue$Log" ({ cls := "java/lang/Object", name := "getClass", desc := "()Ljava/lang/Class;" } : MethodName) ({ cls := "java/lang/Object", name := "getClass", desc := "()Ljava/lang/Class;" } : MethodName)) ∈ zws := zws_t 412 (by decide +kernel) (by decide +kernel)
theorem wd_413 : (Cond.selects "PageRescue$Transaction" ({ cls := "java/lang/Object", name := "getClass", desc := "()Ljava/lang/Class;" } : MethodName) ({ cls := "java/lang/Object", name := "getClass", desc := "()Ljava/lang/Class;" } : MethodName)) ∈ zws := zws_t 413 (by decide +kernel) (by decide +kernel)
theorem wd_414 : (Cond.selects "PageRescueModel" ({ cls := "java/lang/Object", name := "getClass", desc := "()Ljava/lang/Class;" } : MethodName) ({ cls := "java/lang/Object", name := "getClass", desc := "()Ljava/lang/Class;" } : MethodName)) ∈ zws := zws_t 414 (by decide +kernel) (by decide +kernel)
theorem wd_415 : (Cond.selects "java/util/ArrayList" ({ cls := "java/lang/Object", name := "getClass", desc := "()Ljava/lang/Class;" } : MethodName) ({ cls := "java/lang/Object", name := "getClass", desc := "()Ljava/lang/Class;" } : MethodName)) ∈ zws := zws_t 415 (by decide +kernel) (by decide +kernel)
theorem wd_416 : (Cond.native ({ cls := "java/lang/Object", name := "getClass", desc := "()Ljava/lang/Class;" } : MethodName)) ∈ zws := zws_t 416 (by decide +kernel) (by decide +kernel)
theorem wd_417 : (Cond.methodLink "java/util/Arrays" (300 : Nat) ({ cls := "java/util/Arrays", name := "copyOf", desc := "([Ljava/lang/Object;ILjava/lang/Class;)[Ljava/lang/Object;" } : MethodName)) ∈ zws := zws_t 417 (by decide +kernel) (by decide +kernel)
theorem wd_418 : (Cond.static ({ cls := "java/util/Arrays", name := "copyOf", desc := "([Ljava/lang/Object;ILjava/lang/Class;)[Ljava/lang/Object;" } : MethodName)) ∈ zws := zws_t 418 (by decide +kernel) (by decide +kernel)
theorem wd_419 : (Cond.code ({ cls := "java/util/Arrays", name := "copyOf", desc := "([Ljava/lang/Object;ILjava/lang/Class;)[Ljava/lang/Object;" } : MethodName) prog_17_method_120_code (4 : Nat) (Option.some (FieldType.array (FieldType.object "java/lang/Object")))) ∈ zws := zws_t 419 (by decide +kernel) (by decide +kernel)
theorem wd_420 : (Cond.classLink "java/util/Arrays" (110 : Nat) "[Ljava/lang/Object;") ∈ zws := zws_t 420 (by decide +kernel) (by decide +kernel)
theorem wd_422 : (Cond.classLink "java/util/Arrays" (2 : Nat) "java/lang/Object") ∈ zws := zws_t 422 (by decide +kernel) (by decide +kernel)
theorem wd_423 : (Cond.methodLink "java/util/Arrays" (304 : Nat) ({ cls := "java/lang/Math", name := "min", desc := "(II)I" } : MethodName)) ∈ zws := zws_t 423 (by decide +kernel) (by decide +kernel)
theorem wd_424 : (Cond.methodLink "java/util/Arrays" (150 : Nat) ({ cls := "java/lang/System", name := "arraycopy", desc := "(Ljava/lang/Object;ILjava/lang/Object;II)V" } : MethodName)) ∈ zws := zws_t 424 (by decide +kernel) (by decide +kernel)
theorem wd_425 : (Cond.static ({ cls := "java/lang/System", name := "arraycopy", desc := "(Ljava/lang/Object;ILjava/lang/Object;II)V" } : MethodName)) ∈ zws := zws_t 425 (by decide +kernel) (by decide +kernel)
theorem wd_426 : (Cond.native ({ cls := "java/lang/System", name := "arraycopy", desc := "(Ljava/lang/Object;ILjava/lang/Object;II)V" } : MethodName)) ∈ zws := zws_t 426 (by decide +kernel) (by decide +kernel)
theorem wd_427 : (Cond.methodLink "java/util/ArrayList" (79 : Nat) ({ cls := "java/lang/Math", name := "max", desc := "(II)I" } : MethodName)) ∈ zws := zws_t 427 (by decide +kernel) (by decide +kernel)
theorem wd_428 : (Cond.classLink "java/util/ArrayList" (7 : Nat) "java/lang/Object") ∈ zws := zws_t 428 (by decide +kernel) (by decide +kernel)
theorem wd_429 : (Cond.methodLink "PageRescue$Backups" (99 : Nat) ({ cls := "PageRescue$Backups", name := "dropOldest", desc := "()V" } : MethodName)) ∈ zws := zws_t 429 (by decide +kernel) (by decide +kernel)
theorem wd_431 : (Cond.instanceMethod ({ cls := "PageRescue$Backups", name := "dropOldest", desc := "()V" } : MethodName)) ∈ zws := zws_t 431 (by decide +kernel) (by decide +kernel)
theorem wd_432 : (Cond.code ({ cls := "PageRescue$Backups", name := "dropOldest", desc := "()V" } : MethodName) prog_3_method_11_code (1 : Nat) (Option.none : Option FieldType)) ∈ zws := zws_t 432 (by decide +kernel) (by decide +kernel)
theorem wd_433 : (Cond.methodLink "PageRescue$Backups" (102 : Nat) ({ cls := "PageRescue$Log", name := "purgeUpTo", desc := "(I)V" } : MethodName)) ∈ zws := zws_t 433 (by decide +kernel) (by decide +kernel)
theorem wd_434 : (Cond.instanceMethod ({ cls := "PageRescue$Log", name := "purgeUpTo", desc := "(I)V" } : MethodName)) ∈ zws := zws_t 434 (by decide +kernel) (by decide +kernel)
theorem wd_435 : (Cond.selects "PageRescue$Log" ({ cls := "PageRescue$Log", name := "purgeUpTo", desc := "(I)V" } : MethodName) ({ cls := "PageRescue$Log", name := "purgeUpTo", desc := "(I)V" } : MethodName)) ∈ zws := zws_t 435 (by decide +kernel) (by decide +kernel)
theorem wd_436 : (Cond.code ({ cls := "PageRescue$Log", name := "purgeUpTo", desc := "(I)V" } : MethodName) prog_5_method_15_code (2 : Nat) (Option.none : Option FieldType)) ∈ zws := zws_t 436 (by decide +kernel) (by decide +kernel)
theorem wd_437 : (Cond.methodLink "PageRescue$Log" (59 : Nat) ({ cls := "java/lang/Math", name := "max", desc := "(II)I" } : MethodName)) ∈ zws := zws_t 437 (by decide +kernel) (by decide +kernel)
theorem wd_438 : (Cond.methodLink "PageRescueLaw" (62 : Nat) ({ cls := "PageRescue", name := "crash", desc := "(I)I" } : MethodName)) ∈ zws := zws_t 438 (by decide +kernel) (by decide +kernel)
theorem wd_439 : (Cond.instanceMethod ({ cls := "PageRescue", name := "crash", desc := "(I)I" } : MethodName)) ∈ zws := zws_t 439 (by decide +kernel) (by decide +kernel)
theorem wd_440 : (Cond.selects "PageRescue" ({ cls := "PageRescue", name := "crash", desc := "(I)I" } : MethodName) ({ cls := "PageRescue", name := "crash", desc := "(I)I" } : MethodName)) ∈ zws := zws_t 440 (by decide +kernel) (by decide +kernel)
theorem wd_441 : (Cond.code ({ cls := "PageRescue", name := "crash", desc := "(I)I" } : MethodName) prog_1_method_11_code (2 : Nat) (Option.some FieldType.int)) ∈ zws := zws_t 441 (by decide +kernel) (by decide +kernel)
theorem wd_442 : (Cond.methodLink "PageRescue" (132 : Nat) ({ cls := "PageRescue$Disk", name := "tear", desc := "(I)V" } : MethodName)) ∈ zws := zws_t 442 (by decide +kernel) (by decide +kernel)
theorem wd_443 : (Cond.instanceMethod ({ cls := "PageRescue$Disk", name := "tear", desc := "(I)V" } : MethodName)) ∈ zws := zws_t 443 (by decide +kernel) (by decide +kernel)
theorem wd_444 : (Cond.selects "PageRescue$Disk" ({ cls := "PageRescue$Disk", name := "tear", desc := "(I)V" } : MethodName) ({ cls := "PageRescue$Disk", name := "tear", desc := "(I)V" } : MethodName)) ∈ zws := zws_t 444 (by decide +kernel) (by decide +kernel)
theorem wd_445 : (Cond.code ({ cls := "PageRescue$Disk", name := "tear", desc := "(I)V" } : MethodName) prog_4_method_3_code (2 : Nat) (Option.none : Option FieldType)) ∈ zws := zws_t 445 (by decide +kernel) (by decide +kernel)
theorem wd_446 : (Cond.methodLink "PageRescue" (135 : Nat) ({ cls := "PageRescue", name := "recover", desc := "()I" } : MethodName)) ∈ zws := zws_t 446 (by decide +kernel) (by decide +kernel)
theorem wd_448 : (Cond.instanceMethod ({ cls := "PageRescue", name := "recover", desc := "()I" } : MethodName)) ∈ zws := zws_t 448 (by decide +kernel) (by decide +kernel)
theorem wd_449 : (Cond.code ({ cls := "PageRescue", name := "recover", desc := "()I" } : MethodName) prog_1_method_18_code (2 : Nat) (Option.some FieldType.int)) ∈ zws := zws_t 449 (by decide +kernel) (by decide +kernel)
theorem wd_450 : (Cond.methodLink "PageRescue" (203 : Nat) ({ cls := "PageRescue$Backups", name := "giveUp", desc := "()V" } : MethodName)) ∈ zws := zws_t 450 (by decide +kernel) (by decide +kernel)
theorem wd_451 : (Cond.instanceMethod ({ cls := "PageRescue$Backups", name := "giveUp", desc := "()V" } : MethodName)) ∈ zws := zws_t 451 (by decide +kernel) (by decide +kernel)
theorem wd_452 : (Cond.selects "PageRescue$Backups" ({ cls := "PageRescue$Backups", name := "giveUp", desc := "()V" } : MethodName) ({ cls := "PageRescue$Backups", name := "giveUp", desc := "()V" } : MethodName)) ∈ zws := zws_t 452 (by decide +kernel) (by decide +kernel)
theorem wd_453 : (Cond.code ({ cls := "PageRescue$Backups", name := "giveUp", desc := "()V" } : MethodName) prog_3_method_7_code (1 : Nat) (Option.none : Option FieldType)) ∈ zws := zws_t 453 (by decide +kernel) (by decide +kernel)
theorem wd_454 : (Cond.methodLink "PageRescue" (206 : Nat) ({ cls := "PageRescue$Disk", name := "bestNumberOf", desc := "(I)I" } : MethodName)) ∈ zws := zws_t 454 (by decide +kernel) (by decide +kernel)
theorem wd_455 : (Cond.instanceMethod ({ cls := "PageRescue$Disk", name := "bestNumberOf", desc := "(I)I" } : MethodName)) ∈ zws := zws_t 455 (by decide +kernel) (by decide +kernel)
theorem wd_456 : (Cond.selects "PageRescue$Disk" ({ cls := "PageRescue$Disk", name := "bestNumberOf", desc := "(I)I" } : MethodName) ({ cls := "PageRescue$Disk", name := "bestNumberOf", desc := "(I)I" } : MethodName)) ∈ zws := zws_t 456 (by decide +kernel) (by decide +kernel)
theorem wd_457 : (Cond.code ({ cls := "PageRescue$Disk", name := "bestNumberOf", desc := "(I)I" } : MethodName) prog_4_method_6_code (2 : Nat) (Option.some FieldType.int)) ∈ zws := zws_t 457 (by decide +kernel) (by decide +kernel)
theorem wd_458 : (Cond.methodLink "PageRescue" (209 : Nat) ({ cls := "PageRescue$Backups", name := "bestNumberOf", desc := "(I)I" } : MethodName)) ∈ zws := zws_t 458 (by decide +kernel) (by decide +kernel)
theorem wd_459 : (Cond.instanceMethod ({ cls := "PageRescue$Backups", name := "bestNumberOf", desc := "(I)I" } : MethodName)) ∈ zws := zws_t 459 (by decide +kernel) (by decide +kernel)
theorem wd_460 : (Cond.selects "PageRescue$Backups" ({ cls := "PageRescue$Backups", name := "bestNumberOf", desc := "(I)I" } : MethodName) ({ cls := "PageRescue$Backups", name := "bestNumberOf", desc := "(I)I" } : MethodName)) ∈ zws := zws_t 460 (by decide +kernel) (by decide +kernel)
theorem wd_461 : (Cond.code ({ cls := "PageRescue$Backups", name := "bestNumberOf", desc := "(I)I" } : MethodName) prog_3_method_13_code (4 : Nat) (Option.some FieldType.int)) ∈ zws := zws_t 461 (by decide +kernel) (by decide +kernel)
theorem wd_462 : (Cond.methodLink "PageRescue$Backups" (110 : Nat) ({ cls := "PageRescue$Backup", name := "imageNumberOf", desc := "(I)I" } : MethodName)) ∈ zws := zws_t 462 (by decide +kernel) (by decide +kernel)
theorem wd_463 : (Cond.instanceMethod ({ cls := "PageRescue$Backup", name := "imageNumberOf", desc := "(I)I" } : MethodName)) ∈ zws := zws_t 463 (by decide +kernel) (by decide +kernel)
theorem wd_464 : (Cond.selects "PageRescue$Backup" ({ cls := "PageRescue$Backup", name := "imageNumberOf", desc := "(I)I" } : MethodName) ({ cls := "PageRescue$Backup", name := "imageNumberOf", desc := "(I)I" } : MethodName)) ∈ zws := zws_t 464 (by decide +kernel) (by decide +kernel)
theorem wd_465 : (Cond.code ({ cls := "PageRescue$Backup", name := "imageNumberOf", desc := "(I)I" } : MethodName) prog_2_method_4_code (2 : Nat) (Option.some FieldType.int)) ∈ zws := zws_t 465 (by decide +kernel) (by decide +kernel)
theorem wd_466 : (Cond.methodLink "PageRescue$Backups" (113 : Nat) ({ cls := "java/lang/Math", name := "max", desc := "(II)I" } : MethodName)) ∈ zws := zws_t 466 (by decide +kernel) (by decide +kernel)
theorem wd_467 : (Cond.methodLink "PageRescue" (157 : Nat) ({ cls := "PageRescue$Log", name := "changesAbove", desc := "([II)I" } : MethodName)) ∈ zws := zws_t 467 (by decide +kernel) (by decide +kernel)
theorem wd_468 : (Cond.instanceMethod ({ cls := "PageRescue$Log", name := "changesAbove", desc := "([II)I" } : MethodName)) ∈ zws := zws_t 468 (by decide +kernel) (by decide +kernel)
theorem wd_469 : (Cond.selects "PageRescue$Log" ({ cls := "PageRescue$Log", name := "changesAbove", desc := "([II)I" } : MethodName) ({ cls := "PageRescue$Log", name := "changesAbove", desc := "([II)I" } : MethodName)) ∈ zws := zws_t 469 (by decide +kernel) (by decide +kernel)
theorem wd_470 : (Cond.code ({ cls := "PageRescue$Log", name := "changesAbove", desc := "([II)I" } : MethodName) prog_5_method_17_code (6 : Nat) (Option.some FieldType.int)) ∈ zws := zws_t 470 (by decide +kernel) (by decide +kernel)
theorem wd_472 : (Cond.methodLink "PageRescueLaw" (66 : Nat) ({ cls := "PageRescue", name := "lose", desc := "()I" } : MethodName)) ∈ zws := zws_t 472 (by decide +kernel) (by decide +kernel)
theorem wd_473 : (Cond.instanceMethod ({ cls := "PageRescue", name := "lose", desc := "()I" } : MethodName)) ∈ zws := zws_t 473 (by decide +kernel) (by decide +kernel)
theorem wd_474 : (Cond.selects "PageRescue" ({ cls := "PageRescue", name := "lose", desc := "()I" } : MethodName) ({ cls := "PageRescue", name := "lose", desc := "()I" } : MethodName)) ∈ zws := zws_t 474 (by decide +kernel) (by decide +kernel)
theorem wd_475 : (Cond.code ({ cls := "PageRescue", name := "lose", desc := "()I" } : MethodName) prog_1_method_12_code (2 : Nat) (Option.some FieldType.int)) ∈ zws := zws_t 475 (by decide +kernel) (by decide +kernel)
theorem wd_476 : (Cond.methodLink "PageRescueLaw" (70 : Nat) ({ cls := "PageRescue", name := "restore", desc := "(I)I" } : MethodName)) ∈ zws := zws_t 476 (by decide +kernel) (by decide +kernel)
theorem wd_477 : (Cond.instanceMethod ({ cls := "PageRescue", name := "restore", desc := "(I)I" } : MethodName)) ∈ zws := zws_t 477 (by decide +kernel) (by decide +kernel)
theorem wd_478 : (Cond.selects "PageRescue" ({ cls := "PageRescue", name := "restore", desc := "(I)I" } : MethodName) ({ cls := "PageRescue", name := "restore", desc := "(I)I" } : MethodName)) ∈ zws := zws_t 478 (by decide +kernel) (by decide +kernel)
theorem wd_479 : (Cond.code ({ cls := "PageRescue", name := "restore", desc := "(I)I" } : MethodName) prog_1_method_13_code (5 : Nat) (Option.some FieldType.int)) ∈ zws := zws_t 479 (by decide +kernel) (by decide +kernel)
theorem wd_480 : (Cond.methodLink "PageRescue" (138 : Nat) ({ cls := "PageRescue$Log", name := "commits", desc := "()I" } : MethodName)) ∈ zws := zws_t 480 (by decide +kernel) (by decide +kernel)
theorem wd_481 : (Cond.instanceMethod ({ cls := "PageRescue$Log", name := "commits", desc := "()I" } : MethodName)) ∈ zws := zws_t 481 (by decide +kernel) (by decide +kernel)
theorem wd_482 : (Cond.selects "PageRescue$Log" ({ cls := "PageRescue$Log", name := "commits", desc := "()I" } : MethodName) ({ cls := "PageRescue$Log", name := "commits", desc := "()I" } : MethodName)) ∈ zws := zws_t 482 (by decide +kernel) (by decide +kernel)
theorem wd_483 : (Cond.code ({ cls := "PageRescue$Log", name := "commits", desc := "()I" } : MethodName) prog_5_method_3_code (1 : Nat) (Option.some FieldType.int)) ∈ zws := zws_t 483 (by decide +kernel) (by decide +kernel)
theorem wd_484 : (Cond.methodLink "PageRescue" (141 : Nat) ({ cls := "PageRescue$Log", name := "recordOfCommit", desc := "(I)I" } : MethodName)) ∈ zws := zws_t 484 (by decide +kernel) (by decide +kernel)
theorem wd_485 : (Cond.instanceMethod ({ cls := "PageRescue$Log", name := "recordOfCommit", desc := "(I)I" } : MethodName)) ∈ zws := zws_t 485 (by decide +kernel) (by decide +kernel)
theorem wd_486 : (Cond.selects "PageRescue$Log" ({ cls := "PageRescue$Log", name := "recordOfCommit", desc := "(I)I" } : MethodName) ({ cls := "PageRescue$Log", name := "recordOfCommit", desc := "(I)I" } : MethodName)) ∈ zws := zws_t 486 (by decide +kernel) (by decide +kernel)
theorem wd_487 : (Cond.code ({ cls := "PageRescue$Log", name := "recordOfCommit", desc := "(I)I" } : MethodName) prog_5_method_16_code (4 : Nat) (Option.some FieldType.int)) ∈ zws := zws_t 487 (by decide +kernel) (by decide +kernel)
theorem wd_488 : (Cond.methodLink "PageRescue" (144 : Nat) ({ cls := "PageRescue$Backups", name := "latestEndedBefore", desc := "(I)I" } : MethodName)) ∈ zws := zws_t 488 (by decide +kernel) (by decide +kernel)
theorem wd_489 : (Cond.instanceMethod ({ cls := "PageRescue$Backups", name := "latestEndedBefore", desc := "(I)I" } : MethodName)) ∈ zws := zws_t 489 (by decide +kernel) (by decide +kernel)
theorem wd_490 : (Cond.selects "PageRescue$Backups" ({ cls := "PageRescue$Backups", name := "latestEndedBefore", desc := "(I)I" } : MethodName) ({ cls := "PageRescue$Backups", name := "latestEndedBefore", desc := "(I)I" } : MethodName)) ∈ zws := zws_t 490 (by decide +kernel) (by decide +kernel)
theorem wd_491 : (Cond.code ({ cls := "PageRescue$Backups", name := "latestEndedBefore", desc := "(I)I" } : MethodName) prog_3_method_14_code (3 : Nat) (Option.some FieldType.int)) ∈ zws := zws_t 491 (by decide +kernel) (by decide +kernel)
theorem wd_492 : (Cond.methodLink "PageRescue" (147 : Nat) ({ cls := "PageRescue$Log", name := "purged", desc := "()I" } : MethodName)) ∈ zws := zws_t 492 (by decide +kernel) (by decide +kernel)
theorem wd_493 : (Cond.instanceMethod ({ cls := "PageRescue$Log", name := "purged", desc := "()I" } : MethodName)) ∈ zws := zws_t 493 (by decide +kernel) (by decide +kernel)
theorem wd_494 : (Cond.selects "PageRescue$Log" ({ cls := "PageRescue$Log", name := "purged", desc := "()I" } : MethodName) ({ cls := "PageRescue$Log", name := "purged", desc := "()I" } : MethodName)) ∈ zws := zws_t 494 (by decide +kernel) (by decide +kernel)
theorem wd_495 : (Cond.code ({ cls := "PageRescue$Log", name := "purged", desc := "()I" } : MethodName) prog_5_method_5_code (1 : Nat) (Option.some FieldType.int)) ∈ zws := zws_t 495 (by decide +kernel) (by decide +kernel)
theorem wd_496 : (Cond.methodLink "PageRescue" (150 : Nat) ({ cls := "PageRescue$Backups", name := "imageInChain", desc := "(II)I" } : MethodName)) ∈ zws := zws_t 496 (by decide +kernel) (by decide +kernel)
theorem wd_497 : (Cond.instanceMethod ({ cls := "PageRescue$Backups", name := "imageInChain", desc := "(II)I" } : MethodName)) ∈ zws := zws_t 497 (by decide +kernel) (by decide +kernel)
theorem wd_498 : (Cond.selects "PageRescue$Backups" ({ cls := "PageRescue$Backups", name := "imageInChain", desc := "(II)I" } : MethodName) ({ cls := "PageRescue$Backups", name := "imageInChain", desc := "(II)I" } : MethodName)) ∈ zws := zws_t 498 (by decide +kernel) (by decide +kernel)
theorem wd_499 : (Cond.code ({ cls := "PageRescue$Backups", name := "imageInChain", desc := "(II)I" } : MethodName) prog_3_method_15_code (4 : Nat) (Option.some FieldType.int)) ∈ zws := zws_t 499 (by decide +kernel) (by decide +kernel)
theorem wd_500 : (Cond.methodLink "PageRescue$Backups" (106 : Nat) ({ cls := "PageRescue$Backup", name := "hasImageOf", desc := "(I)Z" } : MethodName)) ∈ zws := zws_t 500 (by decide +kernel) (by decide +kernel)
theorem wd_501 : (Cond.instanceMethod ({ cls := "PageRescue$Backup", name := "hasImageOf", desc := "(I)Z" } : MethodName)) ∈ zws := zws_t 501 (by decide +kernel) (by decide +kernel)
theorem wd_502 : (Cond.selects "PageRescue$Backup" ({ cls := "PageRescue$Backup", name := "hasImageOf", desc := "(I)Z" } : MethodName) ({ cls := "PageRescue$Backup", name := "hasImageOf", desc := "(I)Z" } : MethodName)) ∈ zws := zws_t 502 (by decide +kernel) (by decide +kernel)
theorem wd_503 : (Cond.code ({ cls := "PageRescue$Backup", name := "hasImageOf", desc := "(I)Z" } : MethodName) prog_2_method_3_code (2 : Nat) (Option.some FieldType.boolean)) ∈ zws := zws_t 503 (by decide +kernel) (by decide +kernel)
theorem wd_504 : (Cond.methodLink "PageRescue" (153 : Nat) ({ cls := "PageRescue$Log", name := "tableUpTo", desc := "(I[J)V" } : MethodName)) ∈ zws := zws_t 504 (by decide +kernel) (by decide +kernel)
theorem wd_505 : (Cond.instanceMethod ({ cls := "PageRescue$Log", name := "tableUpTo", desc := "(I[J)V" } : MethodName)) ∈ zws := zws_t 505 (by decide +kernel) (by decide +kernel)
theorem wd_506 : (Cond.selects "PageRescue$Log" ({ cls := "PageRescue$Log", name := "tableUpTo", desc := "(I[J)V" } : MethodName) ({ cls := "PageRescue$Log", name := "tableUpTo", desc := "(I[J)V" } : MethodName)) ∈ zws := zws_t 506 (by decide +kernel) (by decide +kernel)
theorem wd_507 : (Cond.code ({ cls := "PageRescue$Log", name := "tableUpTo", desc := "(I[J)V" } : MethodName) prog_5_method_18_code (5 : Nat) (Option.none : Option FieldType)) ∈ zws := zws_t 507 (by decide +kernel) (by decide +kernel)
theorem wd_508 : (Cond.methodLink "PageRescueLaw" (74 : Nat) ({ cls := "PageRescue", name := "look", desc := "(I)J" } : MethodName)) ∈ zws := zws_t 508 (by decide +kernel) (by decide +kernel)
theorem wd_509 : (Cond.instanceMethod ({ cls := "PageRescue", name := "look", desc := "(I)J" } : MethodName)) ∈ zws := zws_t 509 (by decide +kernel) (by decide +kernel)
theorem wd_510 : (Cond.selects "PageRescue" ({ cls := "PageRescue", name := "look", desc := "(I)J" } : MethodName) ({ cls := "PageRescue", name := "look", desc := "(I)J" } : MethodName)) ∈ zws := zws_t 510 (by decide +kernel) (by decide +kernel)
theorem wd_511 : (Cond.code ({ cls := "PageRescue", name := "look", desc := "(I)J" } : MethodName) prog_1_method_14_code (2 : Nat) (Option.some FieldType.long)) ∈ zws := zws_t 511 (by decide +kernel) (by decide +kernel)
theorem wd_512 : (Cond.methodLink "PageRescueLaw" (78 : Nat) ({ cls := "PageRescue", name := "page", desc := "(II)I" } : MethodName)) ∈ zws := zws_t 512 (by decide +kernel) (by decide +kernel)
theorem wd_513 : (Cond.instanceMethod ({ cls := "PageRescue", name := "page", desc := "(II)I" } : MethodName)) ∈ zws := zws_t 513 (by decide +kernel) (by decide +kernel)
theorem wd_514 : (Cond.selects "PageRescue" ({ cls := "PageRescue", name := "page", desc := "(II)I" } : MethodName) ({ cls := "PageRescue", name := "page", desc := "(II)I" } : MethodName)) ∈ zws := zws_t 514 (by decide +kernel) (by decide +kernel)
theorem wd_515 : (Cond.code ({ cls := "PageRescue", name := "page", desc := "(II)I" } : MethodName) prog_1_method_15_code (3 : Nat) (Option.some FieldType.int)) ∈ zws := zws_t 515 (by decide +kernel) (by decide +kernel)
theorem wd_516 : (Cond.methodLink "PageRescue" (161 : Nat) ({ cls := "PageRescue$Disk", name := "numberOf", desc := "(I)I" } : MethodName)) ∈ zws := zws_t 516 (by decide +kernel) (by decide +kernel)
theorem wd_517 : (Cond.instanceMethod ({ cls := "PageRescue$Disk", name := "numberOf", desc := "(I)I" } : MethodName)) ∈ zws := zws_t 517 (by decide +kernel) (by decide +kernel)
theorem wd_518 : (Cond.selects "PageRescue$Disk" ({ cls := "PageRescue$Disk", name := "numberOf", desc := "(I)I" } : MethodName) ({ cls := "PageRescue$Disk", name := "numberOf", desc := "(I)I" } : MethodName)) ∈ zws := zws_t 518 (by decide +kernel) (by decide +kernel)
theorem wd_519 : (Cond.code ({ cls := "PageRescue$Disk", name := "numberOf", desc := "(I)I" } : MethodName) prog_4_method_4_code (2 : Nat) (Option.some FieldType.int)) ∈ zws := zws_t 519 (by decide +kernel) (by decide +kernel)
theorem wd_520 : (Cond.methodLink "PageRescue" (164 : Nat) ({ cls := "PageRescue$Disk", name := "isReadable", desc := "(I)Z" } : MethodName)) ∈ zws := zws_t 520 (by decide +kernel) (by decide +kernel)
theorem wd_521 : (Cond.instanceMethod ({ cls := "PageRescue$Disk", name := "isReadable", desc := "(I)Z" } : MethodName)) ∈ zws := zws_t 521 (by decide +kernel) (by decide +kernel)
theorem wd_522 : (Cond.selects "PageRescue$Disk" ({ cls := "PageRescue$Disk", name := "isReadable", desc := "(I)Z" } : MethodName) ({ cls := "PageRescue$Disk", name := "isReadable", desc := "(I)Z" } : MethodName)) ∈ zws := zws_t 522 (by decide +kernel) (by decide +kernel)
theorem wd_523 : (Cond.code ({ cls := "PageRescue$Disk", name := "isReadable", desc := "(I)Z" } : MethodName) prog_4_method_5_code (2 : Nat) (Option.some FieldType.boolean)) ∈ zws := zws_t 523 (by decide +kernel) (by decide +kernel)
theorem wd_524 : (Cond.methodLink "PageRescue" (167 : Nat) ({ cls := "PageRescue$Backups", name := "keptImagesOf", desc := "(I)I" } : MethodName)) ∈ zws := zws_t 524 (by decide +kernel) (by decide +kernel)
theorem wd_525 : (Cond.instanceMethod ({ cls := "PageRescue$Backups", name := "keptImagesOf", desc := "(I)I" } : MethodName)) ∈ zws := zws_t 525 (by decide +kernel) (by decide +kernel)
theorem wd_526 : (Cond.selects "PageRescue$Backups" ({ cls := "PageRescue$Backups", name := "keptImagesOf", desc := "(I)I" } : MethodName) ({ cls := "PageRescue$Backups", name := "keptImagesOf", desc := "(I)I" } : MethodName)) ∈ zws := zws_t 526 (by decide +kernel) (by decide +kernel)
theorem wd_527 : (Cond.code ({ cls := "PageRescue$Backups", name := "keptImagesOf", desc := "(I)I" } : MethodName) prog_3_method_12_code (4 : Nat) (Option.some FieldType.int)) ∈ zws := zws_t 527 (by decide +kernel) (by decide +kernel)
theorem wd_528 : (Cond.methodLink "PageRescueLaw" (83 : Nat) ({ cls := "PageRescue", name := "ofBackup", desc := "(II)I" } : MethodName)) ∈ zws := zws_t 528 (by decide +kernel) (by decide +kernel)
theorem wd_529 : (Cond.instanceMethod ({ cls := "PageRescue", name := "ofBackup", desc := "(II)I" } : MethodName)) ∈ zws := zws_t 529 (by decide +kernel) (by decide +kernel)
theorem wd_530 : (Cond.selects "PageRescue" ({ cls := "PageRescue", name := "ofBackup", desc := "(II)I" } : MethodName) ({ cls := "PageRescue", name := "ofBackup", desc := "(II)I" } : MethodName)) ∈ zws := zws_t 530 (by decide +kernel) (by decide +kernel)
theorem wd_531 : (Cond.code ({ cls := "PageRescue", name := "ofBackup", desc := "(II)I" } : MethodName) prog_1_method_16_code (4 : Nat) (Option.some FieldType.int)) ∈ zws := zws_t 531 (by decide +kernel) (by decide +kernel)
theorem wd_532 : (Cond.methodLink "PageRescue" (170 : Nat) ({ cls := "PageRescue$Backups", name := "howMany", desc := "()I" } : MethodName)) ∈ zws := zws_t 532 (by decide +kernel) (by decide +kernel)
theorem wd_533 : (Cond.methodLink "PageRescue" (173 : Nat) ({ cls := "PageRescue$Backups", name := "numbered", desc := "(I)LPageRescue$Backup;" } : MethodName)) ∈ zws := zws_t 533 (by decide +kernel) (by decide +kernel)
theorem wd_534 : (Cond.methodLink "PageRescue" (177 : Nat) ({ cls := "PageRescue$Backups", name := "isKept", desc := "(I)Z" } : MethodName)) ∈ zws := zws_t 534 (by decide +kernel) (by decide +kernel)
theorem wd_535 : (Cond.instanceMethod ({ cls := "PageRescue$Backups", name := "isKept", desc := "(I)Z" } : MethodName)) ∈ zws := zws_t 535 (by decide +kernel) (by decide +kernel)
theorem wd_536 : (Cond.selects "PageRescue$Backups" ({ cls := "PageRescue$Backups", name := "isKept", desc := "(I)Z" } : MethodName) ({ cls := "PageRescue$Backups", name := "isKept", desc := "(I)Z" } : MethodName)) ∈ zws := zws_t 536 (by decide +kernel) (by decide +kernel)
theorem wd_537 : (Cond.code ({ cls := "PageRescue$Backups", name := "isKept", desc := "(I)Z" } : MethodName) prog_3_method_4_code (2 : Nat) (Option.some FieldType.boolean)) ∈ zws := zws_t 537 (by decide +kernel) (by decide +kernel)
theorem wd_538 : (Cond.methodLink "PageRescueLaw" (87 : Nat) ({ cls := "PageRescue", name := "count", desc := "(I)I" } : MethodName)) ∈ zws := zws_t 538 (by decide +kernel) (by decide +kernel)
theorem wd_539 : (Cond.instanceMethod ({ cls := "PageRescue", name := "count", desc := "(I)I" } : MethodName)) ∈ zws := zws_t 539 (by decide +kernel) (by decide +kernel)
theorem wd_540 : (Cond.selects "PageRescue" ({ cls := "PageRescue", name := "count", desc := "(I)I" } : MethodName) ({ cls := "PageRescue", name := "count", desc := "(I)I" } : MethodName)) ∈ zws := zws_t 540 (by decide +kernel) (by decide +kernel)
theorem wd_541 : (Cond.code ({ cls := "PageRescue", name := "count", desc := "(I)I" } : MethodName) prog_1_method_17_code (2 : Nat) (Option.some FieldType.int)) ∈ zws := zws_t 541 (by decide +kernel) (by decide +kernel)
theorem wd_542 : (Cond.methodLink "PageRescue" (194 : Nat) ({ cls := "PageRescue$Log", name := "online", desc := "()I" } : MethodName)) ∈ zws := zws_t 542 (by decide +kernel) (by decide +kernel)
theorem wd_543 : (Cond.instanceMethod ({ cls := "PageRescue$Log", name := "online", desc := "()I" } : MethodName)) ∈ zws := zws_t 543 (by decide +kernel) (by decide +kernel)
theorem wd_544 : (Cond.selects "PageRescue$Log" ({ cls := "PageRescue$Log", name := "online", desc := "()I" } : MethodName) ({ cls := "PageRescue$Log", name := "online", desc := "()I" } : MethodName)) ∈ zws := zws_t 544 (by decide +kernel) (by decide +kernel)
theorem wd_545 : (Cond.code ({ cls := "PageRescue$Log", name := "online", desc := "()I" } : MethodName) prog_5_method_9_code (2 : Nat) (Option.some FieldType.int)) ∈ zws := zws_t 545 (by decide +kernel) (by decide +kernel)
theorem wd_546 : (Cond.methodLink "PageRescue" (197 : Nat) ({ cls := "PageRescue$Log", name := "archived", desc := "()I" } : MethodName)) ∈ zws := zws_t 546 (by decide +kernel) (by decide +kernel)
theorem wd_547 : (Cond.instanceMethod ({ cls := "PageRescue$Log", name := "archived", desc := "()I" } : MethodName)) ∈ zws := zws_t 547 (by decide +kernel) (by decide +kernel)
theorem wd_548 : (Cond.selects "PageRescue$Log" ({ cls := "PageRescue$Log", name := "archived", desc := "()I" } : MethodName) ({ cls := "PageRescue$Log", name := "archived", desc := "()I" } : MethodName)) ∈ zws := zws_t 548 (by decide +kernel) (by decide +kernel)
theorem wd_549 : (Cond.code ({ cls := "PageRescue$Log", name := "archived", desc := "()I" } : MethodName) prog_5_method_4_code (1 : Nat) (Option.some FieldType.int)) ∈ zws := zws_t 549 (by decide +kernel) (by decide +kernel)
theorem wd_550 : (Cond.methodLink "PageRescue" (200 : Nat) ({ cls := "PageRescue$Backups", name := "stillToVisit", desc := "()I" } : MethodName)) ∈ zws := zws_t 550 (by decide +kernel) (by decide +kernel)
theorem wd_551 : (Cond.instanceMethod ({ cls := "PageRescue$Backups", name := "stillToVisit", desc := "()I" } : MethodName)) ∈ zws := zws_t 551 (by decide +kernel) (by decide +kernel)
theorem wd_552 : (Cond.selects "PageRescue$Backups" ({ cls := "PageRescue$Backups", name := "stillToVisit", desc := "()I" } : MethodName) ({ cls := "PageRescue$Backups", name := "stillToVisit", desc := "()I" } : MethodName)) ∈ zws := zws_t 552 (by decide +kernel) (by decide +kernel)
theorem wd_553 : (Cond.code ({ cls := "PageRescue$Backups", name := "stillToVisit", desc := "()I" } : MethodName) prog_3_method_5_code (1 : Nat) (Option.some FieldType.int)) ∈ zws := zws_t 553 (by decide +kernel) (by decide +kernel)
theorem wd_554 : (Cond.methodLink "PageRescueLaw" (9 : Nat) ({ cls := "PageRescueLaw", name := "cell", desc := "([II)I" } : MethodName)) ∈ zws := zws_t 554 (by decide +kernel) (by decide +kernel)
theorem wd_555 : (Cond.static ({ cls := "PageRescueLaw", name := "cell", desc := "([II)I" } : MethodName)) ∈ zws := zws_t 555 (by decide +kernel) (by decide +kernel)
theorem wd_556 : (Cond.code ({ cls := "PageRescueLaw", name := "cell", desc := "([II)I" } : MethodName) method_2_code (2 : Nat) (Option.some FieldType.int)) ∈ zws := zws_t 556 (by decide +kernel) (by decide +kernel)
theorem wd_557 : (Cond.classLink "PageRescueLaw" (18 : Nat) "PageRescueModel") ∈ zws := zws_t 557 (by decide +kernel) (by decide +kernel)
theorem wd_558 : (Cond.instantiable "PageRescueModel" (21 : Nat)) ∈ zws := zws_t 558 (by decide +kernel) (by decide +kernel)
theorem wd_559 : (Cond.methodLink "PageRescueLaw" (20 : Nat) ({ cls := "PageRescueModel", name := "<init>", desc := "(II)V" } : MethodName)) ∈ zws := zws_t 559 (by decide +kernel) (by decide +kernel)
theorem wd_560 : (Cond.instanceMethod ({ cls := "PageRescueModel", name := "<init>", desc := "(II)V" } : MethodName)) ∈ zws := zws_t 560 (by decide +kernel) (by decide +kernel)
theorem wd_561 : (Cond.code ({ cls := "PageRescueModel", name := "<init>", desc := "(II)V" } : MethodName) prog_8_method_1_code (4 : Nat) (Option.none : Option FieldType)) ∈ zws := zws_t 561 (by decide +kernel) (by decide +kernel)
theorem wd_562 : (Cond.methodLink "PageRescueModel" (1 : Nat) ({ cls := "java/lang/Object", name := "<init>", desc := "()V" } : MethodName)) ∈ zws := zws_t 562 (by decide +kernel) (by decide +kernel)
theorem wd_563 : (Cond.fieldLink "PageRescueModel" (51 : Nat) "PageRescueModel" "size" "I") ∈ zws := zws_t 563 (by decide +kernel) (by decide +kernel)
theorem wd_564 : (Cond.fieldLink "PageRescueModel" (54 : Nat) "PageRescueModel" "keep" "I") ∈ zws := zws_t 564 (by decide +kernel) (by decide +kernel)
theorem wd_565 : (Cond.fieldLink "PageRescueModel" (7 : Nat) "PageRescueModel" "key" "[I") ∈ zws := zws_t 565 (by decide +kernel) (by decide +kernel)
theorem wd_566 : (Cond.fieldLink "PageRescueModel" (13 : Nat) "PageRescueModel" "value" "[I") ∈ zws := zws_t 566 (by decide +kernel) (by decide +kernel)
theorem wd_567 : (Cond.fieldLink "PageRescueModel" (16 : Nat) "PageRescueModel" "has" "[Z") ∈ zws := zws_t 567 (by decide +kernel) (by decide +kernel)
theorem wd_568 : (Cond.fieldLink "PageRescueModel" (57 : Nat) "PageRescueModel" "records" "I") ∈ zws := zws_t 568 (by decide +kernel) (by decide +kernel)
theorem wd_569 : (Cond.fieldLink "PageRescueModel" (76 : Nat) "PageRescueModel" "open" "Z") ∈ zws := zws_t 569 (by decide +kernel) (by decide +kernel)
theorem wd_570 : (Cond.fieldLink "PageRescueModel" (20 : Nat) "PageRescueModel" "mine" "[I") ∈ zws := zws_t 570 (by decide +kernel) (by decide +kernel)
theorem wd_571 : (Cond.fieldLink "PageRescueModel" (65 : Nat) "PageRescueModel" "changes" "I") ∈ zws := zws_t 571 (by decide +kernel) (by decide +kernel)
theorem wd_572 : (Cond.fieldLink "PageRescueModel" (62 : Nat) "PageRescueModel" "archived" "I") ∈ zws := zws_t 572 (by decide +kernel) (by decide +kernel)
theorem wd_573 : (Cond.fieldLink "PageRescueModel" (109 : Nat) "PageRescueModel" "purged" "I") ∈ zws := zws_t 573 (by decide +kernel) (by decide +kernel)
theorem wd_574 : (Cond.fieldLink "PageRescueModel" (23 : Nat) "PageRescueModel" "image" "[I") ∈ zws := zws_t 574 (by decide +kernel) (by decide +kernel)
theorem wd_575 : (Cond.fieldLink "PageRescueModel" (26 : Nat) "PageRescueModel" "readable" "[Z") ∈ zws := zws_t 575 (by decide +kernel) (by decide +kernel)
theorem wd_576 : (Cond.fieldLink "PageRescueModel" (29 : Nat) "PageRescueModel" "kept" "[Z") ∈ zws := zws_t 576 (by decide +kernel) (by decide +kernel)
theorem wd_577 : (Cond.fieldLink "PageRescueModel" (32 : Nat) "PageRescueModel" "full" "[Z") ∈ zws := zws_t 577 (by decide +kernel) (by decide +kernel)
theorem wd_578 : (Cond.fieldLink "PageRescueModel" (35 : Nat) "PageRescueModel" "start" "[I") ∈ zws := zws_t 578 (by decide +kernel) (by decide +kernel)
theorem wd_579 : (Cond.fieldLink "PageRescueModel" (38 : Nat) "PageRescueModel" "end" "[I") ∈ zws := zws_t 579 (by decide +kernel) (by decide +kernel)
theorem wd_580 : (Cond.fieldLink "PageRescueModel" (41 : Nat) "PageRescueModel" "copy" "[I") ∈ zws := zws_t 580 (by decide +kernel) (by decide +kernel)
theorem wd_581 : (Cond.fieldLink "PageRescueModel" (100 : Nat) "PageRescueModel" "backups" "I") ∈ zws := zws_t 581 (by decide +kernel) (by decide +kernel)
theorem wd_582 : (Cond.fieldLink "PageRescueModel" (44 : Nat) "PageRescueModel" "left" "I") ∈ zws := zws_t 582 (by decide +kernel) (by decide +kernel)
theorem wd_583 : (Cond.fieldLink "PageRescueModel" (48 : Nat) "PageRescueModel" "scratch" "I") ∈ zws := zws_t 583 (by decide +kernel) (by decide +kernel)
theorem wd_627 : (Cond.methodLink "PageRescueLaw" (25 : Nat) ({ cls := "PageRescueModel", name := "begin", desc := "()I" } : MethodName)) ∈ zws := zws_t 627 (by decide +kernel) (by decide +kernel)
theorem wd_628 : (Cond.instanceMethod ({ cls := "PageRescueModel", name := "begin", desc := "()I" } : MethodName)) ∈ zws := zws_t 628 (by decide +kernel) (by decide +kernel)
theorem wd_629 : (Cond.selects "PageRescueModel" ({ cls := "PageRescueModel", name := "begin", desc := "()I" } : MethodName) ({ cls := "PageRescueModel", name := "begin", desc := "()I" } : MethodName)) ∈ zws := zws_t 629 (by decide +kernel) (by decide +kernel)
theorem wd_630 : (Cond.code ({ cls := "PageRescueModel", name := "begin", desc := "()I" } : MethodName) prog_8_method_10_code (1 : Nat) (Option.some FieldType.int)) ∈ zws := zws_t 630 (by decide +kernel) (by decide +kernel)
theorem wd_631 : (Cond.methodLink "PageRescueLaw" (30 : Nat) ({ cls := "PageRescueModel", name := "put", desc := "(IIZ)I" } : MethodName)) ∈ zws := zws_t 631 (by decide +kernel) (by decide +kernel)
theorem wd_632 : (Cond.instanceMethod ({ cls := "PageRescueModel", name := "put", desc := "(IIZ)I" } : MethodName)) ∈ zws := zws_t 632 (by decide +kernel) (by decide +kernel)
theorem wd_633 : (Cond.selects "PageRescueModel" ({ cls := "PageRescueModel", name := "put", desc := "(IIZ)I" } : MethodName) ({ cls := "PageRescueModel", name := "put", desc := "(IIZ)I" } : MethodName)) ∈ zws := zws_t 633 (by decide +kernel) (by decide +kernel)
theorem wd_634 : (Cond.code ({ cls := "PageRescueModel", name := "put", desc := "(IIZ)I" } : MethodName) prog_8_method_11_code (4 : Nat) (Option.some FieldType.int)) ∈ zws := zws_t 634 (by decide +kernel) (by decide +kernel)
theorem wd_635 : (Cond.methodLink "PageRescueModel" (80 : Nat) ({ cls := "PageRescueModel", name := "in", desc := "(II)Z" } : MethodName)) ∈ zws := zws_t 635 (by decide +kernel) (by decide +kernel)
theorem wd_636 : (Cond.static ({ cls := "PageRescueModel", name := "in", desc := "(II)Z" } : MethodName)) ∈ zws := zws_t 636 (by decide +kernel) (by decide +kernel)
theorem wd_637 : (Cond.code ({ cls := "PageRescueModel", name := "in", desc := "(II)Z" } : MethodName) prog_8_method_2_code (2 : Nat) (Option.some FieldType.boolean)) ∈ zws := zws_t 637 (by decide +kernel) (by decide +kernel)
theorem wd_638 : (Cond.methodLink "PageRescueModel" (84 : Nat) ({ cls := "PageRescueModel", name := "room", desc := "()I" } : MethodName)) ∈ zws := zws_t 638 (by decide +kernel) (by decide +kernel)
theorem wd_640 : (Cond.instanceMethod ({ cls := "PageRescueModel", name := "room", desc := "()I" } : MethodName)) ∈ zws := zws_t 640 (by decide +kernel) (by decide +kernel)
theorem wd_641 : (Cond.code ({ cls := "PageRescueModel", name := "room", desc := "()I" } : MethodName) prog_8_method_5_code (1 : Nat) (Option.some FieldType.int)) ∈ zws := zws_t 641 (by decide +kernel) (by decide +kernel)
theorem wd_642 : (Cond.methodLink "PageRescueModel" (72 : Nat) ({ cls := "PageRescueModel", name := "log", desc := "(IIZ)I" } : MethodName)) ∈ zws := zws_t 642 (by decide +kernel) (by decide +kernel)
theorem wd_644 : (Cond.instanceMethod ({ cls := "PageRescueModel", name := "log", desc := "(IIZ)I" } : MethodName)) ∈ zws := zws_t 644 (by decide +kernel) (by decide +kernel)
theorem wd_645 : (Cond.code ({ cls := "PageRescueModel", name := "log", desc := "(IIZ)I" } : MethodName) prog_8_method_3_code (4 : Nat) (Option.some FieldType.int)) ∈ zws := zws_t 645 (by decide +kernel) (by decide +kernel)
theorem wd_646 : (Cond.methodLink "PageRescueLaw" (34 : Nat) ({ cls := "PageRescueModel", name := "commit", desc := "()I" } : MethodName)) ∈ zws := zws_t 646 (by decide +kernel) (by decide +kernel)
theorem wd_647 : (Cond.instanceMethod ({ cls := "PageRescueModel", name := "commit", desc := "()I" } : MethodName)) ∈ zws := zws_t 647 (by decide +kernel) (by decide +kernel)
theorem wd_648 : (Cond.selects "PageRescueModel" ({ cls := "PageRescueModel", name := "commit", desc := "()I" } : MethodName) ({ cls := "PageRescueModel", name := "commit", desc := "()I" } : MethodName)) ∈ zws := zws_t 648 (by decide +kernel) (by decide +kernel)
theorem wd_649 : (Cond.code ({ cls := "PageRescueModel", name := "commit", desc := "()I" } : MethodName) prog_8_method_13_code (2 : Nat) (Option.some FieldType.int)) ∈ zws := zws_t 649 (by decide +kernel) (by decide +kernel)
theorem wd_650 : (Cond.methodLink "PageRescueModel" (88 : Nat) ({ cls := "PageRescueModel", name := "commits", desc := "()I" } : MethodName)) ∈ zws := zws_t 650 (by decide +kernel) (by decide +kernel)
theorem wd_652 : (Cond.instanceMethod ({ cls := "PageRescueModel", name := "commits", desc := "()I" } : MethodName)) ∈ zws := zws_t 652 (by decide +kernel) (by decide +kernel)
theorem wd_653 : (Cond.code ({ cls := "PageRescueModel", name := "commits", desc := "()I" } : MethodName) prog_8_method_12_code (3 : Nat) (Option.some FieldType.int)) ∈ zws := zws_t 653 (by decide +kernel) (by decide +kernel)
theorem wd_654 : (Cond.methodLink "PageRescueLaw" (38 : Nat) ({ cls := "PageRescueModel", name := "abort", desc := "()I" } : MethodName)) ∈ zws := zws_t 654 (by decide +kernel) (by decide +kernel)
theorem wd_655 : (Cond.instanceMethod ({ cls := "PageRescueModel", name := "abort", desc := "()I" } : MethodName)) ∈ zws := zws_t 655 (by decide +kernel) (by decide +kernel)
theorem wd_656 : (Cond.selects "PageRescueModel" ({ cls := "PageRescueModel", name := "abort", desc := "()I" } : MethodName) ({ cls := "PageRescueModel", name := "abort", desc := "()I" } : MethodName)) ∈ zws := zws_t 656 (by decide +kernel) (by decide +kernel)
theorem wd_657 : (Cond.code ({ cls := "PageRescueModel", name := "abort", desc := "()I" } : MethodName) prog_8_method_14_code (2 : Nat) (Option.some FieldType.int)) ∈ zws := zws_t 657 (by decide +kernel) (by decide +kernel)
theorem wd_658 : (Cond.methodLink "PageRescueModel" (91 : Nat) ({ cls := "PageRescueModel", name := "undo", desc := "()V" } : MethodName)) ∈ zws := zws_t 658 (by decide +kernel) (by decide +kernel)
theorem wd_660 : (Cond.instanceMethod ({ cls := "PageRescueModel", name := "undo", desc := "()V" } : MethodName)) ∈ zws := zws_t 660 (by decide +kernel) (by decide +kernel)
theorem wd_661 : (Cond.code ({ cls := "PageRescueModel", name := "undo", desc := "()V" } : MethodName) prog_8_method_9_code (5 : Nat) (Option.none : Option FieldType)) ∈ zws := zws_t 661 (by decide +kernel) (by decide +kernel)
theorem wd_662 : (Cond.methodLink "PageRescueModel" (68 : Nat) ({ cls := "PageRescueModel", name := "after", desc := "(II)J" } : MethodName)) ∈ zws := zws_t 662 (by decide +kernel) (by decide +kernel)
theorem wd_664 : (Cond.instanceMethod ({ cls := "PageRescueModel", name := "after", desc := "(II)J" } : MethodName)) ∈ zws := zws_t 664 (by decide +kernel) (by decide +kernel)
theorem wd_665 : (Cond.code ({ cls := "PageRescueModel", name := "after", desc := "(II)J" } : MethodName) prog_8_method_4_code (4 : Nat) (Option.some FieldType.long)) ∈ zws := zws_t 665 (by decide +kernel) (by decide +kernel)
theorem wd_666 : (Cond.constantLong "PageRescueModel" (60 : Nat) (1000000000000 : Int64)) ∈ zws := zws_t 666 (by decide +kernel) (by decide +kernel)
theorem wd_667 : (Cond.methodLink "PageRescueLaw" (43 : Nat) ({ cls := "PageRescueModel", name := "get", desc := "(I)J" } : MethodName)) ∈ zws := zws_t 667 (by decide +kernel) (by decide +kernel)
theorem wd_668 : (Cond.instanceMethod ({ cls := "PageRescueModel", name := "get", desc := "(I)J" } : MethodName)) ∈ zws := zws_t 668 (by decide +kernel) (by decide +kernel)
theorem wd_669 : (Cond.selects "PageRescueModel" ({ cls := "PageRescueModel", name := "get", desc := "(I)J" } : MethodName) ({ cls := "PageRescueModel", name := "get", desc := "(I)J" } : MethodName)) ∈ zws := zws_t 669 (by decide +kernel) (by decide +kernel)
theorem wd_670 : (Cond.code ({ cls := "PageRescueModel", name := "get", desc := "(I)J" } : MethodName) prog_8_method_15_code (2 : Nat) (Option.some FieldType.long)) ∈ zws := zws_t 670 (by decide +kernel) (by decide +kernel)
theorem wd_671 : (Cond.constantLong "PageRescueModel" (94 : Nat) (-1000000000000 : Int64)) ∈ zws := zws_t 671 (by decide +kernel) (by decide +kernel)
theorem wd_672 : (Cond.methodLink "PageRescueLaw" (48 : Nat) ({ cls := "PageRescueModel", name := "write", desc := "(I)I" } : MethodName)) ∈ zws := zws_t 672 (by decide +kernel) (by decide +kernel)
theorem wd_673 : (Cond.instanceMethod ({ cls := "PageRescueModel", name := "write", desc := "(I)I" } : MethodName)) ∈ zws := zws_t 673 (by decide +kernel) (by decide +kernel)
theorem wd_674 : (Cond.selects "PageRescueModel" ({ cls := "PageRescueModel", name := "write", desc := "(I)I" } : MethodName) ({ cls := "PageRescueModel", name := "write", desc := "(I)I" } : MethodName)) ∈ zws := zws_t 674 (by decide +kernel) (by decide +kernel)
theorem wd_675 : (Cond.code ({ cls := "PageRescueModel", name := "write", desc := "(I)I" } : MethodName) prog_8_method_16_code (2 : Nat) (Option.some FieldType.int)) ∈ zws := zws_t 675 (by decide +kernel) (by decide +kernel)
theorem wd_676 : (Cond.methodLink "PageRescueModel" (96 : Nat) ({ cls := "PageRescueModel", name := "numberOf", desc := "(I)I" } : MethodName)) ∈ zws := zws_t 676 (by decide +kernel) (by decide +kernel)
theorem wd_678 : (Cond.instanceMethod ({ cls := "PageRescueModel", name := "numberOf", desc := "(I)I" } : MethodName)) ∈ zws := zws_t 678 (by decide +kernel) (by decide +kernel)
theorem wd_679 : (Cond.code ({ cls := "PageRescueModel", name := "numberOf", desc := "(I)I" } : MethodName) prog_8_method_7_code (3 : Nat) (Option.some FieldType.int)) ∈ zws := zws_t 679 (by decide +kernel) (by decide +kernel)
theorem wd_680 : (Cond.methodLink "PageRescueLaw" (52 : Nat) ({ cls := "PageRescueModel", name := "archive", desc := "()I" } : MethodName)) ∈ zws := zws_t 680 (by decide +kernel) (by decide +kernel)
theorem wd_681 : (Cond.instanceMethod ({ cls := "PageRescueModel", name := "archive", desc := "()I" } : MethodName)) ∈ zws := zws_t 681 (by decide +kernel) (by decide +kernel)
theorem wd_682 : (Cond.selects "PageRescueModel" ({ cls := "PageRescueModel", name := "archive", desc := "()I" } : MethodName) ({ cls := "PageRescueModel", name := "archive", desc := "()I" } : MethodName)) ∈ zws := zws_t 682 (by decide +kernel) (by decide +kernel)
theorem wd_683 : (Cond.code ({ cls := "PageRescueModel", name := "archive", desc := "()I" } : MethodName) prog_8_method_17_code (1 : Nat) (Option.some FieldType.int)) ∈ zws := zws_t 683 (by decide +kernel) (by decide +kernel)
theorem wd_684 : (Cond.methodLink "PageRescueLaw" (57 : Nat) ({ cls := "PageRescueModel", name := "backup", desc := "(Z)I" } : MethodName)) ∈ zws := zws_t 684 (by decide +kernel) (by decide +kernel)
theorem wd_685 : (Cond.instanceMethod ({ cls := "PageRescueModel", name := "backup", desc := "(Z)I" } : MethodName)) ∈ zws := zws_t 685 (by decide +kernel) (by decide +kernel)
theorem wd_686 : (Cond.selects "PageRescueModel" ({ cls := "PageRescueModel", name := "backup", desc := "(Z)I" } : MethodName) ({ cls := "PageRescueModel", name := "backup", desc := "(Z)I" } : MethodName)) ∈ zws := zws_t 686 (by decide +kernel) (by decide +kernel)
theorem wd_687 : (Cond.code ({ cls := "PageRescueModel", name := "backup", desc := "(Z)I" } : MethodName) prog_8_method_19_code (4 : Nat) (Option.some FieldType.int)) ∈ zws := zws_t 687 (by decide +kernel) (by decide +kernel)
theorem wd_688 : (Cond.methodLink "PageRescueModel" (103 : Nat) ({ cls := "PageRescueModel", name := "fulls", desc := "()I" } : MethodName)) ∈ zws := zws_t 688 (by decide +kernel) (by decide +kernel)
theorem wd_690 : (Cond.instanceMethod ({ cls := "PageRescueModel", name := "fulls", desc := "()I" } : MethodName)) ∈ zws := zws_t 690 (by decide +kernel) (by decide +kernel)
theorem wd_691 : (Cond.code ({ cls := "PageRescueModel", name := "fulls", desc := "()I" } : MethodName) prog_8_method_18_code (3 : Nat) (Option.some FieldType.int)) ∈ zws := zws_t 691 (by decide +kernel) (by decide +kernel)
theorem wd_692 : (Cond.methodLink "PageRescueLaw" (61 : Nat) ({ cls := "PageRescueModel", name := "step", desc := "(I)I" } : MethodName)) ∈ zws := zws_t 692 (by decide +kernel) (by decide +kernel)
theorem wd_693 : (Cond.instanceMethod ({ cls := "PageRescueModel", name := "step", desc := "(I)I" } : MethodName)) ∈ zws := zws_t 693 (by decide +kernel) (by decide +kernel)
theorem wd_694 : (Cond.selects "PageRescueModel" ({ cls := "PageRescueModel", name := "step", desc := "(I)I" } : MethodName) ({ cls := "PageRescueModel", name := "step", desc := "(I)I" } : MethodName)) ∈ zws := zws_t 694 (by decide +kernel) (by decide +kernel)
theorem wd_695 : (Cond.code ({ cls := "PageRescueModel", name := "step", desc := "(I)I" } : MethodName) prog_8_method_22_code (6 : Nat) (Option.some FieldType.int)) ∈ zws := zws_t 695 (by decide +kernel) (by decide +kernel)
theorem wd_696 : (Cond.methodLink "PageRescueModel" (112 : Nat) ({ cls := "PageRescueModel", name := "finish", desc := "()V" } : MethodName)) ∈ zws := zws_t 696 (by decide +kernel) (by decide +kernel)
theorem wd_698 : (Cond.instanceMethod ({ cls := "PageRescueModel", name := "finish", desc := "()V" } : MethodName)) ∈ zws := zws_t 698 (by decide +kernel) (by decide +kernel)
theorem wd_699 : (Cond.code ({ cls := "PageRescueModel", name := "finish", desc := "()V" } : MethodName) prog_8_method_21_code (3 : Nat) (Option.none : Option FieldType)) ∈ zws := zws_t 699 (by decide +kernel) (by decide +kernel)
theorem wd_700 : (Cond.methodLink "PageRescueModel" (106 : Nat) ({ cls := "PageRescueModel", name := "firstFull", desc := "(I)I" } : MethodName)) ∈ zws := zws_t 700 (by decide +kernel) (by decide +kernel)
theorem wd_702 : (Cond.instanceMethod ({ cls := "PageRescueModel", name := "firstFull", desc := "(I)I" } : MethodName)) ∈ zws := zws_t 702 (by decide +kernel) (by decide +kernel)
theorem wd_703 : (Cond.code ({ cls := "PageRescueModel", name := "firstFull", desc := "(I)I" } : MethodName) prog_8_method_20_code (3 : Nat) (Option.some FieldType.int)) ∈ zws := zws_t 703 (by decide +kernel) (by decide +kernel)
theorem wd_704 : (Cond.methodLink "PageRescueLaw" (65 : Nat) ({ cls := "PageRescueModel", name := "crash", desc := "(I)I" } : MethodName)) ∈ zws := zws_t 704 (by decide +kernel) (by decide +kernel)
theorem wd_705 : (Cond.instanceMethod ({ cls := "PageRescueModel", name := "crash", desc := "(I)I" } : MethodName)) ∈ zws := zws_t 705 (by decide +kernel) (by decide +kernel)
theorem wd_706 : (Cond.selects "PageRescueModel" ({ cls := "PageRescueModel", name := "crash", desc := "(I)I" } : MethodName) ({ cls := "PageRescueModel", name := "crash", desc := "(I)I" } : MethodName)) ∈ zws := zws_t 706 (by decide +kernel) (by decide +kernel)
theorem wd_707 : (Cond.code ({ cls := "PageRescueModel", name := "crash", desc := "(I)I" } : MethodName) prog_8_method_25_code (2 : Nat) (Option.some FieldType.int)) ∈ zws := zws_t 707 (by decide +kernel) (by decide +kernel)
theorem wd_708 : (Cond.methodLink "PageRescueModel" (122 : Nat) ({ cls := "PageRescueModel", name := "recover", desc := "()I" } : MethodName)) ∈ zws := zws_t 708 (by decide +kernel) (by decide +kernel)
theorem wd_710 : (Cond.instanceMethod ({ cls := "PageRescueModel", name := "recover", desc := "()I" } : MethodName)) ∈ zws := zws_t 710 (by decide +kernel) (by decide +kernel)
theorem wd_711 : (Cond.code ({ cls := "PageRescueModel", name := "recover", desc := "()I" } : MethodName) prog_8_method_24_code (3 : Nat) (Option.some FieldType.int)) ∈ zws := zws_t 711 (by decide +kernel) (by decide +kernel)
theorem wd_712 : (Cond.methodLink "PageRescueModel" (115 : Nat) ({ cls := "PageRescueModel", name := "best", desc := "(I)I" } : MethodName)) ∈ zws := zws_t 712 (by decide +kernel) (by decide +kernel)
theorem wd_714 : (Cond.instanceMethod ({ cls := "PageRescueModel", name := "best", desc := "(I)I" } : MethodName)) ∈ zws := zws_t 714 (by decide +kernel) (by decide +kernel)
theorem wd_715 : (Cond.code ({ cls := "PageRescueModel", name := "best", desc := "(I)I" } : MethodName) prog_8_method_23_code (4 : Nat) (Option.some FieldType.int)) ∈ zws := zws_t 715 (by decide +kernel) (by decide +kernel)
theorem wd_716 : (Cond.methodLink "PageRescueModel" (118 : Nat) ({ cls := "PageRescueModel", name := "changesOn", desc := "(III)I" } : MethodName)) ∈ zws := zws_t 716 (by decide +kernel) (by decide +kernel)
theorem wd_718 : (Cond.instanceMethod ({ cls := "PageRescueModel", name := "changesOn", desc := "(III)I" } : MethodName)) ∈ zws := zws_t 718 (by decide +kernel) (by decide +kernel)
theorem wd_719 : (Cond.code ({ cls := "PageRescueModel", name := "changesOn", desc := "(III)I" } : MethodName) prog_8_method_8_code (6 : Nat) (Option.some FieldType.int)) ∈ zws := zws_t 719 (by decide +kernel) (by decide +kernel)
theorem wd_720 : (Cond.methodLink "PageRescueLaw" (69 : Nat) ({ cls := "PageRescueModel", name := "lose", desc := "()I" } : MethodName)) ∈ zws := zws_t 720 (by decide +kernel) (by decide +kernel)
theorem wd_721 : (Cond.instanceMethod ({ cls := "PageRescueModel", name := "lose", desc := "()I" } : MethodName)) ∈ zws := zws_t 721 (by decide +kernel) (by decide +kernel)
theorem wd_722 : (Cond.selects "PageRescueModel" ({ cls := "PageRescueModel", name := "lose", desc := "()I" } : MethodName) ({ cls := "PageRescueModel", name := "lose", desc := "()I" } : MethodName)) ∈ zws := zws_t 722 (by decide +kernel) (by decide +kernel)
theorem wd_723 : (Cond.code ({ cls := "PageRescueModel", name := "lose", desc := "()I" } : MethodName) prog_8_method_26_code (2 : Nat) (Option.some FieldType.int)) ∈ zws := zws_t 723 (by decide +kernel) (by decide +kernel)
theorem wd_724 : (Cond.methodLink "PageRescueLaw" (73 : Nat) ({ cls := "PageRescueModel", name := "restore", desc := "(I)I" } : MethodName)) ∈ zws := zws_t 724 (by decide +kernel) (by decide +kernel)
theorem wd_725 : (Cond.instanceMethod ({ cls := "PageRescueModel", name := "restore", desc := "(I)I" } : MethodName)) ∈ zws := zws_t 725 (by decide +kernel) (by decide +kernel)
theorem wd_726 : (Cond.selects "PageRescueModel" ({ cls := "PageRescueModel", name := "restore", desc := "(I)I" } : MethodName) ({ cls := "PageRescueModel", name := "restore", desc := "(I)I" } : MethodName)) ∈ zws := zws_t 726 (by decide +kernel) (by decide +kernel)
theorem wd_727 : (Cond.code ({ cls := "PageRescueModel", name := "restore", desc := "(I)I" } : MethodName) prog_8_method_28_code (9 : Nat) (Option.some FieldType.int)) ∈ zws := zws_t 727 (by decide +kernel) (by decide +kernel)
theorem wd_728 : (Cond.methodLink "PageRescueModel" (125 : Nat) ({ cls := "PageRescueModel", name := "commitRecord", desc := "(I)I" } : MethodName)) ∈ zws := zws_t 728 (by decide +kernel) (by decide +kernel)
theorem wd_730 : (Cond.instanceMethod ({ cls := "PageRescueModel", name := "commitRecord", desc := "(I)I" } : MethodName)) ∈ zws := zws_t 730 (by decide +kernel) (by decide +kernel)
theorem wd_731 : (Cond.code ({ cls := "PageRescueModel", name := "commitRecord", desc := "(I)I" } : MethodName) prog_8_method_27_code (4 : Nat) (Option.some FieldType.int)) ∈ zws := zws_t 731 (by decide +kernel) (by decide +kernel)
theorem wd_732 : (Cond.methodLink "PageRescueLaw" (77 : Nat) ({ cls := "PageRescueModel", name := "look", desc := "(I)J" } : MethodName)) ∈ zws := zws_t 732 (by decide +kernel) (by decide +kernel)
theorem wd_733 : (Cond.instanceMethod ({ cls := "PageRescueModel", name := "look", desc := "(I)J" } : MethodName)) ∈ zws := zws_t 733 (by decide +kernel) (by decide +kernel)
theorem wd_734 : (Cond.selects "PageRescueModel" ({ cls := "PageRescueModel", name := "look", desc := "(I)J" } : MethodName) ({ cls := "PageRescueModel", name := "look", desc := "(I)J" } : MethodName)) ∈ zws := zws_t 734 (by decide +kernel) (by decide +kernel)
theorem wd_735 : (Cond.code ({ cls := "PageRescueModel", name := "look", desc := "(I)J" } : MethodName) prog_8_method_29_code (2 : Nat) (Option.some FieldType.long)) ∈ zws := zws_t 735 (by decide +kernel) (by decide +kernel)
theorem wd_736 : (Cond.methodLink "PageRescueLaw" (82 : Nat) ({ cls := "PageRescueModel", name := "page", desc := "(II)I" } : MethodName)) ∈ zws := zws_t 736 (by decide +kernel) (by decide +kernel)
theorem wd_737 : (Cond.instanceMethod ({ cls := "PageRescueModel", name := "page", desc := "(II)I" } : MethodName)) ∈ zws := zws_t 737 (by decide +kernel) (by decide +kernel)
theorem wd_738 : (Cond.selects "PageRescueModel" ({ cls := "PageRescueModel", name := "page", desc := "(II)I" } : MethodName) ({ cls := "PageRescueModel", name := "page", desc := "(II)I" } : MethodName)) ∈ zws := zws_t 738 (by decide +kernel) (by decide +kernel)
theorem wd_739 : (Cond.code ({ cls := "PageRescueModel", name := "page", desc := "(II)I" } : MethodName) prog_8_method_30_code (5 : Nat) (Option.some FieldType.int)) ∈ zws := zws_t 739 (by decide +kernel) (by decide +kernel)
theorem wd_740 : (Cond.methodLink "PageRescueLaw" (86 : Nat) ({ cls := "PageRescueModel", name := "ofBackup", desc := "(II)I" } : MethodName)) ∈ zws := zws_t 740 (by decide +kernel) (by decide +kernel)
theorem wd_741 : (Cond.instanceMethod ({ cls := "PageRescueModel", name := "ofBackup", desc := "(II)I" } : MethodName)) ∈ zws := zws_t 741 (by decide +kernel) (by decide +kernel)
theorem wd_742 : (Cond.selects "PageRescueModel" ({ cls := "PageRescueModel", name := "ofBackup", desc := "(II)I" } : MethodName) ({ cls := "PageRescueModel", name := "ofBackup", desc := "(II)I" } : MethodName)) ∈ zws := zws_t 742 (by decide +kernel) (by decide +kernel)
theorem wd_743 : (Cond.code ({ cls := "PageRescueModel", name := "ofBackup", desc := "(II)I" } : MethodName) prog_8_method_31_code (5 : Nat) (Option.some FieldType.int)) ∈ zws := zws_t 743 (by decide +kernel) (by decide +kernel)
theorem wd_744 : (Cond.methodLink "PageRescueLaw" (90 : Nat) ({ cls := "PageRescueModel", name := "count", desc := "(I)I" } : MethodName)) ∈ zws := zws_t 744 (by decide +kernel) (by decide +kernel)
theorem wd_745 : (Cond.instanceMethod ({ cls := "PageRescueModel", name := "count", desc := "(I)I" } : MethodName)) ∈ zws := zws_t 745 (by decide +kernel) (by decide +kernel)
theorem wd_746 : (Cond.selects "PageRescueModel" ({ cls := "PageRescueModel", name := "count", desc := "(I)I" } : MethodName) ({ cls := "PageRescueModel", name := "count", desc := "(I)I" } : MethodName)) ∈ zws := zws_t 746 (by decide +kernel) (by decide +kernel)
theorem wd_747 : (Cond.code ({ cls := "PageRescueModel", name := "count", desc := "(I)I" } : MethodName) prog_8_method_32_code (2 : Nat) (Option.some FieldType.int)) ∈ zws := zws_t 747 (by decide +kernel) (by decide +kernel)
theorem wd_748 : (Cond.methodLink "PageRescueModel" (128 : Nat) ({ cls := "PageRescueModel", name := "begun", desc := "()I" } : MethodName)) ∈ zws := zws_t 748 (by decide +kernel) (by decide +kernel)
theorem wd_750 : (Cond.instanceMethod ({ cls := "PageRescueModel", name := "begun", desc := "()I" } : MethodName)) ∈ zws := zws_t 750 (by decide +kernel) (by decide +kernel)
theorem wd_751 : (Cond.code ({ cls := "PageRescueModel", name := "begun", desc := "()I" } : MethodName) prog_8_method_6_code (1 : Nat) (Option.some FieldType.int)) ∈ zws := zws_t 751 (by decide +kernel) (by decide +kernel)
theorem wd_754 : (Cond.selects "[Ljava/lang/Object;" ({ cls := "java/lang/Object", name := "getClass", desc := "()Ljava/lang/Class;" } : MethodName) ({ cls := "java/lang/Object", name := "getClass", desc := "()Ljava/lang/Class;" } : MethodName)) ∈ zws := zws_t 754 (by decide +kernel) (by decide +kernel)
theorem wp_0 : Cond.selects "PageRescue$Log" ⟨"PageRescue$Log", "addRecord", "(IJ)V"⟩ ⟨"PageRescue$Log", "addRecord", "(IJ)V"⟩ ∈ zws := zws_p 0 (by decide +kernel) (by decide +kernel)
theorem wp_1 : Cond.selects "PageRescue$Backups" ⟨"PageRescue$Backups", "startOfLatest", "()I"⟩ ⟨"PageRescue$Backups", "startOfLatest", "()I"⟩ ∈ zws := zws_p 1 (by decide +kernel) (by decide +kernel)
theorem wp_2 : Cond.selects "PageRescue$Backups" ⟨"PageRescue$Backups", "finish", "(LPageRescue$Backup;LPageRescue$Log;)V"⟩ ⟨"PageRescue$Backups", "finish", "(LPageRescue$Backup;LPageRescue$Log;)V"⟩ ∈ zws := zws_p 2 (by decide +kernel) (by decide +kernel)
theorem wp_3 : Cond.selects "java/util/ArrayList" ⟨"java/util/ArrayList", "add", "(Ljava/lang/Object;[Ljava/lang/Object;I)V"⟩ ⟨"java/util/ArrayList", "add", "(Ljava/lang/Object;[Ljava/lang/Object;I)V"⟩ ∈ zws := zws_p 3 (by decide +kernel) (by decide +kernel)
theorem wp_4 : Cond.selects "java/util/ArrayList" ⟨"java/util/ArrayList", "grow", "()[Ljava/lang/Object;"⟩ ⟨"java/util/ArrayList", "grow", "()[Ljava/lang/Object;"⟩ ∈ zws := zws_p 4 (by decide +kernel) (by decide +kernel)
theorem wp_5 : Cond.selects "java/util/ArrayList" ⟨"java/util/ArrayList", "grow", "(I)[Ljava/lang/Object;"⟩ ⟨"java/util/ArrayList", "grow", "(I)[Ljava/lang/Object;"⟩ ∈ zws := zws_p 5 (by decide +kernel) (by decide +kernel)
theorem wp_6 : Cond.selects "PageRescue$Backups" ⟨"PageRescue$Backups", "dropOldest", "()V"⟩ ⟨"PageRescue$Backups", "dropOldest", "()V"⟩ ∈ zws := zws_p 6 (by decide +kernel) (by decide +kernel)
theorem wp_7 : Cond.selects "PageRescue" ⟨"PageRescue", "recover", "()I"⟩ ⟨"PageRescue", "recover", "()I"⟩ ∈ zws := zws_p 7 (by decide +kernel) (by decide +kernel)
theorem wp_8 : Cond.selects "PageRescueModel" ⟨"PageRescueModel", "room", "()I"⟩ ⟨"PageRescueModel", "room", "()I"⟩ ∈ zws := zws_p 8 (by decide +kernel) (by decide +kernel)
theorem wp_9 : Cond.selects "PageRescueModel" ⟨"PageRescueModel", "log", "(IIZ)I"⟩ ⟨"PageRescueModel", "log", "(IIZ)I"⟩ ∈ zws := zws_p 9 (by decide +kernel) (by decide +kernel)
theorem wp_10 : Cond.selects "PageRescueModel" ⟨"PageRescueModel", "commits", "()I"⟩ ⟨"PageRescueModel", "commits", "()I"⟩ ∈ zws := zws_p 10 (by decide +kernel) (by decide +kernel)
theorem wp_11 : Cond.selects "PageRescueModel" ⟨"PageRescueModel", "undo", "()V"⟩ ⟨"PageRescueModel", "undo", "()V"⟩ ∈ zws := zws_p 11 (by decide +kernel) (by decide +kernel)
theorem wp_12 : Cond.selects "PageRescueModel" ⟨"PageRescueModel", "after", "(II)J"⟩ ⟨"PageRescueModel", "after", "(II)J"⟩ ∈ zws := zws_p 12 (by decide +kernel) (by decide +kernel)
theorem wp_13 : Cond.selects "PageRescueModel" ⟨"PageRescueModel", "numberOf", "(I)I"⟩ ⟨"PageRescueModel", "numberOf", "(I)I"⟩ ∈ zws := zws_p 13 (by decide +kernel) (by decide +kernel)
theorem wp_14 : Cond.selects "PageRescueModel" ⟨"PageRescueModel", "fulls", "()I"⟩ ⟨"PageRescueModel", "fulls", "()I"⟩ ∈ zws := zws_p 14 (by decide +kernel) (by decide +kernel)
theorem wp_15 : Cond.selects "PageRescueModel" ⟨"PageRescueModel", "finish", "()V"⟩ ⟨"PageRescueModel", "finish", "()V"⟩ ∈ zws := zws_p 15 (by decide +kernel) (by decide +kernel)
theorem wp_16 : Cond.selects "PageRescueModel" ⟨"PageRescueModel", "firstFull", "(I)I"⟩ ⟨"PageRescueModel", "firstFull", "(I)I"⟩ ∈ zws := zws_p 16 (by decide +kernel) (by decide +kernel)
theorem wp_17 : Cond.selects "PageRescueModel" ⟨"PageRescueModel", "recover", "()I"⟩ ⟨"PageRescueModel", "recover", "()I"⟩ ∈ zws := zws_p 17 (by decide +kernel) (by decide +kernel)
theorem wp_18 : Cond.selects "PageRescueModel" ⟨"PageRescueModel", "best", "(I)I"⟩ ⟨"PageRescueModel", "best", "(I)I"⟩ ∈ zws := zws_p 18 (by decide +kernel) (by decide +kernel)
theorem wp_19 : Cond.selects "PageRescueModel" ⟨"PageRescueModel", "changesOn", "(III)I"⟩ ⟨"PageRescueModel", "changesOn", "(III)I"⟩ ∈ zws := zws_p 19 (by decide +kernel) (by decide +kernel)
theorem wp_20 : Cond.selects "PageRescueModel" ⟨"PageRescueModel", "commitRecord", "(I)I"⟩ ⟨"PageRescueModel", "commitRecord", "(I)I"⟩ ∈ zws := zws_p 20 (by decide +kernel) (by decide +kernel)
theorem wp_21 : Cond.selects "PageRescueModel" ⟨"PageRescueModel", "begun", "()I"⟩ ⟨"PageRescueModel", "begun", "()I"⟩ ∈ zws := zws_p 21 (by decide +kernel) (by decide +kernel)
theorem i_Pr : ∀ w ∈ u_ws R_Pr F_Pr 7, w ∈ zws := by
  intro w hw
  obtain ⟨k, hk, rfl⟩ := List.mem_map.mp hw
  have hk := List.mem_range.mp hk
  match k, hk with
  | 0, _ => exact zws_t 159 (by decide +kernel) (by decide +kernel)
  | 1, _ => exact zws_t 161 (by decide +kernel) (by decide +kernel)
  | 2, _ => exact zws_t 163 (by decide +kernel) (by decide +kernel)
  | 3, _ => exact zws_t 165 (by decide +kernel) (by decide +kernel)
  | 4, _ => exact zws_t 167 (by decide +kernel) (by decide +kernel)
  | 5, _ => exact zws_t 169 (by decide +kernel) (by decide +kernel)
  | 6, _ => exact zws_t 171 (by decide +kernel) (by decide +kernel)
  | k + 7, hk => exact absurd hk (by omega)
theorem i_Lg : ∀ w ∈ u_ws R_Lg F_Lg 9, w ∈ zws := by
  intro w hw
  obtain ⟨k, hk, rfl⟩ := List.mem_map.mp hw
  have hk := List.mem_range.mp hk
  match k, hk with
  | 0, _ => exact zws_t 85 (by decide +kernel) (by decide +kernel)
  | 1, _ => exact zws_t 87 (by decide +kernel) (by decide +kernel)
  | 2, _ => exact zws_t 89 (by decide +kernel) (by decide +kernel)
  | 3, _ => exact zws_t 91 (by decide +kernel) (by decide +kernel)
  | 4, _ => exact zws_t 93 (by decide +kernel) (by decide +kernel)
  | 5, _ => exact zws_t 95 (by decide +kernel) (by decide +kernel)
  | 6, _ => exact zws_t 97 (by decide +kernel) (by decide +kernel)
  | 7, _ => exact zws_t 99 (by decide +kernel) (by decide +kernel)
  | 8, _ => exact zws_t 101 (by decide +kernel) (by decide +kernel)
  | k + 9, hk => exact absurd hk (by omega)
theorem i_Tx : ∀ w ∈ u_ws R_Tx F_Tx 4, w ∈ zws := by
  intro w hw
  obtain ⟨k, hk, rfl⟩ := List.mem_map.mp hw
  have hk := List.mem_range.mp hk
  match k, hk with
  | 0, _ => exact zws_t 35 (by decide +kernel) (by decide +kernel)
  | 1, _ => exact zws_t 37 (by decide +kernel) (by decide +kernel)
  | 2, _ => exact zws_t 39 (by decide +kernel) (by decide +kernel)
  | 3, _ => exact zws_t 41 (by decide +kernel) (by decide +kernel)
  | k + 4, hk => exact absurd hk (by omega)
theorem i_Dk : ∀ w ∈ u_ws R_Dk F_Dk 2, w ∈ zws := by
  intro w hw
  obtain ⟨k, hk, rfl⟩ := List.mem_map.mp hw
  have hk := List.mem_range.mp hk
  match k, hk with
  | 0, _ => exact zws_t 54 (by decide +kernel) (by decide +kernel)
  | 1, _ => exact zws_t 56 (by decide +kernel) (by decide +kernel)
  | k + 2, hk => exact absurd hk (by omega)
theorem i_Bk : ∀ w ∈ u_ws R_Bk F_Bk 6, w ∈ zws := by
  intro w hw
  obtain ⟨k, hk, rfl⟩ := List.mem_map.mp hw
  have hk := List.mem_range.mp hk
  match k, hk with
  | 0, _ => exact zws_t 320 (by decide +kernel) (by decide +kernel)
  | 1, _ => exact zws_t 322 (by decide +kernel) (by decide +kernel)
  | 2, _ => exact zws_t 324 (by decide +kernel) (by decide +kernel)
  | 3, _ => exact zws_t 326 (by decide +kernel) (by decide +kernel)
  | 4, _ => exact zws_t 328 (by decide +kernel) (by decide +kernel)
  | 5, _ => exact zws_t 330 (by decide +kernel) (by decide +kernel)
  | k + 6, hk => exact absurd hk (by omega)
theorem i_Bs : ∀ w ∈ u_ws R_Bs F_Bs 5, w ∈ zws := by
  intro w hw
  obtain ⟨k, hk, rfl⟩ := List.mem_map.mp hw
  have hk := List.mem_range.mp hk
  match k, hk with
  | 0, _ => exact zws_t 141 (by decide +kernel) (by decide +kernel)
  | 1, _ => exact zws_t 143 (by decide +kernel) (by decide +kernel)
  | 2, _ => exact zws_t 145 (by decide +kernel) (by decide +kernel)
  | 3, _ => exact zws_t 147 (by decide +kernel) (by decide +kernel)
  | 4, _ => exact zws_t 149 (by decide +kernel) (by decide +kernel)
  | k + 5, hk => exact absurd hk (by omega)
theorem i_Md : ∀ w ∈ u_ws R_Md F_Md 21, w ∈ zws := by
  intro w hw
  obtain ⟨k, hk, rfl⟩ := List.mem_map.mp hw
  have hk := List.mem_range.mp hk
  match k, hk with
  | 0, _ => exact zws_t 584 (by decide +kernel) (by decide +kernel)
  | 1, _ => exact zws_t 586 (by decide +kernel) (by decide +kernel)
  | 2, _ => exact zws_t 588 (by decide +kernel) (by decide +kernel)
  | 3, _ => exact zws_t 590 (by decide +kernel) (by decide +kernel)
  | 4, _ => exact zws_t 592 (by decide +kernel) (by decide +kernel)
  | 5, _ => exact zws_t 594 (by decide +kernel) (by decide +kernel)
  | 6, _ => exact zws_t 596 (by decide +kernel) (by decide +kernel)
  | 7, _ => exact zws_t 598 (by decide +kernel) (by decide +kernel)
  | 8, _ => exact zws_t 600 (by decide +kernel) (by decide +kernel)
  | 9, _ => exact zws_t 602 (by decide +kernel) (by decide +kernel)
  | 10, _ => exact zws_t 604 (by decide +kernel) (by decide +kernel)
  | 11, _ => exact zws_t 606 (by decide +kernel) (by decide +kernel)
  | 12, _ => exact zws_t 608 (by decide +kernel) (by decide +kernel)
  | 13, _ => exact zws_t 610 (by decide +kernel) (by decide +kernel)
  | 14, _ => exact zws_t 612 (by decide +kernel) (by decide +kernel)
  | 15, _ => exact zws_t 614 (by decide +kernel) (by decide +kernel)
  | 16, _ => exact zws_t 616 (by decide +kernel) (by decide +kernel)
  | 17, _ => exact zws_t 618 (by decide +kernel) (by decide +kernel)
  | 18, _ => exact zws_t 620 (by decide +kernel) (by decide +kernel)
  | 19, _ => exact zws_t 622 (by decide +kernel) (by decide +kernel)
  | 20, _ => exact zws_t 624 (by decide +kernel) (by decide +kernel)
  | k + 21, hk => exact absurd hk (by omega)
theorem i_Al : ∀ w ∈ u_ws R_Al F_Al 3, w ∈ zws := by
  intro w hw
  obtain ⟨k, hk, rfl⟩ := List.mem_map.mp hw
  have hk := List.mem_range.mp hk
  match k, hk with
  | 0, _ => exact zws_t 129 (by decide +kernel) (by decide +kernel)
  | 1, _ => exact zws_t 131 (by decide +kernel) (by decide +kernel)
  | 2, _ => exact zws_t 133 (by decide +kernel) (by decide +kernel)
  | k + 3, hk => exact absurd hk (by omega)
end
section
/-! numbers as Nat; booleans as Bool -/
def zb (b : Bool) : Int32 := if b then 1 else 0
theorem zb_t : zb true = 1 := rfl
theorem zb_f : zb false = 0 := rfl
theorem zb_0 {b : Bool} : zb b = 0 ↔ b = false := by cases b <;> decide
theorem zb_n0 {b : Bool} : ¬ zb b = 0 ↔ b = true := by cases b <;> decide
theorem zb_nar (b : Bool) : vp_nar .boolean (zb b) = zb b := by cases b <;> decide
theorem zb_narrow (b : Bool) : narrow .boolean (.int (zb b)) = .int (zb b) := by cases b <;> decide
theorem zb_fits (b : Bool) : fits .boolean (.int (zb b)) = true := by cases b <;> decide
theorem zupd_n (f : Nat → Nat) (k v : Nat) : upd (fun j => nI (f j)) k (nI v) = fun j => nI (va_up f k v j) := by
  funext j
  by_cases h : j = k
  · subst h; simp [upd, va_up]
  · simp [upd, va_up, h]
theorem zupd_b (f : Nat → Bool) (k : Nat) (v : Bool) : upd (fun j => zb (f j)) k (zb v) = fun j => zb (va_up f k v j) := by
  funext j
  by_cases h : j = k
  · subst h; simp [upd, va_up]
  · simp [upd, va_up, h]
theorem zupd_i (f : Nat → Int32) (k : Nat) (v : Int32) : upd f k v = va_up f k v := by
  funext j
  by_cases h : j = k
  · subst h; simp [upd, va_up]
  · simp [upd, va_up, h]
theorem zupd_l (f : Nat → Int64) (k : Nat) (v : Int64) : vp_updL f k v = va_up f k v := rfl
section ZN
variable {p : Program} {l : Launch} {e : Env} {R : Room} {s : State} {m : MethodId} {args : Array Value} {below : List Frame} {meth : Method} {c : Code} {H : Heap} {locs : List Loc} {cells slots : Nat} {Q : State → Prop}
variable {cc : ByteArray} {pc : Nat} {ls : Array Slot} {rest : List Value}
theorem zn_iadd (hexec : p.tables.exec = Jvm.exec) (hb : c.code = cc) {a b : Nat} (hdg : decode cc pc = .ok (.iadd, 1)) (k : W p l e R s m args below meth c H locs cells slots Q (F0 m (pc + 1) ls (.int (nI (a + b)) :: rest))) : W p l e R s m args below meth c H locs cells slots Q (F0 m pc ls (.int (nI b) :: .int (nI a) :: rest)) := lv_iadd hexec hb hdg (by rw [nI_add]; exact k)
theorem zn_isub (hexec : p.tables.exec = Jvm.exec) (hb : c.code = cc) {a b : Nat} (h : b ≤ a) (hdg : decode cc pc = .ok (.isub, 1)) (k : W p l e R s m args below meth c H locs cells slots Q (F0 m (pc + 1) ls (.int (nI (a - b)) :: rest))) : W p l e R s m args below meth c H locs cells slots Q (F0 m pc ls (.int (nI b) :: .int (nI a) :: rest)) := lv_isub hexec hb hdg (by rw [pk_sub h]; exact k)
theorem zn_imul (hexec : p.tables.exec = Jvm.exec) (hb : c.code = cc) {a b : Nat} (hdg : decode cc pc = .ok (.imul, 1)) (k : W p l e R s m args below meth c H locs cells slots Q (F0 m (pc + 1) ls (.int (nI (a * b)) :: rest))) : W p l e R s m args below meth c H locs cells slots Q (F0 m pc ls (.int (nI b) :: .int (nI a) :: rest)) := lv_imul hexec hb hdg (by rw [pk_mul]; exact k)
theorem zn_idiv (hexec : p.tables.exec = Jvm.exec) (hb : c.code = cc) {a b : Nat} (ha : a < 2 ^ 31) (h0 : 0 < b) (hb2 : b < 2 ^ 31) (hdg : decode cc pc = .ok (.idiv, 1)) (k : W p l e R s m args below meth c H locs cells slots Q (F0 m (pc + 1) ls (.int (nI (a / b)) :: rest))) : W p l e R s m args below meth c H locs cells slots Q (F0 m pc ls (.int (nI b) :: .int (nI a) :: rest)) := lv_idiv hexec hb hdg (nI_ne0 h0 hb2) (by rw [pk_div ha h0 hb2]; exact k)
theorem zn_irem (hexec : p.tables.exec = Jvm.exec) (hb : c.code = cc) {a b : Nat} (ha : a < 2 ^ 31) (h0 : 0 < b) (hb2 : b < 2 ^ 31) (hdg : decode cc pc = .ok (.irem, 1)) (k : W p l e R s m args below meth c H locs cells slots Q (F0 m (pc + 1) ls (.int (nI (a % b)) :: rest))) : W p l e R s m args below meth c H locs cells slots Q (F0 m pc ls (.int (nI b) :: .int (nI a) :: rest)) := lv_irem hexec hb hdg (nI_ne0 h0 hb2) (by rw [pk_rem ha h0 hb2]; exact k)
theorem zn_icmp_eq (hexec : p.tables.exec = Jvm.exec) (hb : c.code = cc) {a b : Nat} {off : Int} {tgt : Nat} (ha : a < 2 ^ 31) (hb2 : b < 2 ^ 31) (hdg : decode cc pc = .ok (.if_icmp .eq off, 3)) (ht : (pc : Int) + off = (tgt : Int)) (kt : a = b → W p l e R s m args below meth c H locs cells slots Q (F0 m tgt ls rest)) (kf : a ≠ b → W p l e R s m args below meth c H locs cells slots Q (F0 m (pc + 3) ls rest)) : W p l e R s m args below meth c H locs cells slots Q (F0 m pc ls (.int (nI b) :: .int (nI a) :: rest)) := lv_icmp_eq hexec hb hdg ht (fun h => kt ((nI_eq ha hb2).mp h)) (fun h => kf (fun q => h ((nI_eq ha hb2).mpr q)))
theorem zn_icmp_ne (hexec : p.tables.exec = Jvm.exec) (hb : c.code = cc) {a b : Nat} {off : Int} {tgt : Nat} (ha : a < 2 ^ 31) (hb2 : b < 2 ^ 31) (hdg : decode cc pc = .ok (.if_icmp .ne off, 3)) (ht : (pc : Int) + off = (tgt : Int)) (kt : a ≠ b → W p l e R s m args below meth c H locs cells slots Q (F0 m tgt ls rest)) (kf : a = b → W p l e R s m args below meth c H locs cells slots Q (F0 m (pc + 3) ls rest)) : W p l e R s m args below meth c H locs cells slots Q (F0 m pc ls (.int (nI b) :: .int (nI a) :: rest)) := lv_icmp_ne hexec hb hdg ht (fun h => kt (fun q => h ((nI_eq ha hb2).mpr q))) (fun h => kf ((nI_eq ha hb2).mp h))
theorem zn_icmp_lt (hexec : p.tables.exec = Jvm.exec) (hb : c.code = cc) {a b : Nat} {off : Int} {tgt : Nat} (ha : a < 2 ^ 31) (hb2 : b < 2 ^ 31) (hdg : decode cc pc = .ok (.if_icmp .lt off, 3)) (ht : (pc : Int) + off = (tgt : Int)) (kt : a < b → W p l e R s m args below meth c H locs cells slots Q (F0 m tgt ls rest)) (kf : b ≤ a → W p l e R s m args below meth c H locs cells slots Q (F0 m (pc + 3) ls rest)) : W p l e R s m args below meth c H locs cells slots Q (F0 m pc ls (.int (nI b) :: .int (nI a) :: rest)) := lv_icmp_lt hexec hb hdg ht (fun h => kt ((nI_ltI ha hb2).mp h)) (fun h => kf (by have h2 : ¬ (a < b) := fun q => h ((nI_ltI ha hb2).mpr q); omega))
theorem zn_icmp_ge (hexec : p.tables.exec = Jvm.exec) (hb : c.code = cc) {a b : Nat} {off : Int} {tgt : Nat} (ha : a < 2 ^ 31) (hb2 : b < 2 ^ 31) (hdg : decode cc pc = .ok (.if_icmp .ge off, 3)) (ht : (pc : Int) + off = (tgt : Int)) (kt : b ≤ a → W p l e R s m args below meth c H locs cells slots Q (F0 m tgt ls rest)) (kf : a < b → W p l e R s m args below meth c H locs cells slots Q (F0 m (pc + 3) ls rest)) : W p l e R s m args below meth c H locs cells slots Q (F0 m pc ls (.int (nI b) :: .int (nI a) :: rest)) := lv_icmp_ge hexec hb hdg ht (fun h => kt ((nI_leI hb2 ha).mp h)) (fun h => kf (by have h2 : ¬ (b ≤ a) := fun q => h ((nI_leI hb2 ha).mpr q); omega))
theorem zn_icmp_gt (hexec : p.tables.exec = Jvm.exec) (hb : c.code = cc) {a b : Nat} {off : Int} {tgt : Nat} (ha : a < 2 ^ 31) (hb2 : b < 2 ^ 31) (hdg : decode cc pc = .ok (.if_icmp .gt off, 3)) (ht : (pc : Int) + off = (tgt : Int)) (kt : b < a → W p l e R s m args below meth c H locs cells slots Q (F0 m tgt ls rest)) (kf : a ≤ b → W p l e R s m args below meth c H locs cells slots Q (F0 m (pc + 3) ls rest)) : W p l e R s m args below meth c H locs cells slots Q (F0 m pc ls (.int (nI b) :: .int (nI a) :: rest)) := lv_icmp_gt hexec hb hdg ht (fun h => kt ((nI_ltI hb2 ha).mp h)) (fun h => kf (by have h2 : ¬ (b < a) := fun q => h ((nI_ltI hb2 ha).mpr q); omega))
theorem zn_icmp_le (hexec : p.tables.exec = Jvm.exec) (hb : c.code = cc) {a b : Nat} {off : Int} {tgt : Nat} (ha : a < 2 ^ 31) (hb2 : b < 2 ^ 31) (hdg : decode cc pc = .ok (.if_icmp .le off, 3)) (ht : (pc : Int) + off = (tgt : Int)) (kt : a ≤ b → W p l e R s m args below meth c H locs cells slots Q (F0 m tgt ls rest)) (kf : b < a → W p l e R s m args below meth c H locs cells slots Q (F0 m (pc + 3) ls rest)) : W p l e R s m args below meth c H locs cells slots Q (F0 m pc ls (.int (nI b) :: .int (nI a) :: rest)) := lv_icmp_le hexec hb hdg ht (fun h => kt ((nI_leI ha hb2).mp h)) (fun h => kf (by have h2 : ¬ (a ≤ b) := fun q => h ((nI_leI ha hb2).mpr q); omega))
theorem zn_if_eq (hexec : p.tables.exec = Jvm.exec) (hb : c.code = cc) {a : Nat} {off : Int} {tgt : Nat} (ha : a < 2 ^ 31) (hdg : decode cc pc = .ok (.ifCond .eq off, 3)) (ht : (pc : Int) + off = (tgt : Int)) (kt : a = 0 → W p l e R s m args below meth c H locs cells slots Q (F0 m tgt ls rest)) (kf : a ≠ 0 → W p l e R s m args below meth c H locs cells slots Q (F0 m (pc + 3) ls rest)) : W p l e R s m args below meth c H locs cells slots Q (F0 m pc ls (.int (nI a) :: rest)) := lv_if_eq hexec hb hdg ht (fun h => kt ((nI_eq (b := 0) ha (by decide)).mp (h.trans nI_0.symm))) (fun h => kf (fun q => h (by rw [q]; exact nI_0)))
theorem zn_if_ne (hexec : p.tables.exec = Jvm.exec) (hb : c.code = cc) {a : Nat} {off : Int} {tgt : Nat} (ha : a < 2 ^ 31) (hdg : decode cc pc = .ok (.ifCond .ne off, 3)) (ht : (pc : Int) + off = (tgt : Int)) (kt : a ≠ 0 → W p l e R s m args below meth c H locs cells slots Q (F0 m tgt ls rest)) (kf : a = 0 → W p l e R s m args below meth c H locs cells slots Q (F0 m (pc + 3) ls rest)) : W p l e R s m args below meth c H locs cells slots Q (F0 m pc ls (.int (nI a) :: rest)) := lv_if_ne hexec hb hdg ht (fun h => kt (fun q => h (by rw [q]; exact nI_0))) (fun h => kf ((nI_eq (b := 0) ha (by decide)).mp (h.trans nI_0.symm)))
theorem zn_if_gt (hexec : p.tables.exec = Jvm.exec) (hb : c.code = cc) {a : Nat} {off : Int} {tgt : Nat} (ha : a < 2 ^ 31) (hdg : decode cc pc = .ok (.ifCond .gt off, 3)) (ht : (pc : Int) + off = (tgt : Int)) (kt : 0 < a → W p l e R s m args below meth c H locs cells slots Q (F0 m tgt ls rest)) (kf : a = 0 → W p l e R s m args below meth c H locs cells slots Q (F0 m (pc + 3) ls rest)) : W p l e R s m args below meth c H locs cells slots Q (F0 m pc ls (.int (nI a) :: rest)) := lv_if_gt hexec hb hdg ht (fun h => kt ((nI_ltI (a := 0) (by decide) ha).mp (by rw [nI_0]; exact h))) (fun h => kf (by rcases Nat.eq_zero_or_pos a with q | q; exact q; exact absurd (by rw [← nI_0]; exact (nI_ltI (a := 0) (by decide) ha).mpr q) h))
theorem zn_if_le (hexec : p.tables.exec = Jvm.exec) (hb : c.code = cc) {a : Nat} {off : Int} {tgt : Nat} (ha : a < 2 ^ 31) (hdg : decode cc pc = .ok (.ifCond .le off, 3)) (ht : (pc : Int) + off = (tgt : Int)) (kt : a = 0 → W p l e R s m args below meth c H locs cells slots Q (F0 m tgt ls rest)) (kf : 0 < a → W p l e R s m args below meth c H locs cells slots Q (F0 m (pc + 3) ls rest)) : W p l e R s m args below meth c H locs cells slots Q (F0 m pc ls (.int (nI a) :: rest)) := lv_if_le hexec hb hdg ht (fun h => kt (by have := (nI_leI (b := 0) ha (by decide)).mp (by rw [nI_0]; exact h); omega)) (fun h => kf (by rcases Nat.eq_zero_or_pos a with q | q; exact absurd (by rw [q, nI_0]; exact Int32.le_refl 0) h; exact q))
theorem zn_if_lt (hexec : p.tables.exec = Jvm.exec) (hb : c.code = cc) {a : Nat} {off : Int} {tgt : Nat} (ha : a < 2 ^ 31) (hdg : decode cc pc = .ok (.ifCond .lt off, 3)) (ht : (pc : Int) + off = (tgt : Int)) (kt : False → W p l e R s m args below meth c H locs cells slots Q (F0 m tgt ls rest)) (kf : True → W p l e R s m args below meth c H locs cells slots Q (F0 m (pc + 3) ls rest)) : W p l e R s m args below meth c H locs cells slots Q (F0 m pc ls (.int (nI a) :: rest)) := lv_if_lt hexec hb hdg ht (fun h => kt (nI_pos ha h)) (fun _ => kf trivial)
theorem zn_if_ge (hexec : p.tables.exec = Jvm.exec) (hb : c.code = cc) {a : Nat} {off : Int} {tgt : Nat} (ha : a < 2 ^ 31) (hdg : decode cc pc = .ok (.ifCond .ge off, 3)) (ht : (pc : Int) + off = (tgt : Int)) (kt : True → W p l e R s m args below meth c H locs cells slots Q (F0 m tgt ls rest)) (kf : False → W p l e R s m args below meth c H locs cells slots Q (F0 m (pc + 3) ls rest)) : W p l e R s m args below meth c H locs cells slots Q (F0 m pc ls (.int (nI a) :: rest)) := lv_if_ge hexec hb hdg ht (fun _ => kt trivial) (fun h => kf (h (nI_pos' ha)))
theorem zb_if_eq (hexec : p.tables.exec = Jvm.exec) (hb : c.code = cc) {b : Bool} {off : Int} {tgt : Nat} (hdg : decode cc pc = .ok (.ifCond .eq off, 3)) (ht : (pc : Int) + off = (tgt : Int)) (kt : b = false → W p l e R s m args below meth c H locs cells slots Q (F0 m tgt ls rest)) (kf : b = true → W p l e R s m args below meth c H locs cells slots Q (F0 m (pc + 3) ls rest)) : W p l e R s m args below meth c H locs cells slots Q (F0 m pc ls (.int (zb b) :: rest)) := lv_if_eq hexec hb hdg ht (fun h => kt (zb_0.mp h)) (fun h => kf (zb_n0.mp h))
theorem zb_if_ne (hexec : p.tables.exec = Jvm.exec) (hb : c.code = cc) {b : Bool} {off : Int} {tgt : Nat} (hdg : decode cc pc = .ok (.ifCond .ne off, 3)) (ht : (pc : Int) + off = (tgt : Int)) (kt : b = true → W p l e R s m args below meth c H locs cells slots Q (F0 m tgt ls rest)) (kf : b = false → W p l e R s m args below meth c H locs cells slots Q (F0 m (pc + 3) ls rest)) : W p l e R s m args below meth c H locs cells slots Q (F0 m pc ls (.int (zb b) :: rest)) := lv_if_ne hexec hb hdg ht (fun h => kt (zb_n0.mp h)) (fun h => kf (zb_0.mp h))
variable {D : va_G} {cl : List vw_C} {A : Nat → Prop} {a : Nat} {tys : List (ClassId × FieldType)} {ws : va_W} {H0 : Heap}
theorem zn_iald (hexec : p.tables.exec = Jvm.exec) (hb : c.code = cc) (hK : va_K D cl tys s) (hP : va_P D cl ws H) (q0 t0 : Nat) {cA : ClassId} {n : Nat} {f : Nat → Int32} (ha : ws[q0]? = some (a, .inl (cA, n, .inl f))) (ht : tys[t0]? = some (cA, .int)) {i : Nat} (hi : i < n) (hn : n < 2 ^ 31) (hdg : decode cc pc = .ok (.iaload, 1)) (kk : W p l e R s m args below meth c H locs cells slots Q (F0 m (pc + 1) ls (.int (f i) :: rest))) : W p l e R s m args below meth c H locs cells slots Q (F0 m pc ls (.int (nI i) :: .ref a :: rest)) := va_iald hexec hb hK hP q0 t0 ha ht (vp_in_nI hi hn) hdg (by rw [nI_clamp (Nat.lt_trans hi hn)]; exact kk)
theorem zn_zald (hexec : p.tables.exec = Jvm.exec) (hb : c.code = cc) (hK : va_K D cl tys s) (hP : va_P D cl ws H) (q0 t0 : Nat) {cA : ClassId} {n : Nat} {f : Nat → Int32} (ha : ws[q0]? = some (a, .inl (cA, n, .inl f))) (ht : tys[t0]? = some (cA, .boolean)) {i : Nat} (hi : i < n) (hn : n < 2 ^ 31) (hdg : decode cc pc = .ok (.baload, 1)) (kk : W p l e R s m args below meth c H locs cells slots Q (F0 m (pc + 1) ls (.int (f i) :: rest))) : W p l e R s m args below meth c H locs cells slots Q (F0 m pc ls (.int (nI i) :: .ref a :: rest)) := va_zald hexec hb hK hP q0 t0 ha ht (vp_in_nI hi hn) hdg (by rw [nI_clamp (Nat.lt_trans hi hn)]; exact kk)
theorem zn_lald (hexec : p.tables.exec = Jvm.exec) (hb : c.code = cc) (hK : va_K D cl tys s) (hP : va_P D cl ws H) (q0 t0 : Nat) {cA : ClassId} {n : Nat} {f : Nat → Int64} (ha : ws[q0]? = some (a, .inl (cA, n, .inr (.inl f)))) (ht : tys[t0]? = some (cA, .long)) {i : Nat} (hi : i < n) (hn : n < 2 ^ 31) (hdg : decode cc pc = .ok (.laload, 1)) (kk : W p l e R s m args below meth c H locs cells slots Q (F0 m (pc + 1) ls (.long (f i) :: rest))) : W p l e R s m args below meth c H locs cells slots Q (F0 m pc ls (.int (nI i) :: .ref a :: rest)) := va_lald hexec hb hK hP q0 t0 ha ht (vp_in_nI hi hn) hdg (by rw [nI_clamp (Nat.lt_trans hi hn)]; exact kk)
theorem zn_iast (hexec : p.tables.exec = Jvm.exec) (hb : c.code = cc) (hK : va_K D cl tys s) (hP : va_P D cl ws H) (hD : va_D A ws) (hS : va_S A H0 H locs) (q0 t0 : Nat) {cA : ClassId} {n : Nat} {f : Nat → Int32} (ha : ws[q0]? = some (a, .inl (cA, n, .inl f))) (ht : tys[t0]? = some (cA, .int)) {i : Nat} {x : Int32} (hi : i < n) (hn : n < 2 ^ 31) (hdg : decode cc pc = .ok (.iastore, 1)) (kk : ∀ (H1 : Heap) (locs1 : List Loc), va_P D cl (ws.set q0 (a, .inl (cA, n, .inl (va_up f i x)))) H1 → va_D A (ws.set q0 (a, .inl (cA, n, .inl (va_up f i x)))) → va_S A H0 H1 locs1 → W p l e R s m args below meth c H1 locs1 cells slots Q (F0 m (pc + 1) ls rest)) : W p l e R s m args below meth c H locs cells slots Q (F0 m pc ls (.int x :: .int (nI i) :: .ref a :: rest)) :=
  va_iast hexec hb hK hP hD hS q0 t0 ha ht (vp_in_nI hi hn) hdg (fun H1 locs1 h1 h2 h3 => kk H1 locs1 (by rw [nI_clamp (Nat.lt_trans hi hn), zupd_i] at h1; exact h1) (by rw [nI_clamp (Nat.lt_trans hi hn), zupd_i] at h2; exact h2) h3)
theorem zn_iastN (hexec : p.tables.exec = Jvm.exec) (hb : c.code = cc) (hK : va_K D cl tys s) (hP : va_P D cl ws H) (hD : va_D A ws) (hS : va_S A H0 H locs) (q0 t0 : Nat) {cA : ClassId} {n : Nat} {f : Nat → Nat} (ha : ws[q0]? = some (a, .inl (cA, n, .inl (fun j => nI (f j))))) (ht : tys[t0]? = some (cA, .int)) {i : Nat} {x : Nat} (hi : i < n) (hn : n < 2 ^ 31) (hdg : decode cc pc = .ok (.iastore, 1)) (kk : ∀ (H1 : Heap) (locs1 : List Loc), va_P D cl (ws.set q0 (a, .inl (cA, n, .inl (fun j => nI (va_up f i x j))))) H1 → va_D A (ws.set q0 (a, .inl (cA, n, .inl (fun j => nI (va_up f i x j))))) → va_S A H0 H1 locs1 → W p l e R s m args below meth c H1 locs1 cells slots Q (F0 m (pc + 1) ls rest)) : W p l e R s m args below meth c H locs cells slots Q (F0 m pc ls (.int (nI x) :: .int (nI i) :: .ref a :: rest)) :=
  va_iast hexec hb hK hP hD hS q0 t0 ha ht (vp_in_nI hi hn) hdg (fun H1 locs1 h1 h2 h3 => kk H1 locs1 (by rw [nI_clamp (Nat.lt_trans hi hn), zupd_n] at h1; exact h1) (by rw [nI_clamp (Nat.lt_trans hi hn), zupd_n] at h2; exact h2) h3)
theorem zn_zastB (hexec : p.tables.exec = Jvm.exec) (hb : c.code = cc) (hK : va_K D cl tys s) (hP : va_P D cl ws H) (hD : va_D A ws) (hS : va_S A H0 H locs) (q0 t0 : Nat) {cA : ClassId} {n : Nat} {f : Nat → Bool} (ha : ws[q0]? = some (a, .inl (cA, n, .inl (fun j => zb (f j))))) (ht : tys[t0]? = some (cA, .boolean)) {i : Nat} {x : Bool} (hi : i < n) (hn : n < 2 ^ 31) (hdg : decode cc pc = .ok (.bastore, 1)) (kk : ∀ (H1 : Heap) (locs1 : List Loc), va_P D cl (ws.set q0 (a, .inl (cA, n, .inl (fun j => zb (va_up f i x j))))) H1 → va_D A (ws.set q0 (a, .inl (cA, n, .inl (fun j => zb (va_up f i x j))))) → va_S A H0 H1 locs1 → W p l e R s m args below meth c H1 locs1 cells slots Q (F0 m (pc + 1) ls rest)) : W p l e R s m args below meth c H locs cells slots Q (F0 m pc ls (.int (zb x) :: .int (nI i) :: .ref a :: rest)) :=
  va_zast hexec hb hK hP hD hS q0 t0 ha ht (vp_in_nI hi hn) hdg (fun H1 locs1 h1 h2 h3 => kk H1 locs1 (by rw [nI_clamp (Nat.lt_trans hi hn), zb_nar, zupd_b] at h1; exact h1) (by rw [nI_clamp (Nat.lt_trans hi hn), zb_nar, zupd_b] at h2; exact h2) h3)
theorem zn_last (hexec : p.tables.exec = Jvm.exec) (hb : c.code = cc) (hK : va_K D cl tys s) (hP : va_P D cl ws H) (hD : va_D A ws) (hS : va_S A H0 H locs) (q0 t0 : Nat) {cA : ClassId} {n : Nat} {f : Nat → Int64} (ha : ws[q0]? = some (a, .inl (cA, n, .inr (.inl f)))) (ht : tys[t0]? = some (cA, .long)) {i : Nat} {x : Int64} (hi : i < n) (hn : n < 2 ^ 31) (hdg : decode cc pc = .ok (.lastore, 1)) (kk : ∀ (H1 : Heap) (locs1 : List Loc), va_P D cl (ws.set q0 (a, .inl (cA, n, .inr (.inl (va_up f i x))))) H1 → va_D A (ws.set q0 (a, .inl (cA, n, .inr (.inl (va_up f i x))))) → va_S A H0 H1 locs1 → W p l e R s m args below meth c H1 locs1 cells slots Q (F0 m (pc + 1) ls rest)) : W p l e R s m args below meth c H locs cells slots Q (F0 m pc ls (.long x :: .int (nI i) :: .ref a :: rest)) :=
  va_last hexec hb hK hP hD hS q0 t0 ha ht (vp_in_nI hi hn) hdg (fun H1 locs1 h1 h2 h3 => kk H1 locs1 (by rw [nI_clamp (Nat.lt_trans hi hn), zupd_l] at h1; exact h1) (by rw [nI_clamp (Nat.lt_trans hi hn), zupd_l] at h2; exact h2) h3)
end ZN
/-! contracts and calls: the world is a list of cells X, and a rest pl that is carried along -/
abbrev zT (cT : Nat → ClassId) : List (ClassId × FieldType) := [(cT 0, .int), (cT 1, .long), (cT 2, .boolean), (cT 3, .object "java/lang/Object")]
/-- what the tables say beside their words: links between nest mates, casts, the class object of Object[] -/
def zE (U : State) : Prop := va_Nw (.methodLinkNest R_Pr 9 y_Tx_init R_Pr) U ∧ va_Nw (.methodLinkNest R_Pr 18 y_Dk_init R_Pr) U ∧ va_Nw (.methodLinkNest R_Lg 62 y_Pr_isKey R_Pr) U ∧ va_Nw (.castable R_Bk R_Oj) U ∧ va_Dc U ∧ (∃ mi, va_Mi "[Ljava/lang/Object;" mi U) ∧ va_AO R_Oj U
theorem zE.warm {s U : State} (hW : s.WarmedH U.vm) (h : zE s) : zE U := ⟨va_Nw.warmM hW h.1, va_Nw.warmM hW h.2.1, va_Nw.warmM hW h.2.2.1, va_Nw.warmC hW h.2.2.2.1, va_Dc.moved hW.alike h.2.2.2.2.1, (let ⟨mi, q⟩ := h.2.2.2.2.2.1; ⟨mi, va_Mi.moved hW.alike q⟩), va_AO.moved hW.alike h.2.2.2.2.2.2⟩
theorem zE.same {u U : State} (e : u.vm = U.vm) (h : zE u) : zE U := ⟨va_Nw.same rfl e h.1, va_Nw.same rfl e h.2.1, va_Nw.same rfl e h.2.2.1, va_Nw.same rfl e h.2.2.2.1, va_Dc.moved (e ▸ Vm.Alike.refl _) h.2.2.2.2.1, (let ⟨mi, q⟩ := h.2.2.2.2.2.1; ⟨mi, va_Mi.moved (e ▸ Vm.Alike.refl _) q⟩), va_AO.moved (e ▸ Vm.Alike.refl _) h.2.2.2.2.2.2⟩
def zPre (D : va_G) (cl : List vw_C) (T : List (ClassId × FieldType)) (av : List Value) (X : va_W) (sz : Nat) : Array Value → State → Prop := va_Pc av (fun U => U.heap.size = sz ∧ va_P D cl X U.heap ∧ va_K D cl T U ∧ va_D (fun _ => True) X ∧ zE U)
def zPreR (D : va_G) (cl : List vw_C) (T : List (ClassId × FieldType)) (av : List Value) (X : va_W) : Array Value → State → Prop := va_Pc av (fun U => va_P D cl X U.heap ∧ va_K D cl T U ∧ zE U)
def zQ (D : va_G) (cl : List vw_C) {S : Type} (Φ : S → Prop) (r : S → Option Value) (w : S → va_W) (A : Nat → Prop) : Array Value → State → Outcome → State → Prop := fun _ st oc t => (∃ u : S, Φ u ∧ oc = .returned (r u) ∧ va_P D cl (w u) t.heap ∧ va_D A (w u)) ∧ va_F A st t
theorem zPre_blind {D : va_G} {cl : List vw_C} {T : List (ClassId × FieldType)} {av : List Value} {X : va_W} {sz : Nat} : FrameBlind (zPre D cl T av X sz) := fun a U g mk q => by
  obtain ⟨q0, q1, qP, qK, qD, qE⟩ := q
  exact ⟨q0, q1, qP, va_K.moved (u := U) (U := U.calling g mk a) (Vm.Alike.refl U.vm) qK, qD, zE.same (u := U) (U := U.calling g mk a) rfl qE⟩
theorem zPreR_blind {D : va_G} {cl : List vw_C} {T : List (ClassId × FieldType)} {av : List Value} {X : va_W} : FrameBlind (zPreR D cl T av X) := fun a U g mk q => by
  obtain ⟨q0, qP, qK, qE⟩ := q
  exact ⟨q0, qP, va_K.moved (u := U) (U := U.calling g mk a) (Vm.Alike.refl U.vm) qK, zE.same (u := U) (U := U.calling g mk a) rfl qE⟩
theorem zFree {A0 : Nat → Prop} {X cx pl : va_W} {H0 H : Heap} {locs : List Loc} (hD : va_D A0 (X ++ pl)) (hS : va_S A0 H0 H locs) (hA : ∀ q, H0.size ≤ q → A0 q) (isC : List Nat) (hC : isC.map (fun i => X[i]?) = cx.map some) : ∀ q, va_A cx H.size q → A0 q := by
  intro q h
  rcases h with ⟨k, e, h⟩ | h
  · obtain ⟨i, h1, h2⟩ := va_in_of isC hC h
    have hi : i < X.length := (List.getElem?_eq_some_iff.mp h2).1
    exact hD.2 i (q, e) (by rw [List.getElem?_append_left hi]; exact h2)
  · exact hA q (Nat.le_trans hS.1 h)
theorem zSub {D : va_G} {cl : List vw_C} {X cx pl : va_W} {H : Heap} (hP : va_P D cl (X ++ pl) H) (isC : List Nat) (hC : isC.map (fun i => X[i]?) = cx.map some) : va_P D cl cx H := by
  intro k q hk
  obtain ⟨i, h1, h2⟩ := va_in_of isC hC hk
  exact hP i q (by rw [List.getElem?_append_left (List.getElem?_eq_some_iff.mp h2).1]; exact h2)
theorem zSubD {A0 : Nat → Prop} {X cx pl : va_W} (hD : va_D A0 (X ++ pl)) (isC : List Nat) (hn : va_nd isC = true) (hC : isC.map (fun i => X[i]?) = cx.map some) : va_D A0 cx := by
  have h0 : va_D A0 (cx ++ pl) := hD.part isC hn hC
  refine h0.by id (fun k q hq => ?_) (fun i j _ _ e => e)
  show (cx ++ pl)[k]? = some q
  rw [List.getElem?_append_left (List.getElem?_eq_some_iff.mp hq).1]
  exact hq
section ZC
variable {p : Program} {l : Launch} {e : Env} {R : Room} {s : State} {m : MethodId} {args : Array Value} {below : List Frame} {meth : Method} {c : Code} {H : Heap} {locs : List Loc} {cells slots : Nat} {Q : State → Prop}
variable {pc : Nat} {ls : Array Slot} {rest st0 : List Value} {a : Array Value} {A0 : Nat → Prop} {H0 : Heap} {mc ms : Nat} {D : va_G} {cl : List vw_C}
/-- behind a call that had cells cx of X, and not the rest -/
theorem zw_Q {S : Type} {Φ : S → Prop} {r : S → Option Value} {w : S → va_W} {X cx wr pl : va_W} (hr : va_Run p l e R s m args below meth c H locs cells slots mc ms (F0 m pc ls st0) rest (zQ D cl Φ r w (va_A cx H.size) a) (va_A cx H.size)) (hP : va_P D cl (X ++ pl) H) (hD : va_D A0 (X ++ pl)) (hS : va_S A0 H0 H locs) (hA : ∀ q, H0.size ≤ q → A0 q) (isC isR : List Nat) (hC : isC.map (fun i => X[i]?) = cx.map some) (hR : isR.map (fun i => X[i]?) = wr.map some) (hn : va_nd isR = true) (hdis : ∀ i ∈ isR, i ∉ isC) (st1 : S → List Value) (hs1 : ∀ u, (r u).toList ++ rest = st1 u)
    (kk : ∀ (u : S) (H1 : Heap) (locs1 : List Loc), Φ u → va_P D cl ((wr ++ w u) ++ pl) H1 → va_D A0 ((wr ++ w u) ++ pl) → va_S A0 H0 H1 locs1 → W p l e R s m args below meth c H1 locs1 (cells + mc) (slots + ms) Q (F0 m (pc + 3) ls (st1 u))) : W p l e R s m args below meth c H locs cells slots Q (F0 m pc ls st0) := by
  have hF := zFree hD hS hA isC hC
  intro T hT XX
  obtain ⟨v, st₀, t, T', L, h0, X', hL, e1, e2, ⟨⟨u, hφ, hv, hp, hd⟩, hz, hk⟩, st⟩ := hr T hT XX
  have hv' : v = r u := by injection hv
  subst hv'
  rw [h0] at hz hk
  obtain ⟨j1, j2⟩ := va_joinQ hP hD isC isR hC hR hn hdis hk hF hp hd
  have kk' := kk u T'.heap (locs ++ L) hφ (by rw [e1]; exact j1) j2 ⟨Nat.le_trans hS.1 (by rw [e1]; exact hz), fun q h1 h2 => by rw [e1, hk q (Nat.lt_of_lt_of_le h1 hS.1) (fun z => h2 (hF q z))]; exact hS.2.1 q h1 h2, fun q hq => by
      rcases List.mem_append.mp hq with h | h
      · exact hS.2.2 q h
      · exact hF _ (hL q h)⟩
  rw [← hs1 u] at kk'
  obtain ⟨t2, a1, b1⟩ := kk' T' rfl X'
  exact ⟨t2, st t2 a1, b1⟩
/-- behind a call that had cells cx of X and the rest -/
theorem zw_P {S : Type} {Φ : S → Prop} {r : S → Option Value} {rx pl1 : S → va_W} {X cx wr pl : va_W} (hr : va_Run p l e R s m args below meth c H locs cells slots mc ms (F0 m pc ls st0) rest (zQ D cl Φ r (fun u => rx u ++ pl1 u) (va_A (cx ++ pl) H.size) a) (va_A (cx ++ pl) H.size)) (hP : va_P D cl (X ++ pl) H) (hD : va_D A0 (X ++ pl)) (hS : va_S A0 H0 H locs) (hA : ∀ q, H0.size ≤ q → A0 q) (isC isR : List Nat) (hC : isC.map (fun i => X[i]?) = cx.map some) (hR : isR.map (fun i => X[i]?) = wr.map some) (hn : va_nd isR = true) (hdis : ∀ i ∈ isR, i ∉ isC) (st1 : S → List Value) (hs1 : ∀ u, (r u).toList ++ rest = st1 u)
    (kk : ∀ (u : S) (H1 : Heap) (locs1 : List Loc), Φ u → va_P D cl ((wr ++ rx u) ++ pl1 u) H1 → va_D A0 ((wr ++ rx u) ++ pl1 u) → va_S A0 H0 H1 locs1 → W p l e R s m args below meth c H1 locs1 (cells + mc) (slots + ms) Q (F0 m (pc + 3) ls (st1 u))) : W p l e R s m args below meth c H locs cells slots Q (F0 m pc ls st0) := by
  have hF := va_freeP hD hS hA isC hC
  intro T hT XX
  obtain ⟨v, st₀, t, T', L, h0, X', hL, e1, e2, ⟨⟨u, hφ, hv, hp, hd⟩, hz, hk⟩, st⟩ := hr T hT XX
  have hv' : v = r u := by injection hv
  subst hv'
  rw [h0] at hz hk
  obtain ⟨j1, j2⟩ := va_joinP hP hD isC isR hC hR hn hdis hk hF hp hd
  have kk' := kk u T'.heap (locs ++ L) hφ (by rw [e1]; exact j1) j2 ⟨Nat.le_trans hS.1 (by rw [e1]; exact hz), fun q h1 h2 => by rw [e1, hk q (Nat.lt_of_lt_of_le h1 hS.1) (fun z => h2 (hF q z))]; exact hS.2.1 q h1 h2, fun q hq => by
      rcases List.mem_append.mp hq with h | h
      · exact hS.2.2 q h
      · exact hF _ (hL q h)⟩
  rw [← hs1 u] at kk'
  obtain ⟨t2, a1, b1⟩ := kk' T' rfl X'
  exact ⟨t2, st t2 a1, b1⟩
/-- behind a call that only reads -/
theorem zw_R {r : Value} (hr : va_Run p l e R s m args below meth c H locs cells slots 0 0 (F0 m pc ls st0) rest (k2_QcV r a) (fun _ => False)) (kk : W p l e R s m args below meth c H locs cells slots Q (F0 m (pc + 3) ls (r :: rest))) : W p l e R s m args below meth c H locs cells slots Q (F0 m pc ls st0) := W.callV hr.run kk
end ZC
section ZP
variable {s : State} {H : Heap} {D : va_G} {cl : List vw_C} {T : List (ClassId × FieldType)} {X cx pl : va_W} {A0 : Nat → Prop}
/-- what a callee's start asks for, out of the caller's world: cells cx, without the rest -/
theorem zp_Q {av : List Value} (hK : va_K D cl T s) (hE : zE s) (hP : va_P D cl (X ++ pl) H) (hD : va_D A0 (X ++ pl)) (isC : List Nat) (hn : va_nd isC = true) (hC : isC.map (fun i => X[i]?) = cx.map some) : ∀ U : State, U.heap = H → s.WarmedH U.vm → zPre D cl T av cx H.size av.toArray U :=
  fun U hU hW => ⟨rfl, by rw [hU], by rw [hU]; exact zSub hP isC hC, va_K.moved hW.alike hK, (zSubD hD isC hn hC).weaken (fun _ _ _ _ => trivial), zE.warm hW hE⟩
theorem zp_P {av : List Value} (hK : va_K D cl T s) (hE : zE s) (hP : va_P D cl (X ++ pl) H) (hD : va_D A0 (X ++ pl)) (isC : List Nat) (hn : va_nd isC = true) (hC : isC.map (fun i => X[i]?) = cx.map some) : ∀ U : State, U.heap = H → s.WarmedH U.vm → zPre D cl T av (cx ++ pl) H.size av.toArray U :=
  fun U hU hW => ⟨rfl, by rw [hU], by rw [hU]; exact hP.part isC hC, va_K.moved hW.alike hK, (hD.part isC hn hC).weaken (fun _ _ _ _ => trivial), zE.warm hW hE⟩
theorem zp_R {av : List Value} (hK : va_K D cl T s) (hE : zE s) (hP : va_P D cl cx H) : ∀ U : State, U.heap = H → s.WarmedH U.vm → zPreR D cl T av cx av.toArray U :=
  fun U hU hW => ⟨rfl, by rw [hU]; exact hP, va_K.moved hW.alike hK, zE.warm hW hE⟩
end ZP
section ZNEW
variable {p : Program} {l : Launch} {e : Env} {R : Room} {s : State} {m : MethodId} {args : Array Value} {below : List Frame} {meth : Method} {c : Code} {H : Heap} {locs : List Loc} {cells slots : Nat} {Q : State → Prop}
variable {cc : ByteArray} {pc : Nat} {ls : Array Slot} {rest : List Value} {D : va_G} {cl : List vw_C} {A : Nat → Prop} {T : List (ClassId × FieldType)} {ws : va_W} {H0 : Heap}

theorem zn_newI (hexec : p.tables.exec = Jvm.exec) (hb : c.code = cc) (harr : (Cond.arrayClass .int).before args s = true) (hK : va_K D cl T s) (hP : va_P D cl ws H) (hD : va_D A ws) (hS : va_S A H0 H locs) (hA : ∀ q, H0.size ≤ q → A q) (t0 : Nat) {cI : ClassId} (ht : T[t0]? = some (cI, .int))
    {N : Nat} (hN : N < 2 ^ 24) (hcells : cells + 1 ≤ R.cells) (hslots : slots + N ≤ R.slots) (hdg : decode cc pc = .ok (.newarray .int, 2))
    (kk : ∀ (q : Nat) (H1 : Heap), va_P D cl (ws ++ [(q, .inl (cI, N, .inl (fun _ => nI 0)))]) H1 → va_D A (ws ++ [(q, .inl (cI, N, .inl (fun _ => nI 0)))]) → va_S A H0 H1 locs → W p l e R s m args below meth c H1 locs (cells + 1) (slots + N) Q (F0 m (pc + 2) ls (.ref q :: rest))) : W p l e R s m args below meth c H locs cells slots Q (F0 m pc ls (.int (nI N) :: rest)) := by
  have h31 : N < 2 ^ 31 := Nat.lt_trans hN (by decide)
  have h9 : componentBytes .int ≤ 8 := by decide
  have hb9 : N * componentBytes .int ≤ 536870912 := Nat.le_trans (Nat.mul_le_mul_left N h9) (by omega)
  refine va_newa (atype := .int) (ty := .int) (a0 := (N, .inl (fun _ => nI 0))) hexec hb harr rfl hK hP hD hS hA (fun cA => ?_) (nI_pos h31) (nI_clamp h31) hb9 hcells hslots hdg (fun q cA H1 hK1 hP1 hD1 hS1 => ?_)
  · first | rfl | (rw [vp_cell_i]; rfl)
  · have e1 := (hK1.2 T.length (cA, .int) (by simp)).2
    have e2 := (hK.2 t0 _ ht).2
    have e3 : cA = cI := Option.some.inj (e1.symm.trans e2)
    subst e3
    exact kk q H1 hP1 hD1 hS1
theorem zn_newZ (hexec : p.tables.exec = Jvm.exec) (hb : c.code = cc) (harr : (Cond.arrayClass .boolean).before args s = true) (hK : va_K D cl T s) (hP : va_P D cl ws H) (hD : va_D A ws) (hS : va_S A H0 H locs) (hA : ∀ q, H0.size ≤ q → A q) (t0 : Nat) {cI : ClassId} (ht : T[t0]? = some (cI, .boolean))
    {N : Nat} (hN : N < 2 ^ 24) (hcells : cells + 1 ≤ R.cells) (hslots : slots + N ≤ R.slots) (hdg : decode cc pc = .ok (.newarray .boolean, 2))
    (kk : ∀ (q : Nat) (H1 : Heap), va_P D cl (ws ++ [(q, .inl (cI, N, .inl (fun _ => zb false)))]) H1 → va_D A (ws ++ [(q, .inl (cI, N, .inl (fun _ => zb false)))]) → va_S A H0 H1 locs → W p l e R s m args below meth c H1 locs (cells + 1) (slots + N) Q (F0 m (pc + 2) ls (.ref q :: rest))) : W p l e R s m args below meth c H locs cells slots Q (F0 m pc ls (.int (nI N) :: rest)) := by
  have h31 : N < 2 ^ 31 := Nat.lt_trans hN (by decide)
  have h9 : componentBytes .boolean ≤ 8 := by decide
  have hb9 : N * componentBytes .boolean ≤ 536870912 := Nat.le_trans (Nat.mul_le_mul_left N h9) (by omega)
  refine va_newa (atype := .boolean) (ty := .boolean) (a0 := (N, .inl (fun _ => zb false))) hexec hb harr rfl hK hP hD hS hA (fun cA => ?_) (nI_pos h31) (nI_clamp h31) hb9 hcells hslots hdg (fun q cA H1 hK1 hP1 hD1 hS1 => ?_)
  · first | rfl | (rw [vp_cell_i]; rfl)
  · have e1 := (hK1.2 T.length (cA, .boolean) (by simp)).2
    have e2 := (hK.2 t0 _ ht).2
    have e3 : cA = cI := Option.some.inj (e1.symm.trans e2)
    subst e3
    exact kk q H1 hP1 hD1 hS1
theorem zn_newJ (hexec : p.tables.exec = Jvm.exec) (hb : c.code = cc) (harr : (Cond.arrayClass .long).before args s = true) (hK : va_K D cl T s) (hP : va_P D cl ws H) (hD : va_D A ws) (hS : va_S A H0 H locs) (hA : ∀ q, H0.size ≤ q → A q) (t0 : Nat) {cI : ClassId} (ht : T[t0]? = some (cI, .long))
    {N : Nat} (hN : N < 2 ^ 24) (hcells : cells + 1 ≤ R.cells) (hslots : slots + N ≤ R.slots) (hdg : decode cc pc = .ok (.newarray .long, 2))
    (kk : ∀ (q : Nat) (H1 : Heap), va_P D cl (ws ++ [(q, .inl (cI, N, .inr (.inl (fun _ => 0))))]) H1 → va_D A (ws ++ [(q, .inl (cI, N, .inr (.inl (fun _ => 0))))]) → va_S A H0 H1 locs → W p l e R s m args below meth c H1 locs (cells + 1) (slots + N) Q (F0 m (pc + 2) ls (.ref q :: rest))) : W p l e R s m args below meth c H locs cells slots Q (F0 m pc ls (.int (nI N) :: rest)) := by
  have h31 : N < 2 ^ 31 := Nat.lt_trans hN (by decide)
  have h9 : componentBytes .long ≤ 8 := by decide
  have hb9 : N * componentBytes .long ≤ 536870912 := Nat.le_trans (Nat.mul_le_mul_left N h9) (by omega)
  refine va_newa (atype := .long) (ty := .long) (a0 := (N, .inr (.inl (fun _ => 0)))) hexec hb harr rfl hK hP hD hS hA (fun cA => ?_) (nI_pos h31) (nI_clamp h31) hb9 hcells hslots hdg (fun q cA H1 hK1 hP1 hD1 hS1 => ?_)
  · first | rfl | (rw [vp_cell_l]; rfl)
  · have e1 := (hK1.2 T.length (cA, .long) (by simp)).2
    have e2 := (hK.2 t0 _ ht).2
    have e3 : cA = cI := Option.some.inj (e1.symm.trans e2)
    subst e3
    exact kk q H1 hP1 hD1 hS1
end ZNEW
section ZM
variable {p : Program} {l : Launch} {e : Env} {R : Room} {s : State} {m : MethodId} {args : Array Value} {below : List Frame} {meth : Method} {c : Code} {H : Heap} {locs : List Loc} {cells slots : Nat} {Q : State → Prop}
variable {cc : ByteArray} {pc : Nat} {ls : Array Slot} {rest : List Value}
theorem zn_min {a b : Nat} (ha : a < 2 ^ 31) (hb : b < 2 ^ 31) : (if nI b < nI a then nI b else nI a) = nI (min a b) := by
  by_cases h : b < a
  · rw [if_pos ((nI_ltI hb ha).mpr h), Nat.min_eq_right (by omega)]
  · rw [if_neg (fun q => h ((nI_ltI hb ha).mp q)), Nat.min_eq_left (by omega)]
theorem zn_max {a b : Nat} (ha : a < 2 ^ 31) (hb : b < 2 ^ 31) : (if nI a < nI b then nI b else nI a) = nI (max a b) := by
  by_cases h : a < b
  · rw [if_pos ((nI_ltI ha hb).mpr h), Nat.max_eq_right (by omega)]
  · rw [if_neg (fun q => h ((nI_ltI ha hb).mp q)), Nat.max_eq_left (by omega)]
theorem zn_mmin (hexec : p.tables.exec = Jvm.exec) (hb : c.code = cc) (hml : c.maxLocals = ls.size) {own : String} {index : Nat} (hown : s.vm.findClass own = some m.cls) (hlink : (Cond.methodLink own index Lib.Math.min.name).before args s = true) (hstat : (Cond.static Lib.Math.min.name).before args s = true) (hini : (Cond.initialized "java/lang/Math").before args s = true) (hcode : (Cond.code Lib.Math.min.name Lib.Math.min.code 2 (some .int)).before args s = true)
    (hframes : 1 ≤ R.frames) (hlocals : (rest.map fun v => v.category).sum + 13 ≤ R.locals) (hc : cells ≤ R.cells) (hs : slots ≤ R.slots) {a b : Nat} (ha : a < 2 ^ 31) (hb2 : b < 2 ^ 31) (hdg : decode cc pc = .ok (.invokestatic index, 3))
    (kk : W p l e R s m args below meth c H locs cells slots Q (F0 m (pc + 3) ls (.int (nI (min a b)) :: rest))) : W p l e R s m args below meth c H locs cells slots Q (F0 m pc ls (.int (nI b) :: .int (nI a) :: rest)) := va_mmin hexec hb hml hown hlink hstat hini hcode hframes hlocals hc hs hdg (by rw [zn_min ha hb2]; exact kk)
theorem zn_mmax (hexec : p.tables.exec = Jvm.exec) (hb : c.code = cc) (hml : c.maxLocals = ls.size) {own : String} {index : Nat} (hown : s.vm.findClass own = some m.cls) (hlink : (Cond.methodLink own index Lib.Math.max.name).before args s = true) (hstat : (Cond.static Lib.Math.max.name).before args s = true) (hini : (Cond.initialized "java/lang/Math").before args s = true) (hcode : (Cond.code Lib.Math.max.name Lib.Math.max.code 2 (some .int)).before args s = true)
    (hframes : 1 ≤ R.frames) (hlocals : (rest.map fun v => v.category).sum + 13 ≤ R.locals) (hc : cells ≤ R.cells) (hs : slots ≤ R.slots) {a b : Nat} (ha : a < 2 ^ 31) (hb2 : b < 2 ^ 31) (hdg : decode cc pc = .ok (.invokestatic index, 3))
    (kk : W p l e R s m args below meth c H locs cells slots Q (F0 m (pc + 3) ls (.int (nI (max a b)) :: rest))) : W p l e R s m args below meth c H locs cells slots Q (F0 m pc ls (.int (nI b) :: .int (nI a) :: rest)) := va_mmax hexec hb hml hown hlink hstat hini hcode hframes hlocals hc hs hdg (by rw [zn_max ha hb2]; exact kk)
end ZM
end
section
theorem d_Tx_init_0 : decode b_Tx_init 0 = .ok (.aload_n 0, 1) := by decide +kernel
theorem d_Tx_init_1 : decode b_Tx_init 1 = .ok (.invokespecial 3, 3) := by decide +kernel
theorem d_Tx_init_4 : decode b_Tx_init 4 = .ok (.aload_n 0, 1) := by decide +kernel
theorem d_Tx_init_5 : decode b_Tx_init 5 = .ok (.iconst 4, 1) := by decide +kernel
theorem d_Tx_init_6 : decode b_Tx_init 6 = .ok (.newarray .int, 2) := by decide +kernel
theorem d_Tx_init_8 : decode b_Tx_init 8 = .ok (.putfield 9, 3) := by decide +kernel
theorem d_Tx_init_11 : decode b_Tx_init 11 = .ok (.aload_n 0, 1) := by decide +kernel
theorem d_Tx_init_12 : decode b_Tx_init 12 = .ok (.iconst 4, 1) := by decide +kernel
theorem d_Tx_init_13 : decode b_Tx_init 13 = .ok (.newarray .long, 2) := by decide +kernel
theorem d_Tx_init_15 : decode b_Tx_init 15 = .ok (.putfield 15, 3) := by decide +kernel
theorem d_Tx_init_18 : decode b_Tx_init 18 = .ok (.aload_n 0, 1) := by decide +kernel
theorem d_Tx_init_19 : decode b_Tx_init 19 = .ok (.iconst 0, 1) := by decide +kernel
theorem d_Tx_init_20 : decode b_Tx_init 20 = .ok (.putfield 19, 3) := by decide +kernel
theorem d_Tx_init_23 : decode b_Tx_init 23 = .ok (.aload_n 0, 1) := by decide +kernel
theorem d_Tx_init_24 : decode b_Tx_init 24 = .ok (.iconst 0, 1) := by decide +kernel
theorem d_Tx_init_25 : decode b_Tx_init 25 = .ok (.putfield 23, 3) := by decide +kernel
theorem d_Tx_init_28 : decode b_Tx_init 28 = .ok (.return_, 1) := by decide +kernel
theorem d_Dk_init_0 : decode b_Dk_init 0 = .ok (.aload_n 0, 1) := by decide +kernel
theorem d_Dk_init_1 : decode b_Dk_init 1 = .ok (.invokespecial 3, 3) := by decide +kernel
theorem d_Dk_init_4 : decode b_Dk_init 4 = .ok (.aload_n 0, 1) := by decide +kernel
theorem d_Dk_init_5 : decode b_Dk_init 5 = .ok (.bipush (8), 2) := by decide +kernel
theorem d_Dk_init_7 : decode b_Dk_init 7 = .ok (.newarray .int, 2) := by decide +kernel
theorem d_Dk_init_9 : decode b_Dk_init 9 = .ok (.putfield 9, 3) := by decide +kernel
theorem d_Dk_init_12 : decode b_Dk_init 12 = .ok (.aload_n 0, 1) := by decide +kernel
theorem d_Dk_init_13 : decode b_Dk_init 13 = .ok (.bipush (8), 2) := by decide +kernel
theorem d_Dk_init_15 : decode b_Dk_init 15 = .ok (.newarray .boolean, 2) := by decide +kernel
theorem d_Dk_init_17 : decode b_Dk_init 17 = .ok (.putfield 15, 3) := by decide +kernel
theorem d_Dk_init_20 : decode b_Dk_init 20 = .ok (.return_, 1) := by decide +kernel
theorem d_Lg_init_0 : decode b_Lg_init 0 = .ok (.aload_n 0, 1) := by decide +kernel
theorem d_Lg_init_1 : decode b_Lg_init 1 = .ok (.invokespecial 3, 3) := by decide +kernel
theorem d_Lg_init_4 : decode b_Lg_init 4 = .ok (.aload_n 0, 1) := by decide +kernel
theorem d_Lg_init_5 : decode b_Lg_init 5 = .ok (.sipush (801), 3) := by decide +kernel
theorem d_Lg_init_8 : decode b_Lg_init 8 = .ok (.newarray .int, 2) := by decide +kernel
theorem d_Lg_init_10 : decode b_Lg_init 10 = .ok (.putfield 9, 3) := by decide +kernel
theorem d_Lg_init_13 : decode b_Lg_init 13 = .ok (.aload_n 0, 1) := by decide +kernel
theorem d_Lg_init_14 : decode b_Lg_init 14 = .ok (.sipush (801), 3) := by decide +kernel
theorem d_Lg_init_17 : decode b_Lg_init 17 = .ok (.newarray .long, 2) := by decide +kernel
theorem d_Lg_init_19 : decode b_Lg_init 19 = .ok (.putfield 15, 3) := by decide +kernel
theorem d_Lg_init_22 : decode b_Lg_init 22 = .ok (.aload_n 0, 1) := by decide +kernel
theorem d_Lg_init_23 : decode b_Lg_init 23 = .ok (.bipush (32), 2) := by decide +kernel
theorem d_Lg_init_25 : decode b_Lg_init 25 = .ok (.newarray .long, 2) := by decide +kernel
theorem d_Lg_init_27 : decode b_Lg_init 27 = .ok (.putfield 19, 3) := by decide +kernel
theorem d_Lg_init_30 : decode b_Lg_init 30 = .ok (.aload_n 0, 1) := by decide +kernel
theorem d_Lg_init_31 : decode b_Lg_init 31 = .ok (.bipush (8), 2) := by decide +kernel
theorem d_Lg_init_33 : decode b_Lg_init 33 = .ok (.newarray .int, 2) := by decide +kernel
theorem d_Lg_init_35 : decode b_Lg_init 35 = .ok (.putfield 22, 3) := by decide +kernel
theorem d_Lg_init_38 : decode b_Lg_init 38 = .ok (.aload_n 0, 1) := by decide +kernel
theorem d_Lg_init_39 : decode b_Lg_init 39 = .ok (.iconst 0, 1) := by decide +kernel
theorem d_Lg_init_40 : decode b_Lg_init 40 = .ok (.putfield 25, 3) := by decide +kernel
theorem d_Lg_init_43 : decode b_Lg_init 43 = .ok (.aload_n 0, 1) := by decide +kernel
theorem d_Lg_init_44 : decode b_Lg_init 44 = .ok (.iconst 0, 1) := by decide +kernel
theorem d_Lg_init_45 : decode b_Lg_init 45 = .ok (.putfield 29, 3) := by decide +kernel
theorem d_Lg_init_48 : decode b_Lg_init 48 = .ok (.aload_n 0, 1) := by decide +kernel
theorem d_Lg_init_49 : decode b_Lg_init 49 = .ok (.iconst 0, 1) := by decide +kernel
theorem d_Lg_init_50 : decode b_Lg_init 50 = .ok (.putfield 32, 3) := by decide +kernel
theorem d_Lg_init_53 : decode b_Lg_init 53 = .ok (.aload_n 0, 1) := by decide +kernel
theorem d_Lg_init_54 : decode b_Lg_init 54 = .ok (.iconst 0, 1) := by decide +kernel
theorem d_Lg_init_55 : decode b_Lg_init 55 = .ok (.putfield 35, 3) := by decide +kernel
theorem d_Lg_init_58 : decode b_Lg_init 58 = .ok (.aload_n 0, 1) := by decide +kernel
theorem d_Lg_init_59 : decode b_Lg_init 59 = .ok (.iload_n 1, 1) := by decide +kernel
theorem d_Lg_init_60 : decode b_Lg_init 60 = .ok (.putfield 38, 3) := by decide +kernel
theorem d_Lg_init_63 : decode b_Lg_init 63 = .ok (.aload_n 0, 1) := by decide +kernel
theorem d_Lg_init_64 : decode b_Lg_init 64 = .ok (.getfield 19, 3) := by decide +kernel
theorem d_Lg_init_67 : decode b_Lg_init 67 = .ok (.ldc2_w 41, 3) := by decide +kernel
theorem d_Lg_init_70 : decode b_Lg_init 70 = .ok (.invokestatic 43, 3) := by decide +kernel
theorem d_Lg_init_73 : decode b_Lg_init 73 = .ok (.return_, 1) := by decide +kernel
theorem d_Bs_init_0 : decode b_Bs_init 0 = .ok (.aload_n 0, 1) := by decide +kernel
theorem d_Bs_init_1 : decode b_Bs_init 1 = .ok (.invokespecial 3, 3) := by decide +kernel
theorem d_Bs_init_4 : decode b_Bs_init 4 = .ok (.aload_n 0, 1) := by decide +kernel
theorem d_Bs_init_5 : decode b_Bs_init 5 = .ok (.new 9, 3) := by decide +kernel
theorem d_Bs_init_8 : decode b_Bs_init 8 = .ok (.dup, 1) := by decide +kernel
theorem d_Bs_init_9 : decode b_Bs_init 9 = .ok (.invokespecial 11, 3) := by decide +kernel
theorem d_Bs_init_12 : decode b_Bs_init 12 = .ok (.putfield 12, 3) := by decide +kernel
theorem d_Bs_init_15 : decode b_Bs_init 15 = .ok (.aload_n 0, 1) := by decide +kernel
theorem d_Bs_init_16 : decode b_Bs_init 16 = .ok (.aconst_null, 1) := by decide +kernel
theorem d_Bs_init_17 : decode b_Bs_init 17 = .ok (.putfield 18, 3) := by decide +kernel
theorem d_Bs_init_20 : decode b_Bs_init 20 = .ok (.aload_n 0, 1) := by decide +kernel
theorem d_Bs_init_21 : decode b_Bs_init 21 = .ok (.iconst 1, 1) := by decide +kernel
theorem d_Bs_init_22 : decode b_Bs_init 22 = .ok (.putfield 22, 3) := by decide +kernel
theorem d_Bs_init_25 : decode b_Bs_init 25 = .ok (.aload_n 0, 1) := by decide +kernel
theorem d_Bs_init_26 : decode b_Bs_init 26 = .ok (.iconst 0, 1) := by decide +kernel
theorem d_Bs_init_27 : decode b_Bs_init 27 = .ok (.putfield 26, 3) := by decide +kernel
theorem d_Bs_init_30 : decode b_Bs_init 30 = .ok (.aload_n 0, 1) := by decide +kernel
theorem d_Bs_init_31 : decode b_Bs_init 31 = .ok (.iload_n 1, 1) := by decide +kernel
theorem d_Bs_init_32 : decode b_Bs_init 32 = .ok (.putfield 29, 3) := by decide +kernel
theorem d_Bs_init_35 : decode b_Bs_init 35 = .ok (.return_, 1) := by decide +kernel
theorem d_Tx_isOpen_0 : decode b_Tx_isOpen 0 = .ok (.aload_n 0, 1) := by decide +kernel
theorem d_Tx_isOpen_1 : decode b_Tx_isOpen 1 = .ok (.getfield 23, 3) := by decide +kernel
theorem d_Tx_isOpen_4 : decode b_Tx_isOpen 4 = .ok (.ireturn, 1) := by decide +kernel
theorem d_Tx_open_0 : decode b_Tx_open 0 = .ok (.aload_n 0, 1) := by decide +kernel
theorem d_Tx_open_1 : decode b_Tx_open 1 = .ok (.iconst 1, 1) := by decide +kernel
theorem d_Tx_open_2 : decode b_Tx_open 2 = .ok (.putfield 23, 3) := by decide +kernel
theorem d_Tx_open_5 : decode b_Tx_open 5 = .ok (.return_, 1) := by decide +kernel
theorem d_Tx_takesAChange_0 : decode b_Tx_takesAChange 0 = .ok (.aload_n 0, 1) := by decide +kernel
theorem d_Tx_takesAChange_1 : decode b_Tx_takesAChange 1 = .ok (.getfield 23, 3) := by decide +kernel
theorem d_Tx_takesAChange_4 : decode b_Tx_takesAChange 4 = .ok (.ifCond .eq (15), 3) := by decide +kernel
theorem d_Tx_takesAChange_7 : decode b_Tx_takesAChange 7 = .ok (.aload_n 0, 1) := by decide +kernel
theorem d_Tx_takesAChange_8 : decode b_Tx_takesAChange 8 = .ok (.getfield 19, 3) := by decide +kernel
theorem d_Tx_takesAChange_11 : decode b_Tx_takesAChange 11 = .ok (.iconst 4, 1) := by decide +kernel
theorem d_Tx_takesAChange_12 : decode b_Tx_takesAChange 12 = .ok (.if_icmp .ge (7), 3) := by decide +kernel
theorem d_Tx_takesAChange_15 : decode b_Tx_takesAChange 15 = .ok (.iconst 1, 1) := by decide +kernel
theorem d_Tx_takesAChange_16 : decode b_Tx_takesAChange 16 = .ok (.goto (4), 3) := by decide +kernel
theorem d_Tx_takesAChange_19 : decode b_Tx_takesAChange 19 = .ok (.iconst 0, 1) := by decide +kernel
theorem d_Tx_takesAChange_20 : decode b_Tx_takesAChange 20 = .ok (.ireturn, 1) := by decide +kernel
theorem d_Tx_changes_0 : decode b_Tx_changes 0 = .ok (.aload_n 0, 1) := by decide +kernel
theorem d_Tx_changes_1 : decode b_Tx_changes 1 = .ok (.getfield 19, 3) := by decide +kernel
theorem d_Tx_changes_4 : decode b_Tx_changes 4 = .ok (.ireturn, 1) := by decide +kernel
theorem d_Lg_left_0 : decode b_Lg_left 0 = .ok (.aload_n 0, 1) := by decide +kernel
theorem d_Lg_left_1 : decode b_Lg_left 1 = .ok (.getfield 32, 3) := by decide +kernel
theorem d_Lg_left_4 : decode b_Lg_left 4 = .ok (.iconst 4, 1) := by decide +kernel
theorem d_Lg_left_5 : decode b_Lg_left 5 = .ok (.iadd, 1) := by decide +kernel
theorem d_Lg_left_6 : decode b_Lg_left 6 = .ok (.aload_n 0, 1) := by decide +kernel
theorem d_Lg_left_7 : decode b_Lg_left 7 = .ok (.getfield 38, 3) := by decide +kernel
theorem d_Lg_left_10 : decode b_Lg_left 10 = .ok (.imul, 1) := by decide +kernel
theorem d_Lg_left_11 : decode b_Lg_left 11 = .ok (.sipush (800), 3) := by decide +kernel
theorem d_Lg_left_14 : decode b_Lg_left 14 = .ok (.invokestatic 49, 3) := by decide +kernel
theorem d_Lg_left_17 : decode b_Lg_left 17 = .ok (.aload_n 0, 1) := by decide +kernel
theorem d_Lg_left_18 : decode b_Lg_left 18 = .ok (.getfield 25, 3) := by decide +kernel
theorem d_Lg_left_21 : decode b_Lg_left 21 = .ok (.isub, 1) := by decide +kernel
theorem d_Lg_left_22 : decode b_Lg_left 22 = .ok (.ireturn, 1) := by decide +kernel
theorem d_Lg_contentOf_0 : decode b_Lg_contentOf 0 = .ok (.aload_n 0, 1) := by decide +kernel
theorem d_Lg_contentOf_1 : decode b_Lg_contentOf 1 = .ok (.getfield 19, 3) := by decide +kernel
theorem d_Lg_contentOf_4 : decode b_Lg_contentOf 4 = .ok (.iload_n 1, 1) := by decide +kernel
theorem d_Lg_contentOf_5 : decode b_Lg_contentOf 5 = .ok (.laload, 1) := by decide +kernel
theorem d_Lg_contentOf_6 : decode b_Lg_contentOf 6 = .ok (.lreturn, 1) := by decide +kernel
theorem d_Tx_remember_0 : decode b_Tx_remember 0 = .ok (.aload_n 0, 1) := by decide +kernel
theorem d_Tx_remember_1 : decode b_Tx_remember 1 = .ok (.getfield 9, 3) := by decide +kernel
theorem d_Tx_remember_4 : decode b_Tx_remember 4 = .ok (.aload_n 0, 1) := by decide +kernel
theorem d_Tx_remember_5 : decode b_Tx_remember 5 = .ok (.getfield 19, 3) := by decide +kernel
theorem d_Tx_remember_8 : decode b_Tx_remember 8 = .ok (.iload_n 1, 1) := by decide +kernel
theorem d_Tx_remember_9 : decode b_Tx_remember 9 = .ok (.iastore, 1) := by decide +kernel
theorem d_Tx_remember_10 : decode b_Tx_remember 10 = .ok (.aload_n 0, 1) := by decide +kernel
theorem d_Tx_remember_11 : decode b_Tx_remember 11 = .ok (.getfield 15, 3) := by decide +kernel
theorem d_Tx_remember_14 : decode b_Tx_remember 14 = .ok (.aload_n 0, 1) := by decide +kernel
theorem d_Tx_remember_15 : decode b_Tx_remember 15 = .ok (.getfield 19, 3) := by decide +kernel
theorem d_Tx_remember_18 : decode b_Tx_remember 18 = .ok (.lload_n 2, 1) := by decide +kernel
theorem d_Tx_remember_19 : decode b_Tx_remember 19 = .ok (.lastore, 1) := by decide +kernel
theorem d_Tx_remember_20 : decode b_Tx_remember 20 = .ok (.aload_n 0, 1) := by decide +kernel
theorem d_Tx_remember_21 : decode b_Tx_remember 21 = .ok (.dup, 1) := by decide +kernel
theorem d_Tx_remember_22 : decode b_Tx_remember 22 = .ok (.getfield 19, 3) := by decide +kernel
theorem d_Tx_remember_25 : decode b_Tx_remember 25 = .ok (.iconst 1, 1) := by decide +kernel
theorem d_Tx_remember_26 : decode b_Tx_remember 26 = .ok (.iadd, 1) := by decide +kernel
theorem d_Tx_remember_27 : decode b_Tx_remember 27 = .ok (.putfield 19, 3) := by decide +kernel
theorem d_Tx_remember_30 : decode b_Tx_remember 30 = .ok (.return_, 1) := by decide +kernel
theorem d_Lg_addChange_0 : decode b_Lg_addChange 0 = .ok (.aload_n 0, 1) := by decide +kernel
theorem d_Lg_addChange_1 : decode b_Lg_addChange 1 = .ok (.iload_n 1, 1) := by decide +kernel
theorem d_Lg_addChange_2 : decode b_Lg_addChange 2 = .ok (.lload_n 2, 1) := by decide +kernel
theorem d_Lg_addChange_3 : decode b_Lg_addChange 3 = .ok (.invokevirtual 55, 3) := by decide +kernel
theorem d_Lg_addChange_6 : decode b_Lg_addChange 6 = .ok (.aload_n 0, 1) := by decide +kernel
theorem d_Lg_addChange_7 : decode b_Lg_addChange 7 = .ok (.getfield 19, 3) := by decide +kernel
theorem d_Lg_addChange_10 : decode b_Lg_addChange 10 = .ok (.iload_n 1, 1) := by decide +kernel
theorem d_Lg_addChange_11 : decode b_Lg_addChange 11 = .ok (.lload_n 2, 1) := by decide +kernel
theorem d_Lg_addChange_12 : decode b_Lg_addChange 12 = .ok (.lastore, 1) := by decide +kernel
theorem d_Lg_addChange_13 : decode b_Lg_addChange 13 = .ok (.aload_n 0, 1) := by decide +kernel
theorem d_Lg_addChange_14 : decode b_Lg_addChange 14 = .ok (.getfield 22, 3) := by decide +kernel
theorem d_Lg_addChange_17 : decode b_Lg_addChange 17 = .ok (.iload_n 1, 1) := by decide +kernel
theorem d_Lg_addChange_18 : decode b_Lg_addChange 18 = .ok (.iconst 4, 1) := by decide +kernel
theorem d_Lg_addChange_19 : decode b_Lg_addChange 19 = .ok (.idiv, 1) := by decide +kernel
theorem d_Lg_addChange_20 : decode b_Lg_addChange 20 = .ok (.aload_n 0, 1) := by decide +kernel
theorem d_Lg_addChange_21 : decode b_Lg_addChange 21 = .ok (.getfield 25, 3) := by decide +kernel
theorem d_Lg_addChange_24 : decode b_Lg_addChange 24 = .ok (.iastore, 1) := by decide +kernel
theorem d_Lg_addChange_25 : decode b_Lg_addChange 25 = .ok (.aload_n 0, 1) := by decide +kernel
theorem d_Lg_addChange_26 : decode b_Lg_addChange 26 = .ok (.getfield 25, 3) := by decide +kernel
theorem d_Lg_addChange_29 : decode b_Lg_addChange 29 = .ok (.ireturn, 1) := by decide +kernel
theorem d_Lg_addRecord_0 : decode b_Lg_addRecord 0 = .ok (.aload_n 0, 1) := by decide +kernel
theorem d_Lg_addRecord_1 : decode b_Lg_addRecord 1 = .ok (.dup, 1) := by decide +kernel
theorem d_Lg_addRecord_2 : decode b_Lg_addRecord 2 = .ok (.getfield 25, 3) := by decide +kernel
theorem d_Lg_addRecord_5 : decode b_Lg_addRecord 5 = .ok (.iconst 1, 1) := by decide +kernel
theorem d_Lg_addRecord_6 : decode b_Lg_addRecord 6 = .ok (.iadd, 1) := by decide +kernel
theorem d_Lg_addRecord_7 : decode b_Lg_addRecord 7 = .ok (.putfield 25, 3) := by decide +kernel
theorem d_Lg_addRecord_10 : decode b_Lg_addRecord 10 = .ok (.aload_n 0, 1) := by decide +kernel
theorem d_Lg_addRecord_11 : decode b_Lg_addRecord 11 = .ok (.getfield 9, 3) := by decide +kernel
theorem d_Lg_addRecord_14 : decode b_Lg_addRecord 14 = .ok (.aload_n 0, 1) := by decide +kernel
theorem d_Lg_addRecord_15 : decode b_Lg_addRecord 15 = .ok (.getfield 25, 3) := by decide +kernel
theorem d_Lg_addRecord_18 : decode b_Lg_addRecord 18 = .ok (.iload_n 1, 1) := by decide +kernel
theorem d_Lg_addRecord_19 : decode b_Lg_addRecord 19 = .ok (.iastore, 1) := by decide +kernel
theorem d_Lg_addRecord_20 : decode b_Lg_addRecord 20 = .ok (.aload_n 0, 1) := by decide +kernel
theorem d_Lg_addRecord_21 : decode b_Lg_addRecord 21 = .ok (.getfield 15, 3) := by decide +kernel
theorem d_Lg_addRecord_24 : decode b_Lg_addRecord 24 = .ok (.aload_n 0, 1) := by decide +kernel
theorem d_Lg_addRecord_25 : decode b_Lg_addRecord 25 = .ok (.getfield 25, 3) := by decide +kernel
theorem d_Lg_addRecord_28 : decode b_Lg_addRecord 28 = .ok (.lload_n 2, 1) := by decide +kernel
theorem d_Lg_addRecord_29 : decode b_Lg_addRecord 29 = .ok (.lastore, 1) := by decide +kernel
theorem d_Lg_addRecord_30 : decode b_Lg_addRecord 30 = .ok (.return_, 1) := by decide +kernel
theorem d_Tx_close_0 : decode b_Tx_close 0 = .ok (.aload_n 0, 1) := by decide +kernel
theorem d_Tx_close_1 : decode b_Tx_close 1 = .ok (.iconst 0, 1) := by decide +kernel
theorem d_Tx_close_2 : decode b_Tx_close 2 = .ok (.putfield 23, 3) := by decide +kernel
theorem d_Tx_close_5 : decode b_Tx_close 5 = .ok (.aload_n 0, 1) := by decide +kernel
theorem d_Tx_close_6 : decode b_Tx_close 6 = .ok (.iconst 0, 1) := by decide +kernel
theorem d_Tx_close_7 : decode b_Tx_close 7 = .ok (.putfield 19, 3) := by decide +kernel
theorem d_Tx_close_10 : decode b_Tx_close 10 = .ok (.return_, 1) := by decide +kernel
theorem d_Lg_addCommit_0 : decode b_Lg_addCommit 0 = .ok (.aload_n 0, 1) := by decide +kernel
theorem d_Lg_addCommit_1 : decode b_Lg_addCommit 1 = .ok (.iconst (-1), 1) := by decide +kernel
theorem d_Lg_addCommit_2 : decode b_Lg_addCommit 2 = .ok (.ldc2_w 41, 3) := by decide +kernel
theorem d_Lg_addCommit_5 : decode b_Lg_addCommit 5 = .ok (.invokevirtual 55, 3) := by decide +kernel
theorem d_Lg_addCommit_8 : decode b_Lg_addCommit 8 = .ok (.aload_n 0, 1) := by decide +kernel
theorem d_Lg_addCommit_9 : decode b_Lg_addCommit 9 = .ok (.dup, 1) := by decide +kernel
theorem d_Lg_addCommit_10 : decode b_Lg_addCommit 10 = .ok (.getfield 29, 3) := by decide +kernel
theorem d_Lg_addCommit_13 : decode b_Lg_addCommit 13 = .ok (.iconst 1, 1) := by decide +kernel
theorem d_Lg_addCommit_14 : decode b_Lg_addCommit 14 = .ok (.iadd, 1) := by decide +kernel
theorem d_Lg_addCommit_15 : decode b_Lg_addCommit 15 = .ok (.putfield 29, 3) := by decide +kernel
theorem d_Lg_addCommit_18 : decode b_Lg_addCommit 18 = .ok (.aload_n 0, 1) := by decide +kernel
theorem d_Lg_addCommit_19 : decode b_Lg_addCommit 19 = .ok (.getfield 29, 3) := by decide +kernel
theorem d_Lg_addCommit_22 : decode b_Lg_addCommit 22 = .ok (.ireturn, 1) := by decide +kernel
theorem d_Tx_undoIn_0 : decode b_Tx_undoIn 0 = .ok (.aload_n 0, 1) := by decide +kernel
theorem d_Tx_undoIn_1 : decode b_Tx_undoIn 1 = .ok (.getfield 19, 3) := by decide +kernel
theorem d_Tx_undoIn_4 : decode b_Tx_undoIn 4 = .ok (.iconst 1, 1) := by decide +kernel
theorem d_Tx_undoIn_5 : decode b_Tx_undoIn 5 = .ok (.isub, 1) := by decide +kernel
theorem d_Tx_undoIn_6 : decode b_Tx_undoIn 6 = .ok (.istore_n 2, 1) := by decide +kernel
theorem d_Tx_undoIn_7 : decode b_Tx_undoIn 7 = .ok (.iload_n 2, 1) := by decide +kernel
theorem d_Tx_undoIn_8 : decode b_Tx_undoIn 8 = .ok (.ifCond .lt (26), 3) := by decide +kernel
theorem d_Tx_undoIn_11 : decode b_Tx_undoIn 11 = .ok (.aload_n 1, 1) := by decide +kernel
theorem d_Tx_undoIn_12 : decode b_Tx_undoIn 12 = .ok (.aload_n 0, 1) := by decide +kernel
theorem d_Tx_undoIn_13 : decode b_Tx_undoIn 13 = .ok (.getfield 9, 3) := by decide +kernel
theorem d_Tx_undoIn_16 : decode b_Tx_undoIn 16 = .ok (.iload_n 2, 1) := by decide +kernel
theorem d_Tx_undoIn_17 : decode b_Tx_undoIn 17 = .ok (.iaload, 1) := by decide +kernel
theorem d_Tx_undoIn_18 : decode b_Tx_undoIn 18 = .ok (.aload_n 0, 1) := by decide +kernel
theorem d_Tx_undoIn_19 : decode b_Tx_undoIn 19 = .ok (.getfield 15, 3) := by decide +kernel
theorem d_Tx_undoIn_22 : decode b_Tx_undoIn 22 = .ok (.iload_n 2, 1) := by decide +kernel
theorem d_Tx_undoIn_23 : decode b_Tx_undoIn 23 = .ok (.laload, 1) := by decide +kernel
theorem d_Tx_undoIn_24 : decode b_Tx_undoIn 24 = .ok (.invokevirtual 27, 3) := by decide +kernel
theorem d_Tx_undoIn_27 : decode b_Tx_undoIn 27 = .ok (.pop, 1) := by decide +kernel
theorem d_Tx_undoIn_28 : decode b_Tx_undoIn 28 = .ok (.iinc 2 (-1), 3) := by decide +kernel
theorem d_Tx_undoIn_31 : decode b_Tx_undoIn 31 = .ok (.goto (-24), 3) := by decide +kernel
theorem d_Tx_undoIn_34 : decode b_Tx_undoIn 34 = .ok (.aload_n 0, 1) := by decide +kernel
theorem d_Tx_undoIn_35 : decode b_Tx_undoIn 35 = .ok (.getfield 19, 3) := by decide +kernel
theorem d_Tx_undoIn_38 : decode b_Tx_undoIn 38 = .ok (.ifCond .le (7), 3) := by decide +kernel
theorem d_Tx_undoIn_41 : decode b_Tx_undoIn 41 = .ok (.aload_n 1, 1) := by decide +kernel
theorem d_Tx_undoIn_42 : decode b_Tx_undoIn 42 = .ok (.invokevirtual 33, 3) := by decide +kernel
theorem d_Tx_undoIn_45 : decode b_Tx_undoIn 45 = .ok (.aload_n 0, 1) := by decide +kernel
theorem d_Tx_undoIn_46 : decode b_Tx_undoIn 46 = .ok (.invokevirtual 36, 3) := by decide +kernel
theorem d_Tx_undoIn_49 : decode b_Tx_undoIn 49 = .ok (.return_, 1) := by decide +kernel
theorem d_Lg_addEnd_0 : decode b_Lg_addEnd 0 = .ok (.aload_n 0, 1) := by decide +kernel
theorem d_Lg_addEnd_1 : decode b_Lg_addEnd 1 = .ok (.bipush (-2), 2) := by decide +kernel
theorem d_Lg_addEnd_3 : decode b_Lg_addEnd 3 = .ok (.ldc2_w 41, 3) := by decide +kernel
theorem d_Lg_addEnd_6 : decode b_Lg_addEnd 6 = .ok (.invokevirtual 55, 3) := by decide +kernel
theorem d_Lg_addEnd_9 : decode b_Lg_addEnd 9 = .ok (.return_, 1) := by decide +kernel
theorem d_Lg_numberOfPage_0 : decode b_Lg_numberOfPage 0 = .ok (.aload_n 0, 1) := by decide +kernel
theorem d_Lg_numberOfPage_1 : decode b_Lg_numberOfPage 1 = .ok (.getfield 22, 3) := by decide +kernel
theorem d_Lg_numberOfPage_4 : decode b_Lg_numberOfPage 4 = .ok (.iload_n 1, 1) := by decide +kernel
theorem d_Lg_numberOfPage_5 : decode b_Lg_numberOfPage 5 = .ok (.iaload, 1) := by decide +kernel
theorem d_Lg_numberOfPage_6 : decode b_Lg_numberOfPage 6 = .ok (.ireturn, 1) := by decide +kernel
theorem d_Dk_store_0 : decode b_Dk_store 0 = .ok (.aload_n 0, 1) := by decide +kernel
theorem d_Dk_store_1 : decode b_Dk_store 1 = .ok (.getfield 9, 3) := by decide +kernel
theorem d_Dk_store_4 : decode b_Dk_store 4 = .ok (.iload_n 1, 1) := by decide +kernel
theorem d_Dk_store_5 : decode b_Dk_store 5 = .ok (.iload_n 2, 1) := by decide +kernel
theorem d_Dk_store_6 : decode b_Dk_store 6 = .ok (.iastore, 1) := by decide +kernel
theorem d_Dk_store_7 : decode b_Dk_store 7 = .ok (.aload_n 0, 1) := by decide +kernel
theorem d_Dk_store_8 : decode b_Dk_store 8 = .ok (.getfield 15, 3) := by decide +kernel
theorem d_Dk_store_11 : decode b_Dk_store 11 = .ok (.iload_n 1, 1) := by decide +kernel
theorem d_Dk_store_12 : decode b_Dk_store 12 = .ok (.iconst 0, 1) := by decide +kernel
theorem d_Dk_store_13 : decode b_Dk_store 13 = .ok (.bastore, 1) := by decide +kernel
theorem d_Dk_store_14 : decode b_Dk_store 14 = .ok (.return_, 1) := by decide +kernel
theorem d_Lg_archiveOldest_0 : decode b_Lg_archiveOldest 0 = .ok (.aload_n 0, 1) := by decide +kernel
theorem d_Lg_archiveOldest_1 : decode b_Lg_archiveOldest 1 = .ok (.getfield 25, 3) := by decide +kernel
theorem d_Lg_archiveOldest_4 : decode b_Lg_archiveOldest 4 = .ok (.aload_n 0, 1) := by decide +kernel
theorem d_Lg_archiveOldest_5 : decode b_Lg_archiveOldest 5 = .ok (.getfield 32, 3) := by decide +kernel
theorem d_Lg_archiveOldest_8 : decode b_Lg_archiveOldest 8 = .ok (.iconst 1, 1) := by decide +kernel
theorem d_Lg_archiveOldest_9 : decode b_Lg_archiveOldest 9 = .ok (.iadd, 1) := by decide +kernel
theorem d_Lg_archiveOldest_10 : decode b_Lg_archiveOldest 10 = .ok (.aload_n 0, 1) := by decide +kernel
theorem d_Lg_archiveOldest_11 : decode b_Lg_archiveOldest 11 = .ok (.getfield 38, 3) := by decide +kernel
theorem d_Lg_archiveOldest_14 : decode b_Lg_archiveOldest 14 = .ok (.imul, 1) := by decide +kernel
theorem d_Lg_archiveOldest_15 : decode b_Lg_archiveOldest 15 = .ok (.if_icmp .ge (5), 3) := by decide +kernel
theorem d_Lg_archiveOldest_18 : decode b_Lg_archiveOldest 18 = .ok (.iconst (-1), 1) := by decide +kernel
theorem d_Lg_archiveOldest_19 : decode b_Lg_archiveOldest 19 = .ok (.ireturn, 1) := by decide +kernel
theorem d_Lg_archiveOldest_20 : decode b_Lg_archiveOldest 20 = .ok (.aload_n 0, 1) := by decide +kernel
theorem d_Lg_archiveOldest_21 : decode b_Lg_archiveOldest 21 = .ok (.dup, 1) := by decide +kernel
theorem d_Lg_archiveOldest_22 : decode b_Lg_archiveOldest 22 = .ok (.getfield 32, 3) := by decide +kernel
theorem d_Lg_archiveOldest_25 : decode b_Lg_archiveOldest 25 = .ok (.iconst 1, 1) := by decide +kernel
theorem d_Lg_archiveOldest_26 : decode b_Lg_archiveOldest 26 = .ok (.iadd, 1) := by decide +kernel
theorem d_Lg_archiveOldest_27 : decode b_Lg_archiveOldest 27 = .ok (.putfield 32, 3) := by decide +kernel
theorem d_Lg_archiveOldest_30 : decode b_Lg_archiveOldest 30 = .ok (.aload_n 0, 1) := by decide +kernel
theorem d_Lg_archiveOldest_31 : decode b_Lg_archiveOldest 31 = .ok (.getfield 32, 3) := by decide +kernel
theorem d_Lg_archiveOldest_34 : decode b_Lg_archiveOldest 34 = .ok (.ireturn, 1) := by decide +kernel
theorem d_Lg_latest_0 : decode b_Lg_latest 0 = .ok (.aload_n 0, 1) := by decide +kernel
theorem d_Lg_latest_1 : decode b_Lg_latest 1 = .ok (.getfield 25, 3) := by decide +kernel
theorem d_Lg_latest_4 : decode b_Lg_latest 4 = .ok (.ireturn, 1) := by decide +kernel
theorem d_Bs_start_0 : decode b_Bs_start 0 = .ok (.aload_n 0, 1) := by decide +kernel
theorem d_Bs_start_1 : decode b_Bs_start 1 = .ok (.getfield 18, 3) := by decide +kernel
theorem d_Bs_start_4 : decode b_Bs_start 4 = .ok (.ifnonnull (24), 3) := by decide +kernel
theorem d_Bs_start_7 : decode b_Bs_start 7 = .ok (.iload_n 1, 1) := by decide +kernel
theorem d_Bs_start_8 : decode b_Bs_start 8 = .ok (.ifCond .ne (10), 3) := by decide +kernel
theorem d_Bs_start_11 : decode b_Bs_start 11 = .ok (.aload_n 0, 1) := by decide +kernel
theorem d_Bs_start_12 : decode b_Bs_start 12 = .ok (.getfield 26, 3) := by decide +kernel
theorem d_Bs_start_15 : decode b_Bs_start 15 = .ok (.ifCond .eq (13), 3) := by decide +kernel
theorem d_Bs_start_18 : decode b_Bs_start 18 = .ok (.aload_n 0, 1) := by decide +kernel
theorem d_Bs_start_19 : decode b_Bs_start 19 = .ok (.invokevirtual 45, 3) := by decide +kernel
theorem d_Bs_start_22 : decode b_Bs_start 22 = .ok (.sipush (256), 3) := by decide +kernel
theorem d_Bs_start_25 : decode b_Bs_start 25 = .ok (.if_icmp .ne (5), 3) := by decide +kernel
theorem d_Bs_start_28 : decode b_Bs_start 28 = .ok (.iconst (-1), 1) := by decide +kernel
theorem d_Bs_start_29 : decode b_Bs_start 29 = .ok (.ireturn, 1) := by decide +kernel
theorem d_Bs_start_30 : decode b_Bs_start 30 = .ok (.aload_n 0, 1) := by decide +kernel
theorem d_Bs_start_31 : decode b_Bs_start 31 = .ok (.new 40, 3) := by decide +kernel
theorem d_Bs_start_34 : decode b_Bs_start 34 = .ok (.dup, 1) := by decide +kernel
theorem d_Bs_start_35 : decode b_Bs_start 35 = .ok (.iload_n 1, 1) := by decide +kernel
theorem d_Bs_start_36 : decode b_Bs_start 36 = .ok (.iload_n 2, 1) := by decide +kernel
theorem d_Bs_start_37 : decode b_Bs_start 37 = .ok (.invokespecial 48, 3) := by decide +kernel
theorem d_Bs_start_40 : decode b_Bs_start 40 = .ok (.putfield 18, 3) := by decide +kernel
theorem d_Bs_start_43 : decode b_Bs_start 43 = .ok (.iconst 0, 1) := by decide +kernel
theorem d_Bs_start_44 : decode b_Bs_start 44 = .ok (.ireturn, 1) := by decide +kernel
theorem d_Bs_howMany_0 : decode b_Bs_howMany 0 = .ok (.aload_n 0, 1) := by decide +kernel
theorem d_Bs_howMany_1 : decode b_Bs_howMany 1 = .ok (.getfield 12, 3) := by decide +kernel
theorem d_Bs_howMany_4 : decode b_Bs_howMany 4 = .ok (.invokevirtual 32, 3) := by decide +kernel
theorem d_Bs_howMany_7 : decode b_Bs_howMany 7 = .ok (.ireturn, 1) := by decide +kernel
theorem d_Bk_init_0 : decode b_Bk_init 0 = .ok (.aload_n 0, 1) := by decide +kernel
theorem d_Bk_init_1 : decode b_Bk_init 1 = .ok (.invokespecial 3, 3) := by decide +kernel
theorem d_Bk_init_4 : decode b_Bk_init 4 = .ok (.aload_n 0, 1) := by decide +kernel
theorem d_Bk_init_5 : decode b_Bk_init 5 = .ok (.bipush (8), 2) := by decide +kernel
theorem d_Bk_init_7 : decode b_Bk_init 7 = .ok (.newarray .int, 2) := by decide +kernel
theorem d_Bk_init_9 : decode b_Bk_init 9 = .ok (.putfield 9, 3) := by decide +kernel
theorem d_Bk_init_12 : decode b_Bk_init 12 = .ok (.aload_n 0, 1) := by decide +kernel
theorem d_Bk_init_13 : decode b_Bk_init 13 = .ok (.iconst 0, 1) := by decide +kernel
theorem d_Bk_init_14 : decode b_Bk_init 14 = .ok (.putfield 15, 3) := by decide +kernel
theorem d_Bk_init_17 : decode b_Bk_init 17 = .ok (.aload_n 0, 1) := by decide +kernel
theorem d_Bk_init_18 : decode b_Bk_init 18 = .ok (.iconst 0, 1) := by decide +kernel
theorem d_Bk_init_19 : decode b_Bk_init 19 = .ok (.putfield 19, 3) := by decide +kernel
theorem d_Bk_init_22 : decode b_Bk_init 22 = .ok (.aload_n 0, 1) := by decide +kernel
theorem d_Bk_init_23 : decode b_Bk_init 23 = .ok (.iconst 0, 1) := by decide +kernel
theorem d_Bk_init_24 : decode b_Bk_init 24 = .ok (.putfield 22, 3) := by decide +kernel
theorem d_Bk_init_27 : decode b_Bk_init 27 = .ok (.aload_n 0, 1) := by decide +kernel
theorem d_Bk_init_28 : decode b_Bk_init 28 = .ok (.iload_n 1, 1) := by decide +kernel
theorem d_Bk_init_29 : decode b_Bk_init 29 = .ok (.putfield 25, 3) := by decide +kernel
theorem d_Bk_init_32 : decode b_Bk_init 32 = .ok (.aload_n 0, 1) := by decide +kernel
theorem d_Bk_init_33 : decode b_Bk_init 33 = .ok (.iload_n 2, 1) := by decide +kernel
theorem d_Bk_init_34 : decode b_Bk_init 34 = .ok (.putfield 29, 3) := by decide +kernel
theorem d_Bk_init_37 : decode b_Bk_init 37 = .ok (.aload_n 0, 1) := by decide +kernel
theorem d_Bk_init_38 : decode b_Bk_init 38 = .ok (.getfield 9, 3) := by decide +kernel
theorem d_Bk_init_41 : decode b_Bk_init 41 = .ok (.iconst (-1), 1) := by decide +kernel
theorem d_Bk_init_42 : decode b_Bk_init 42 = .ok (.invokestatic 32, 3) := by decide +kernel
theorem d_Bk_init_45 : decode b_Bk_init 45 = .ok (.return_, 1) := by decide +kernel
theorem d_Bs_visit_0 : decode b_Bs_visit 0 = .ok (.aload_n 0, 1) := by decide +kernel
theorem d_Bs_visit_1 : decode b_Bs_visit 1 = .ok (.getfield 18, 3) := by decide +kernel
theorem d_Bs_visit_4 : decode b_Bs_visit 4 = .ok (.ifnonnull (5), 3) := by decide +kernel
theorem d_Bs_visit_7 : decode b_Bs_visit 7 = .ok (.iconst (-1), 1) := by decide +kernel
theorem d_Bs_visit_8 : decode b_Bs_visit 8 = .ok (.ireturn, 1) := by decide +kernel
theorem d_Bs_visit_9 : decode b_Bs_visit 9 = .ok (.bipush (8), 2) := by decide +kernel
theorem d_Bs_visit_11 : decode b_Bs_visit 11 = .ok (.aload_n 0, 1) := by decide +kernel
theorem d_Bs_visit_12 : decode b_Bs_visit 12 = .ok (.getfield 18, 3) := by decide +kernel
theorem d_Bs_visit_15 : decode b_Bs_visit 15 = .ok (.getfield 42, 3) := by decide +kernel
theorem d_Bs_visit_18 : decode b_Bs_visit 18 = .ok (.iload_n 1, 1) := by decide +kernel
theorem d_Bs_visit_19 : decode b_Bs_visit 19 = .ok (.iadd, 1) := by decide +kernel
theorem d_Bs_visit_20 : decode b_Bs_visit 20 = .ok (.invokestatic 51, 3) := by decide +kernel
theorem d_Bs_visit_23 : decode b_Bs_visit 23 = .ok (.istore_n 3, 1) := by decide +kernel
theorem d_Bs_visit_24 : decode b_Bs_visit 24 = .ok (.aload_n 0, 1) := by decide +kernel
theorem d_Bs_visit_25 : decode b_Bs_visit 25 = .ok (.getfield 18, 3) := by decide +kernel
theorem d_Bs_visit_28 : decode b_Bs_visit 28 = .ok (.getfield 42, 3) := by decide +kernel
theorem d_Bs_visit_31 : decode b_Bs_visit 31 = .ok (.istore 4, 2) := by decide +kernel
theorem d_Bs_visit_33 : decode b_Bs_visit 33 = .ok (.iload 4, 2) := by decide +kernel
theorem d_Bs_visit_35 : decode b_Bs_visit 35 = .ok (.iload_n 3, 1) := by decide +kernel
theorem d_Bs_visit_36 : decode b_Bs_visit 36 = .ok (.if_icmp .ge (47), 3) := by decide +kernel
theorem d_Bs_visit_39 : decode b_Bs_visit 39 = .ok (.aload_n 2, 1) := by decide +kernel
theorem d_Bs_visit_40 : decode b_Bs_visit 40 = .ok (.iload 4, 2) := by decide +kernel
theorem d_Bs_visit_42 : decode b_Bs_visit 42 = .ok (.invokevirtual 57, 3) := by decide +kernel
theorem d_Bs_visit_45 : decode b_Bs_visit 45 = .ok (.istore 5, 2) := by decide +kernel
theorem d_Bs_visit_47 : decode b_Bs_visit 47 = .ok (.aload_n 0, 1) := by decide +kernel
theorem d_Bs_visit_48 : decode b_Bs_visit 48 = .ok (.getfield 18, 3) := by decide +kernel
theorem d_Bs_visit_51 : decode b_Bs_visit 51 = .ok (.getfield 63, 3) := by decide +kernel
theorem d_Bs_visit_54 : decode b_Bs_visit 54 = .ok (.ifCond .ne (12), 3) := by decide +kernel
theorem d_Bs_visit_57 : decode b_Bs_visit 57 = .ok (.iload 5, 2) := by decide +kernel
theorem d_Bs_visit_59 : decode b_Bs_visit 59 = .ok (.aload_n 0, 1) := by decide +kernel
theorem d_Bs_visit_60 : decode b_Bs_visit 60 = .ok (.invokevirtual 67, 3) := by decide +kernel
theorem d_Bs_visit_63 : decode b_Bs_visit 63 = .ok (.if_icmp .le (14), 3) := by decide +kernel
theorem d_Bs_visit_66 : decode b_Bs_visit 66 = .ok (.aload_n 0, 1) := by decide +kernel
theorem d_Bs_visit_67 : decode b_Bs_visit 67 = .ok (.getfield 18, 3) := by decide +kernel
theorem d_Bs_visit_70 : decode b_Bs_visit 70 = .ok (.iload 4, 2) := by decide +kernel
theorem d_Bs_visit_72 : decode b_Bs_visit 72 = .ok (.iload 5, 2) := by decide +kernel
theorem d_Bs_visit_74 : decode b_Bs_visit 74 = .ok (.invokevirtual 70, 3) := by decide +kernel
theorem d_Bs_visit_77 : decode b_Bs_visit 77 = .ok (.iinc 4 (1), 3) := by decide +kernel
theorem d_Bs_visit_80 : decode b_Bs_visit 80 = .ok (.goto (-47), 3) := by decide +kernel
theorem d_Bs_visit_83 : decode b_Bs_visit 83 = .ok (.aload_n 0, 1) := by decide +kernel
theorem d_Bs_visit_84 : decode b_Bs_visit 84 = .ok (.getfield 18, 3) := by decide +kernel
theorem d_Bs_visit_87 : decode b_Bs_visit 87 = .ok (.iload_n 3, 1) := by decide +kernel
theorem d_Bs_visit_88 : decode b_Bs_visit 88 = .ok (.putfield 42, 3) := by decide +kernel
theorem d_Bs_visit_91 : decode b_Bs_visit 91 = .ok (.iload_n 3, 1) := by decide +kernel
theorem d_Bs_visit_92 : decode b_Bs_visit 92 = .ok (.bipush (8), 2) := by decide +kernel
theorem d_Bs_visit_94 : decode b_Bs_visit 94 = .ok (.if_icmp .ne (12), 3) := by decide +kernel
theorem d_Bs_visit_97 : decode b_Bs_visit 97 = .ok (.aload_n 0, 1) := by decide +kernel
theorem d_Bs_visit_98 : decode b_Bs_visit 98 = .ok (.aload_n 0, 1) := by decide +kernel
theorem d_Bs_visit_99 : decode b_Bs_visit 99 = .ok (.getfield 18, 3) := by decide +kernel
theorem d_Bs_visit_102 : decode b_Bs_visit 102 = .ok (.aload_n 2, 1) := by decide +kernel
theorem d_Bs_visit_103 : decode b_Bs_visit 103 = .ok (.invokevirtual 74, 3) := by decide +kernel
theorem d_Bs_visit_106 : decode b_Bs_visit 106 = .ok (.bipush (8), 2) := by decide +kernel
theorem d_Bs_visit_108 : decode b_Bs_visit 108 = .ok (.iload_n 3, 1) := by decide +kernel
theorem d_Bs_visit_109 : decode b_Bs_visit 109 = .ok (.isub, 1) := by decide +kernel
theorem d_Bs_visit_110 : decode b_Bs_visit 110 = .ok (.ireturn, 1) := by decide +kernel
theorem d_Bs_startOfLatest_0 : decode b_Bs_startOfLatest 0 = .ok (.aload_n 0, 1) := by decide +kernel
theorem d_Bs_startOfLatest_1 : decode b_Bs_startOfLatest 1 = .ok (.getfield 12, 3) := by decide +kernel
theorem d_Bs_startOfLatest_4 : decode b_Bs_startOfLatest 4 = .ok (.invokevirtual 78, 3) := by decide +kernel
theorem d_Bs_startOfLatest_7 : decode b_Bs_startOfLatest 7 = .ok (.ifCond .eq (7), 3) := by decide +kernel
theorem d_Bs_startOfLatest_10 : decode b_Bs_startOfLatest 10 = .ok (.iconst 0, 1) := by decide +kernel
theorem d_Bs_startOfLatest_11 : decode b_Bs_startOfLatest 11 = .ok (.goto (14), 3) := by decide +kernel
theorem d_Bs_startOfLatest_14 : decode b_Bs_startOfLatest 14 = .ok (.aload_n 0, 1) := by decide +kernel
theorem d_Bs_startOfLatest_15 : decode b_Bs_startOfLatest 15 = .ok (.aload_n 0, 1) := by decide +kernel
theorem d_Bs_startOfLatest_16 : decode b_Bs_startOfLatest 16 = .ok (.invokevirtual 45, 3) := by decide +kernel
theorem d_Bs_startOfLatest_19 : decode b_Bs_startOfLatest 19 = .ok (.invokevirtual 82, 3) := by decide +kernel
theorem d_Bs_startOfLatest_22 : decode b_Bs_startOfLatest 22 = .ok (.getfield 86, 3) := by decide +kernel
theorem d_Bs_startOfLatest_25 : decode b_Bs_startOfLatest 25 = .ok (.ireturn, 1) := by decide +kernel
theorem d_Bs_numbered_0 : decode b_Bs_numbered 0 = .ok (.aload_n 0, 1) := by decide +kernel
theorem d_Bs_numbered_1 : decode b_Bs_numbered 1 = .ok (.getfield 12, 3) := by decide +kernel
theorem d_Bs_numbered_4 : decode b_Bs_numbered 4 = .ok (.iload_n 1, 1) := by decide +kernel
theorem d_Bs_numbered_5 : decode b_Bs_numbered 5 = .ok (.iconst 1, 1) := by decide +kernel
theorem d_Bs_numbered_6 : decode b_Bs_numbered 6 = .ok (.isub, 1) := by decide +kernel
theorem d_Bs_numbered_7 : decode b_Bs_numbered 7 = .ok (.invokevirtual 36, 3) := by decide +kernel
theorem d_Bs_numbered_10 : decode b_Bs_numbered 10 = .ok (.checkcast 40, 3) := by decide +kernel
theorem d_Bs_numbered_13 : decode b_Bs_numbered 13 = .ok (.areturn, 1) := by decide +kernel
theorem d_Bk_takeImage_0 : decode b_Bk_takeImage 0 = .ok (.aload_n 0, 1) := by decide +kernel
theorem d_Bk_takeImage_1 : decode b_Bk_takeImage 1 = .ok (.getfield 9, 3) := by decide +kernel
theorem d_Bk_takeImage_4 : decode b_Bk_takeImage 4 = .ok (.iload_n 1, 1) := by decide +kernel
theorem d_Bk_takeImage_5 : decode b_Bk_takeImage 5 = .ok (.iload_n 2, 1) := by decide +kernel
theorem d_Bk_takeImage_6 : decode b_Bk_takeImage 6 = .ok (.iastore, 1) := by decide +kernel
theorem d_Bk_takeImage_7 : decode b_Bk_takeImage 7 = .ok (.aload_n 0, 1) := by decide +kernel
theorem d_Bk_takeImage_8 : decode b_Bk_takeImage 8 = .ok (.dup, 1) := by decide +kernel
theorem d_Bk_takeImage_9 : decode b_Bk_takeImage 9 = .ok (.getfield 19, 3) := by decide +kernel
theorem d_Bk_takeImage_12 : decode b_Bk_takeImage 12 = .ok (.iconst 1, 1) := by decide +kernel
theorem d_Bk_takeImage_13 : decode b_Bk_takeImage 13 = .ok (.iadd, 1) := by decide +kernel
theorem d_Bk_takeImage_14 : decode b_Bk_takeImage 14 = .ok (.putfield 19, 3) := by decide +kernel
theorem d_Bk_takeImage_17 : decode b_Bk_takeImage 17 = .ok (.return_, 1) := by decide +kernel
theorem d_Bs_finish_0 : decode b_Bs_finish 0 = .ok (.aload_n 1, 1) := by decide +kernel
theorem d_Bs_finish_1 : decode b_Bs_finish 1 = .ok (.aload_n 2, 1) := by decide +kernel
theorem d_Bs_finish_2 : decode b_Bs_finish 2 = .ok (.invokevirtual 89, 3) := by decide +kernel
theorem d_Bs_finish_5 : decode b_Bs_finish 5 = .ok (.putfield 92, 3) := by decide +kernel
theorem d_Bs_finish_8 : decode b_Bs_finish 8 = .ok (.aload_n 0, 1) := by decide +kernel
theorem d_Bs_finish_9 : decode b_Bs_finish 9 = .ok (.getfield 12, 3) := by decide +kernel
theorem d_Bs_finish_12 : decode b_Bs_finish 12 = .ok (.aload_n 1, 1) := by decide +kernel
theorem d_Bs_finish_13 : decode b_Bs_finish 13 = .ok (.invokevirtual 95, 3) := by decide +kernel
theorem d_Bs_finish_16 : decode b_Bs_finish 16 = .ok (.pop, 1) := by decide +kernel
theorem d_Bs_finish_17 : decode b_Bs_finish 17 = .ok (.aload_n 0, 1) := by decide +kernel
theorem d_Bs_finish_18 : decode b_Bs_finish 18 = .ok (.aconst_null, 1) := by decide +kernel
theorem d_Bs_finish_19 : decode b_Bs_finish 19 = .ok (.putfield 18, 3) := by decide +kernel
theorem d_Bs_finish_22 : decode b_Bs_finish 22 = .ok (.aload_n 1, 1) := by decide +kernel
theorem d_Bs_finish_23 : decode b_Bs_finish 23 = .ok (.getfield 63, 3) := by decide +kernel
theorem d_Bs_finish_26 : decode b_Bs_finish 26 = .ok (.ifCond .eq (13), 3) := by decide +kernel
theorem d_Bs_finish_29 : decode b_Bs_finish 29 = .ok (.aload_n 0, 1) := by decide +kernel
theorem d_Bs_finish_30 : decode b_Bs_finish 30 = .ok (.dup, 1) := by decide +kernel
theorem d_Bs_finish_31 : decode b_Bs_finish 31 = .ok (.getfield 26, 3) := by decide +kernel
theorem d_Bs_finish_34 : decode b_Bs_finish 34 = .ok (.iconst 1, 1) := by decide +kernel
theorem d_Bs_finish_35 : decode b_Bs_finish 35 = .ok (.iadd, 1) := by decide +kernel
theorem d_Bs_finish_36 : decode b_Bs_finish 36 = .ok (.putfield 26, 3) := by decide +kernel
theorem d_Bs_finish_39 : decode b_Bs_finish 39 = .ok (.aload_n 0, 1) := by decide +kernel
theorem d_Bs_finish_40 : decode b_Bs_finish 40 = .ok (.getfield 26, 3) := by decide +kernel
theorem d_Bs_finish_43 : decode b_Bs_finish 43 = .ok (.aload_n 0, 1) := by decide +kernel
theorem d_Bs_finish_44 : decode b_Bs_finish 44 = .ok (.getfield 29, 3) := by decide +kernel
theorem d_Bs_finish_47 : decode b_Bs_finish 47 = .ok (.if_icmp .le (22), 3) := by decide +kernel
theorem d_Bs_finish_50 : decode b_Bs_finish 50 = .ok (.aload_n 0, 1) := by decide +kernel
theorem d_Bs_finish_51 : decode b_Bs_finish 51 = .ok (.invokevirtual 99, 3) := by decide +kernel
theorem d_Bs_finish_54 : decode b_Bs_finish 54 = .ok (.aload_n 2, 1) := by decide +kernel
theorem d_Bs_finish_55 : decode b_Bs_finish 55 = .ok (.aload_n 0, 1) := by decide +kernel
theorem d_Bs_finish_56 : decode b_Bs_finish 56 = .ok (.aload_n 0, 1) := by decide +kernel
theorem d_Bs_finish_57 : decode b_Bs_finish 57 = .ok (.getfield 22, 3) := by decide +kernel
theorem d_Bs_finish_60 : decode b_Bs_finish 60 = .ok (.invokevirtual 82, 3) := by decide +kernel
theorem d_Bs_finish_63 : decode b_Bs_finish 63 = .ok (.getfield 86, 3) := by decide +kernel
theorem d_Bs_finish_66 : decode b_Bs_finish 66 = .ok (.invokevirtual 102, 3) := by decide +kernel
theorem d_Bs_finish_69 : decode b_Bs_finish 69 = .ok (.return_, 1) := by decide +kernel
theorem d_Bs_dropOldest_0 : decode b_Bs_dropOldest 0 = .ok (.aload_n 0, 1) := by decide +kernel
theorem d_Bs_dropOldest_1 : decode b_Bs_dropOldest 1 = .ok (.dup, 1) := by decide +kernel
theorem d_Bs_dropOldest_2 : decode b_Bs_dropOldest 2 = .ok (.getfield 26, 3) := by decide +kernel
theorem d_Bs_dropOldest_5 : decode b_Bs_dropOldest 5 = .ok (.iconst 1, 1) := by decide +kernel
theorem d_Bs_dropOldest_6 : decode b_Bs_dropOldest 6 = .ok (.isub, 1) := by decide +kernel
theorem d_Bs_dropOldest_7 : decode b_Bs_dropOldest 7 = .ok (.putfield 26, 3) := by decide +kernel
theorem d_Bs_dropOldest_10 : decode b_Bs_dropOldest 10 = .ok (.aload_n 0, 1) := by decide +kernel
theorem d_Bs_dropOldest_11 : decode b_Bs_dropOldest 11 = .ok (.dup, 1) := by decide +kernel
theorem d_Bs_dropOldest_12 : decode b_Bs_dropOldest 12 = .ok (.getfield 22, 3) := by decide +kernel
theorem d_Bs_dropOldest_15 : decode b_Bs_dropOldest 15 = .ok (.iconst 1, 1) := by decide +kernel
theorem d_Bs_dropOldest_16 : decode b_Bs_dropOldest 16 = .ok (.iadd, 1) := by decide +kernel
theorem d_Bs_dropOldest_17 : decode b_Bs_dropOldest 17 = .ok (.putfield 22, 3) := by decide +kernel
theorem d_Bs_dropOldest_20 : decode b_Bs_dropOldest 20 = .ok (.aload_n 0, 1) := by decide +kernel
theorem d_Bs_dropOldest_21 : decode b_Bs_dropOldest 21 = .ok (.getfield 22, 3) := by decide +kernel
theorem d_Bs_dropOldest_24 : decode b_Bs_dropOldest 24 = .ok (.aload_n 0, 1) := by decide +kernel
theorem d_Bs_dropOldest_25 : decode b_Bs_dropOldest 25 = .ok (.invokevirtual 45, 3) := by decide +kernel
theorem d_Bs_dropOldest_28 : decode b_Bs_dropOldest 28 = .ok (.if_icmp .ge (30), 3) := by decide +kernel
theorem d_Bs_dropOldest_31 : decode b_Bs_dropOldest 31 = .ok (.aload_n 0, 1) := by decide +kernel
theorem d_Bs_dropOldest_32 : decode b_Bs_dropOldest 32 = .ok (.aload_n 0, 1) := by decide +kernel
theorem d_Bs_dropOldest_33 : decode b_Bs_dropOldest 33 = .ok (.getfield 22, 3) := by decide +kernel
theorem d_Bs_dropOldest_36 : decode b_Bs_dropOldest 36 = .ok (.invokevirtual 82, 3) := by decide +kernel
theorem d_Bs_dropOldest_39 : decode b_Bs_dropOldest 39 = .ok (.getfield 63, 3) := by decide +kernel
theorem d_Bs_dropOldest_42 : decode b_Bs_dropOldest 42 = .ok (.ifCond .ne (16), 3) := by decide +kernel
theorem d_Bs_dropOldest_45 : decode b_Bs_dropOldest 45 = .ok (.aload_n 0, 1) := by decide +kernel
theorem d_Bs_dropOldest_46 : decode b_Bs_dropOldest 46 = .ok (.dup, 1) := by decide +kernel
theorem d_Bs_dropOldest_47 : decode b_Bs_dropOldest 47 = .ok (.getfield 22, 3) := by decide +kernel
theorem d_Bs_dropOldest_50 : decode b_Bs_dropOldest 50 = .ok (.iconst 1, 1) := by decide +kernel
theorem d_Bs_dropOldest_51 : decode b_Bs_dropOldest 51 = .ok (.iadd, 1) := by decide +kernel
theorem d_Bs_dropOldest_52 : decode b_Bs_dropOldest 52 = .ok (.putfield 22, 3) := by decide +kernel
theorem d_Bs_dropOldest_55 : decode b_Bs_dropOldest 55 = .ok (.goto (-35), 3) := by decide +kernel
theorem d_Bs_dropOldest_58 : decode b_Bs_dropOldest 58 = .ok (.return_, 1) := by decide +kernel
theorem d_Lg_purgeUpTo_0 : decode b_Lg_purgeUpTo 0 = .ok (.aload_n 0, 1) := by decide +kernel
theorem d_Lg_purgeUpTo_1 : decode b_Lg_purgeUpTo 1 = .ok (.aload_n 0, 1) := by decide +kernel
theorem d_Lg_purgeUpTo_2 : decode b_Lg_purgeUpTo 2 = .ok (.getfield 35, 3) := by decide +kernel
theorem d_Lg_purgeUpTo_5 : decode b_Lg_purgeUpTo 5 = .ok (.aload_n 0, 1) := by decide +kernel
theorem d_Lg_purgeUpTo_6 : decode b_Lg_purgeUpTo 6 = .ok (.getfield 32, 3) := by decide +kernel
theorem d_Lg_purgeUpTo_9 : decode b_Lg_purgeUpTo 9 = .ok (.iload_n 1, 1) := by decide +kernel
theorem d_Lg_purgeUpTo_10 : decode b_Lg_purgeUpTo 10 = .ok (.aload_n 0, 1) := by decide +kernel
theorem d_Lg_purgeUpTo_11 : decode b_Lg_purgeUpTo 11 = .ok (.getfield 38, 3) := by decide +kernel
theorem d_Lg_purgeUpTo_14 : decode b_Lg_purgeUpTo 14 = .ok (.idiv, 1) := by decide +kernel
theorem d_Lg_purgeUpTo_15 : decode b_Lg_purgeUpTo 15 = .ok (.invokestatic 49, 3) := by decide +kernel
theorem d_Lg_purgeUpTo_18 : decode b_Lg_purgeUpTo 18 = .ok (.invokestatic 59, 3) := by decide +kernel
theorem d_Lg_purgeUpTo_21 : decode b_Lg_purgeUpTo 21 = .ok (.putfield 35, 3) := by decide +kernel
theorem d_Lg_purgeUpTo_24 : decode b_Lg_purgeUpTo 24 = .ok (.return_, 1) := by decide +kernel
theorem d_Dk_tear_0 : decode b_Dk_tear 0 = .ok (.aload_n 0, 1) := by decide +kernel
theorem d_Dk_tear_1 : decode b_Dk_tear 1 = .ok (.getfield 15, 3) := by decide +kernel
theorem d_Dk_tear_4 : decode b_Dk_tear 4 = .ok (.iload_n 1, 1) := by decide +kernel
theorem d_Dk_tear_5 : decode b_Dk_tear 5 = .ok (.iconst 1, 1) := by decide +kernel
theorem d_Dk_tear_6 : decode b_Dk_tear 6 = .ok (.bastore, 1) := by decide +kernel
theorem d_Dk_tear_7 : decode b_Dk_tear 7 = .ok (.return_, 1) := by decide +kernel
theorem d_Bs_giveUp_0 : decode b_Bs_giveUp 0 = .ok (.aload_n 0, 1) := by decide +kernel
theorem d_Bs_giveUp_1 : decode b_Bs_giveUp 1 = .ok (.aconst_null, 1) := by decide +kernel
theorem d_Bs_giveUp_2 : decode b_Bs_giveUp 2 = .ok (.putfield 18, 3) := by decide +kernel
theorem d_Bs_giveUp_5 : decode b_Bs_giveUp 5 = .ok (.return_, 1) := by decide +kernel
theorem d_Dk_bestNumberOf_0 : decode b_Dk_bestNumberOf 0 = .ok (.aload_n 0, 1) := by decide +kernel
theorem d_Dk_bestNumberOf_1 : decode b_Dk_bestNumberOf 1 = .ok (.getfield 15, 3) := by decide +kernel
theorem d_Dk_bestNumberOf_4 : decode b_Dk_bestNumberOf 4 = .ok (.iload_n 1, 1) := by decide +kernel
theorem d_Dk_bestNumberOf_5 : decode b_Dk_bestNumberOf 5 = .ok (.baload, 1) := by decide +kernel
theorem d_Dk_bestNumberOf_6 : decode b_Dk_bestNumberOf 6 = .ok (.ifCond .eq (7), 3) := by decide +kernel
theorem d_Dk_bestNumberOf_9 : decode b_Dk_bestNumberOf 9 = .ok (.iconst 0, 1) := by decide +kernel
theorem d_Dk_bestNumberOf_10 : decode b_Dk_bestNumberOf 10 = .ok (.goto (9), 3) := by decide +kernel
theorem d_Dk_bestNumberOf_13 : decode b_Dk_bestNumberOf 13 = .ok (.aload_n 0, 1) := by decide +kernel
theorem d_Dk_bestNumberOf_14 : decode b_Dk_bestNumberOf 14 = .ok (.getfield 9, 3) := by decide +kernel
theorem d_Dk_bestNumberOf_17 : decode b_Dk_bestNumberOf 17 = .ok (.iload_n 1, 1) := by decide +kernel
theorem d_Dk_bestNumberOf_18 : decode b_Dk_bestNumberOf 18 = .ok (.iaload, 1) := by decide +kernel
theorem d_Dk_bestNumberOf_19 : decode b_Dk_bestNumberOf 19 = .ok (.ireturn, 1) := by decide +kernel
theorem d_Bs_bestNumberOf_0 : decode b_Bs_bestNumberOf 0 = .ok (.iconst 0, 1) := by decide +kernel
theorem d_Bs_bestNumberOf_1 : decode b_Bs_bestNumberOf 1 = .ok (.istore_n 2, 1) := by decide +kernel
theorem d_Bs_bestNumberOf_2 : decode b_Bs_bestNumberOf 2 = .ok (.aload_n 0, 1) := by decide +kernel
theorem d_Bs_bestNumberOf_3 : decode b_Bs_bestNumberOf 3 = .ok (.getfield 22, 3) := by decide +kernel
theorem d_Bs_bestNumberOf_6 : decode b_Bs_bestNumberOf 6 = .ok (.istore_n 3, 1) := by decide +kernel
theorem d_Bs_bestNumberOf_7 : decode b_Bs_bestNumberOf 7 = .ok (.iload_n 3, 1) := by decide +kernel
theorem d_Bs_bestNumberOf_8 : decode b_Bs_bestNumberOf 8 = .ok (.aload_n 0, 1) := by decide +kernel
theorem d_Bs_bestNumberOf_9 : decode b_Bs_bestNumberOf 9 = .ok (.invokevirtual 45, 3) := by decide +kernel
theorem d_Bs_bestNumberOf_12 : decode b_Bs_bestNumberOf 12 = .ok (.if_icmp .gt (23), 3) := by decide +kernel
theorem d_Bs_bestNumberOf_15 : decode b_Bs_bestNumberOf 15 = .ok (.iload_n 2, 1) := by decide +kernel
theorem d_Bs_bestNumberOf_16 : decode b_Bs_bestNumberOf 16 = .ok (.aload_n 0, 1) := by decide +kernel
theorem d_Bs_bestNumberOf_17 : decode b_Bs_bestNumberOf 17 = .ok (.iload_n 3, 1) := by decide +kernel
theorem d_Bs_bestNumberOf_18 : decode b_Bs_bestNumberOf 18 = .ok (.invokevirtual 82, 3) := by decide +kernel
theorem d_Bs_bestNumberOf_21 : decode b_Bs_bestNumberOf 21 = .ok (.iload_n 1, 1) := by decide +kernel
theorem d_Bs_bestNumberOf_22 : decode b_Bs_bestNumberOf 22 = .ok (.invokevirtual 110, 3) := by decide +kernel
theorem d_Bs_bestNumberOf_25 : decode b_Bs_bestNumberOf 25 = .ok (.invokestatic 113, 3) := by decide +kernel
theorem d_Bs_bestNumberOf_28 : decode b_Bs_bestNumberOf 28 = .ok (.istore_n 2, 1) := by decide +kernel
theorem d_Bs_bestNumberOf_29 : decode b_Bs_bestNumberOf 29 = .ok (.iinc 3 (1), 3) := by decide +kernel
theorem d_Bs_bestNumberOf_32 : decode b_Bs_bestNumberOf 32 = .ok (.goto (-25), 3) := by decide +kernel
theorem d_Bs_bestNumberOf_35 : decode b_Bs_bestNumberOf 35 = .ok (.iload_n 2, 1) := by decide +kernel
theorem d_Bs_bestNumberOf_36 : decode b_Bs_bestNumberOf 36 = .ok (.ireturn, 1) := by decide +kernel
theorem d_Bk_imageNumberOf_0 : decode b_Bk_imageNumberOf 0 = .ok (.aload_n 0, 1) := by decide +kernel
theorem d_Bk_imageNumberOf_1 : decode b_Bk_imageNumberOf 1 = .ok (.getfield 9, 3) := by decide +kernel
theorem d_Bk_imageNumberOf_4 : decode b_Bk_imageNumberOf 4 = .ok (.iload_n 1, 1) := by decide +kernel
theorem d_Bk_imageNumberOf_5 : decode b_Bk_imageNumberOf 5 = .ok (.iaload, 1) := by decide +kernel
theorem d_Bk_imageNumberOf_6 : decode b_Bk_imageNumberOf 6 = .ok (.ireturn, 1) := by decide +kernel
theorem d_Lg_changesAbove_0 : decode b_Lg_changesAbove 0 = .ok (.iconst 0, 1) := by decide +kernel
theorem d_Lg_changesAbove_1 : decode b_Lg_changesAbove 1 = .ok (.istore_n 3, 1) := by decide +kernel
theorem d_Lg_changesAbove_2 : decode b_Lg_changesAbove 2 = .ok (.iconst 1, 1) := by decide +kernel
theorem d_Lg_changesAbove_3 : decode b_Lg_changesAbove 3 = .ok (.istore 4, 2) := by decide +kernel
theorem d_Lg_changesAbove_5 : decode b_Lg_changesAbove 5 = .ok (.iload 4, 2) := by decide +kernel
theorem d_Lg_changesAbove_7 : decode b_Lg_changesAbove 7 = .ok (.iload_n 2, 1) := by decide +kernel
theorem d_Lg_changesAbove_8 : decode b_Lg_changesAbove 8 = .ok (.if_icmp .gt (40), 3) := by decide +kernel
theorem d_Lg_changesAbove_11 : decode b_Lg_changesAbove 11 = .ok (.aload_n 0, 1) := by decide +kernel
theorem d_Lg_changesAbove_12 : decode b_Lg_changesAbove 12 = .ok (.getfield 9, 3) := by decide +kernel
theorem d_Lg_changesAbove_15 : decode b_Lg_changesAbove 15 = .ok (.iload 4, 2) := by decide +kernel
theorem d_Lg_changesAbove_17 : decode b_Lg_changesAbove 17 = .ok (.iaload, 1) := by decide +kernel
theorem d_Lg_changesAbove_18 : decode b_Lg_changesAbove 18 = .ok (.istore 5, 2) := by decide +kernel
theorem d_Lg_changesAbove_20 : decode b_Lg_changesAbove 20 = .ok (.iload 5, 2) := by decide +kernel
theorem d_Lg_changesAbove_22 : decode b_Lg_changesAbove 22 = .ok (.invokestatic 62, 3) := by decide +kernel
theorem d_Lg_changesAbove_25 : decode b_Lg_changesAbove 25 = .ok (.ifCond .eq (17), 3) := by decide +kernel
theorem d_Lg_changesAbove_28 : decode b_Lg_changesAbove 28 = .ok (.iload 4, 2) := by decide +kernel
theorem d_Lg_changesAbove_30 : decode b_Lg_changesAbove 30 = .ok (.aload_n 1, 1) := by decide +kernel
theorem d_Lg_changesAbove_31 : decode b_Lg_changesAbove 31 = .ok (.iload 5, 2) := by decide +kernel
theorem d_Lg_changesAbove_33 : decode b_Lg_changesAbove 33 = .ok (.iconst 4, 1) := by decide +kernel
theorem d_Lg_changesAbove_34 : decode b_Lg_changesAbove 34 = .ok (.idiv, 1) := by decide +kernel
theorem d_Lg_changesAbove_35 : decode b_Lg_changesAbove 35 = .ok (.iaload, 1) := by decide +kernel
theorem d_Lg_changesAbove_36 : decode b_Lg_changesAbove 36 = .ok (.if_icmp .le (6), 3) := by decide +kernel
theorem d_Lg_changesAbove_39 : decode b_Lg_changesAbove 39 = .ok (.iinc 3 (1), 3) := by decide +kernel
theorem d_Lg_changesAbove_42 : decode b_Lg_changesAbove 42 = .ok (.iinc 4 (1), 3) := by decide +kernel
theorem d_Lg_changesAbove_45 : decode b_Lg_changesAbove 45 = .ok (.goto (-40), 3) := by decide +kernel
theorem d_Lg_changesAbove_48 : decode b_Lg_changesAbove 48 = .ok (.iload_n 3, 1) := by decide +kernel
theorem d_Lg_changesAbove_49 : decode b_Lg_changesAbove 49 = .ok (.ireturn, 1) := by decide +kernel
theorem d_Lg_commits_0 : decode b_Lg_commits 0 = .ok (.aload_n 0, 1) := by decide +kernel
theorem d_Lg_commits_1 : decode b_Lg_commits 1 = .ok (.getfield 29, 3) := by decide +kernel
theorem d_Lg_commits_4 : decode b_Lg_commits 4 = .ok (.ireturn, 1) := by decide +kernel
theorem d_Lg_recordOfCommit_0 : decode b_Lg_recordOfCommit 0 = .ok (.iconst 0, 1) := by decide +kernel
theorem d_Lg_recordOfCommit_1 : decode b_Lg_recordOfCommit 1 = .ok (.istore_n 2, 1) := by decide +kernel
theorem d_Lg_recordOfCommit_2 : decode b_Lg_recordOfCommit 2 = .ok (.iconst 1, 1) := by decide +kernel
theorem d_Lg_recordOfCommit_3 : decode b_Lg_recordOfCommit 3 = .ok (.istore_n 3, 1) := by decide +kernel
theorem d_Lg_recordOfCommit_4 : decode b_Lg_recordOfCommit 4 = .ok (.iload_n 3, 1) := by decide +kernel
theorem d_Lg_recordOfCommit_5 : decode b_Lg_recordOfCommit 5 = .ok (.aload_n 0, 1) := by decide +kernel
theorem d_Lg_recordOfCommit_6 : decode b_Lg_recordOfCommit 6 = .ok (.getfield 25, 3) := by decide +kernel
theorem d_Lg_recordOfCommit_9 : decode b_Lg_recordOfCommit 9 = .ok (.if_icmp .gt (29), 3) := by decide +kernel
theorem d_Lg_recordOfCommit_12 : decode b_Lg_recordOfCommit 12 = .ok (.aload_n 0, 1) := by decide +kernel
theorem d_Lg_recordOfCommit_13 : decode b_Lg_recordOfCommit 13 = .ok (.getfield 9, 3) := by decide +kernel
theorem d_Lg_recordOfCommit_16 : decode b_Lg_recordOfCommit 16 = .ok (.iload_n 3, 1) := by decide +kernel
theorem d_Lg_recordOfCommit_17 : decode b_Lg_recordOfCommit 17 = .ok (.iaload, 1) := by decide +kernel
theorem d_Lg_recordOfCommit_18 : decode b_Lg_recordOfCommit 18 = .ok (.iconst (-1), 1) := by decide +kernel
theorem d_Lg_recordOfCommit_19 : decode b_Lg_recordOfCommit 19 = .ok (.if_icmp .ne (6), 3) := by decide +kernel
theorem d_Lg_recordOfCommit_22 : decode b_Lg_recordOfCommit 22 = .ok (.iinc 2 (1), 3) := by decide +kernel
theorem d_Lg_recordOfCommit_25 : decode b_Lg_recordOfCommit 25 = .ok (.iload_n 2, 1) := by decide +kernel
theorem d_Lg_recordOfCommit_26 : decode b_Lg_recordOfCommit 26 = .ok (.iload_n 1, 1) := by decide +kernel
theorem d_Lg_recordOfCommit_27 : decode b_Lg_recordOfCommit 27 = .ok (.if_icmp .ne (5), 3) := by decide +kernel
theorem d_Lg_recordOfCommit_30 : decode b_Lg_recordOfCommit 30 = .ok (.iload_n 3, 1) := by decide +kernel
theorem d_Lg_recordOfCommit_31 : decode b_Lg_recordOfCommit 31 = .ok (.ireturn, 1) := by decide +kernel
theorem d_Lg_recordOfCommit_32 : decode b_Lg_recordOfCommit 32 = .ok (.iinc 3 (1), 3) := by decide +kernel
theorem d_Lg_recordOfCommit_35 : decode b_Lg_recordOfCommit 35 = .ok (.goto (-31), 3) := by decide +kernel
theorem d_Lg_recordOfCommit_38 : decode b_Lg_recordOfCommit 38 = .ok (.aload_n 0, 1) := by decide +kernel
theorem d_Lg_recordOfCommit_39 : decode b_Lg_recordOfCommit 39 = .ok (.getfield 25, 3) := by decide +kernel
theorem d_Lg_recordOfCommit_42 : decode b_Lg_recordOfCommit 42 = .ok (.ireturn, 1) := by decide +kernel
theorem d_Bs_latestEndedBefore_0 : decode b_Bs_latestEndedBefore 0 = .ok (.aload_n 0, 1) := by decide +kernel
theorem d_Bs_latestEndedBefore_1 : decode b_Bs_latestEndedBefore 1 = .ok (.invokevirtual 45, 3) := by decide +kernel
theorem d_Bs_latestEndedBefore_4 : decode b_Bs_latestEndedBefore 4 = .ok (.istore_n 2, 1) := by decide +kernel
theorem d_Bs_latestEndedBefore_5 : decode b_Bs_latestEndedBefore 5 = .ok (.iload_n 2, 1) := by decide +kernel
theorem d_Bs_latestEndedBefore_6 : decode b_Bs_latestEndedBefore 6 = .ok (.aload_n 0, 1) := by decide +kernel
theorem d_Bs_latestEndedBefore_7 : decode b_Bs_latestEndedBefore 7 = .ok (.getfield 22, 3) := by decide +kernel
theorem d_Bs_latestEndedBefore_10 : decode b_Bs_latestEndedBefore 10 = .ok (.if_icmp .lt (23), 3) := by decide +kernel
theorem d_Bs_latestEndedBefore_13 : decode b_Bs_latestEndedBefore 13 = .ok (.aload_n 0, 1) := by decide +kernel
theorem d_Bs_latestEndedBefore_14 : decode b_Bs_latestEndedBefore 14 = .ok (.iload_n 2, 1) := by decide +kernel
theorem d_Bs_latestEndedBefore_15 : decode b_Bs_latestEndedBefore 15 = .ok (.invokevirtual 82, 3) := by decide +kernel
theorem d_Bs_latestEndedBefore_18 : decode b_Bs_latestEndedBefore 18 = .ok (.getfield 92, 3) := by decide +kernel
theorem d_Bs_latestEndedBefore_21 : decode b_Bs_latestEndedBefore 21 = .ok (.iload_n 1, 1) := by decide +kernel
theorem d_Bs_latestEndedBefore_22 : decode b_Bs_latestEndedBefore 22 = .ok (.if_icmp .ge (5), 3) := by decide +kernel
theorem d_Bs_latestEndedBefore_25 : decode b_Bs_latestEndedBefore 25 = .ok (.iload_n 2, 1) := by decide +kernel
theorem d_Bs_latestEndedBefore_26 : decode b_Bs_latestEndedBefore 26 = .ok (.ireturn, 1) := by decide +kernel
theorem d_Bs_latestEndedBefore_27 : decode b_Bs_latestEndedBefore 27 = .ok (.iinc 2 (-1), 3) := by decide +kernel
theorem d_Bs_latestEndedBefore_30 : decode b_Bs_latestEndedBefore 30 = .ok (.goto (-25), 3) := by decide +kernel
theorem d_Bs_latestEndedBefore_33 : decode b_Bs_latestEndedBefore 33 = .ok (.iconst 0, 1) := by decide +kernel
theorem d_Bs_latestEndedBefore_34 : decode b_Bs_latestEndedBefore 34 = .ok (.ireturn, 1) := by decide +kernel
theorem d_Lg_purged_0 : decode b_Lg_purged 0 = .ok (.aload_n 0, 1) := by decide +kernel
theorem d_Lg_purged_1 : decode b_Lg_purged 1 = .ok (.getfield 35, 3) := by decide +kernel
theorem d_Lg_purged_4 : decode b_Lg_purged 4 = .ok (.ireturn, 1) := by decide +kernel
theorem d_Bs_imageInChain_0 : decode b_Bs_imageInChain 0 = .ok (.iload_n 1, 1) := by decide +kernel
theorem d_Bs_imageInChain_1 : decode b_Bs_imageInChain 1 = .ok (.istore_n 3, 1) := by decide +kernel
theorem d_Bs_imageInChain_2 : decode b_Bs_imageInChain 2 = .ok (.iload_n 3, 1) := by decide +kernel
theorem d_Bs_imageInChain_3 : decode b_Bs_imageInChain 3 = .ok (.aload_n 0, 1) := by decide +kernel
theorem d_Bs_imageInChain_4 : decode b_Bs_imageInChain 4 = .ok (.getfield 22, 3) := by decide +kernel
theorem d_Bs_imageInChain_7 : decode b_Bs_imageInChain 7 = .ok (.if_icmp .lt (31), 3) := by decide +kernel
theorem d_Bs_imageInChain_10 : decode b_Bs_imageInChain 10 = .ok (.aload_n 0, 1) := by decide +kernel
theorem d_Bs_imageInChain_11 : decode b_Bs_imageInChain 11 = .ok (.iload_n 3, 1) := by decide +kernel
theorem d_Bs_imageInChain_12 : decode b_Bs_imageInChain 12 = .ok (.invokevirtual 82, 3) := by decide +kernel
theorem d_Bs_imageInChain_15 : decode b_Bs_imageInChain 15 = .ok (.iload_n 2, 1) := by decide +kernel
theorem d_Bs_imageInChain_16 : decode b_Bs_imageInChain 16 = .ok (.invokevirtual 106, 3) := by decide +kernel
theorem d_Bs_imageInChain_19 : decode b_Bs_imageInChain 19 = .ok (.ifCond .eq (13), 3) := by decide +kernel
theorem d_Bs_imageInChain_22 : decode b_Bs_imageInChain 22 = .ok (.aload_n 0, 1) := by decide +kernel
theorem d_Bs_imageInChain_23 : decode b_Bs_imageInChain 23 = .ok (.iload_n 3, 1) := by decide +kernel
theorem d_Bs_imageInChain_24 : decode b_Bs_imageInChain 24 = .ok (.invokevirtual 82, 3) := by decide +kernel
theorem d_Bs_imageInChain_27 : decode b_Bs_imageInChain 27 = .ok (.iload_n 2, 1) := by decide +kernel
theorem d_Bs_imageInChain_28 : decode b_Bs_imageInChain 28 = .ok (.invokevirtual 110, 3) := by decide +kernel
theorem d_Bs_imageInChain_31 : decode b_Bs_imageInChain 31 = .ok (.ireturn, 1) := by decide +kernel
theorem d_Bs_imageInChain_32 : decode b_Bs_imageInChain 32 = .ok (.iinc 3 (-1), 3) := by decide +kernel
theorem d_Bs_imageInChain_35 : decode b_Bs_imageInChain 35 = .ok (.goto (-33), 3) := by decide +kernel
theorem d_Bs_imageInChain_38 : decode b_Bs_imageInChain 38 = .ok (.iconst 0, 1) := by decide +kernel
theorem d_Bs_imageInChain_39 : decode b_Bs_imageInChain 39 = .ok (.ireturn, 1) := by decide +kernel
theorem d_Bk_hasImageOf_0 : decode b_Bk_hasImageOf 0 = .ok (.aload_n 0, 1) := by decide +kernel
theorem d_Bk_hasImageOf_1 : decode b_Bk_hasImageOf 1 = .ok (.getfield 9, 3) := by decide +kernel
theorem d_Bk_hasImageOf_4 : decode b_Bk_hasImageOf 4 = .ok (.iload_n 1, 1) := by decide +kernel
theorem d_Bk_hasImageOf_5 : decode b_Bk_hasImageOf 5 = .ok (.iaload, 1) := by decide +kernel
theorem d_Bk_hasImageOf_6 : decode b_Bk_hasImageOf 6 = .ok (.iconst (-1), 1) := by decide +kernel
theorem d_Bk_hasImageOf_7 : decode b_Bk_hasImageOf 7 = .ok (.if_icmp .eq (7), 3) := by decide +kernel
theorem d_Bk_hasImageOf_10 : decode b_Bk_hasImageOf 10 = .ok (.iconst 1, 1) := by decide +kernel
theorem d_Bk_hasImageOf_11 : decode b_Bk_hasImageOf 11 = .ok (.goto (4), 3) := by decide +kernel
theorem d_Bk_hasImageOf_14 : decode b_Bk_hasImageOf 14 = .ok (.iconst 0, 1) := by decide +kernel
theorem d_Bk_hasImageOf_15 : decode b_Bk_hasImageOf 15 = .ok (.ireturn, 1) := by decide +kernel
theorem d_Lg_tableUpTo_0 : decode b_Lg_tableUpTo 0 = .ok (.aload_n 2, 1) := by decide +kernel
theorem d_Lg_tableUpTo_1 : decode b_Lg_tableUpTo 1 = .ok (.ldc2_w 41, 3) := by decide +kernel
theorem d_Lg_tableUpTo_4 : decode b_Lg_tableUpTo 4 = .ok (.invokestatic 43, 3) := by decide +kernel
theorem d_Lg_tableUpTo_7 : decode b_Lg_tableUpTo 7 = .ok (.iconst 1, 1) := by decide +kernel
theorem d_Lg_tableUpTo_8 : decode b_Lg_tableUpTo 8 = .ok (.istore_n 3, 1) := by decide +kernel
theorem d_Lg_tableUpTo_9 : decode b_Lg_tableUpTo 9 = .ok (.iload_n 3, 1) := by decide +kernel
theorem d_Lg_tableUpTo_10 : decode b_Lg_tableUpTo 10 = .ok (.iload_n 1, 1) := by decide +kernel
theorem d_Lg_tableUpTo_11 : decode b_Lg_tableUpTo 11 = .ok (.if_icmp .gt (35), 3) := by decide +kernel
theorem d_Lg_tableUpTo_14 : decode b_Lg_tableUpTo 14 = .ok (.aload_n 0, 1) := by decide +kernel
theorem d_Lg_tableUpTo_15 : decode b_Lg_tableUpTo 15 = .ok (.getfield 9, 3) := by decide +kernel
theorem d_Lg_tableUpTo_18 : decode b_Lg_tableUpTo 18 = .ok (.iload_n 3, 1) := by decide +kernel
theorem d_Lg_tableUpTo_19 : decode b_Lg_tableUpTo 19 = .ok (.iaload, 1) := by decide +kernel
theorem d_Lg_tableUpTo_20 : decode b_Lg_tableUpTo 20 = .ok (.istore 4, 2) := by decide +kernel
theorem d_Lg_tableUpTo_22 : decode b_Lg_tableUpTo 22 = .ok (.iload 4, 2) := by decide +kernel
theorem d_Lg_tableUpTo_24 : decode b_Lg_tableUpTo 24 = .ok (.invokestatic 62, 3) := by decide +kernel
theorem d_Lg_tableUpTo_27 : decode b_Lg_tableUpTo 27 = .ok (.ifCond .eq (13), 3) := by decide +kernel
theorem d_Lg_tableUpTo_30 : decode b_Lg_tableUpTo 30 = .ok (.aload_n 2, 1) := by decide +kernel
theorem d_Lg_tableUpTo_31 : decode b_Lg_tableUpTo 31 = .ok (.iload 4, 2) := by decide +kernel
theorem d_Lg_tableUpTo_33 : decode b_Lg_tableUpTo 33 = .ok (.aload_n 0, 1) := by decide +kernel
theorem d_Lg_tableUpTo_34 : decode b_Lg_tableUpTo 34 = .ok (.getfield 15, 3) := by decide +kernel
theorem d_Lg_tableUpTo_37 : decode b_Lg_tableUpTo 37 = .ok (.iload_n 3, 1) := by decide +kernel
theorem d_Lg_tableUpTo_38 : decode b_Lg_tableUpTo 38 = .ok (.laload, 1) := by decide +kernel
theorem d_Lg_tableUpTo_39 : decode b_Lg_tableUpTo 39 = .ok (.lastore, 1) := by decide +kernel
theorem d_Lg_tableUpTo_40 : decode b_Lg_tableUpTo 40 = .ok (.iinc 3 (1), 3) := by decide +kernel
theorem d_Lg_tableUpTo_43 : decode b_Lg_tableUpTo 43 = .ok (.goto (-34), 3) := by decide +kernel
theorem d_Lg_tableUpTo_46 : decode b_Lg_tableUpTo 46 = .ok (.return_, 1) := by decide +kernel
theorem d_Dk_numberOf_0 : decode b_Dk_numberOf 0 = .ok (.aload_n 0, 1) := by decide +kernel
theorem d_Dk_numberOf_1 : decode b_Dk_numberOf 1 = .ok (.getfield 9, 3) := by decide +kernel
theorem d_Dk_numberOf_4 : decode b_Dk_numberOf 4 = .ok (.iload_n 1, 1) := by decide +kernel
theorem d_Dk_numberOf_5 : decode b_Dk_numberOf 5 = .ok (.iaload, 1) := by decide +kernel
theorem d_Dk_numberOf_6 : decode b_Dk_numberOf 6 = .ok (.ireturn, 1) := by decide +kernel
theorem d_Dk_isReadable_0 : decode b_Dk_isReadable 0 = .ok (.aload_n 0, 1) := by decide +kernel
theorem d_Dk_isReadable_1 : decode b_Dk_isReadable 1 = .ok (.getfield 15, 3) := by decide +kernel
theorem d_Dk_isReadable_4 : decode b_Dk_isReadable 4 = .ok (.iload_n 1, 1) := by decide +kernel
theorem d_Dk_isReadable_5 : decode b_Dk_isReadable 5 = .ok (.baload, 1) := by decide +kernel
theorem d_Dk_isReadable_6 : decode b_Dk_isReadable 6 = .ok (.ifCond .ne (7), 3) := by decide +kernel
theorem d_Dk_isReadable_9 : decode b_Dk_isReadable 9 = .ok (.iconst 1, 1) := by decide +kernel
theorem d_Dk_isReadable_10 : decode b_Dk_isReadable 10 = .ok (.goto (4), 3) := by decide +kernel
theorem d_Dk_isReadable_13 : decode b_Dk_isReadable 13 = .ok (.iconst 0, 1) := by decide +kernel
theorem d_Dk_isReadable_14 : decode b_Dk_isReadable 14 = .ok (.ireturn, 1) := by decide +kernel
theorem d_Bs_keptImagesOf_0 : decode b_Bs_keptImagesOf 0 = .ok (.iconst 0, 1) := by decide +kernel
theorem d_Bs_keptImagesOf_1 : decode b_Bs_keptImagesOf 1 = .ok (.istore_n 2, 1) := by decide +kernel
theorem d_Bs_keptImagesOf_2 : decode b_Bs_keptImagesOf 2 = .ok (.aload_n 0, 1) := by decide +kernel
theorem d_Bs_keptImagesOf_3 : decode b_Bs_keptImagesOf 3 = .ok (.getfield 22, 3) := by decide +kernel
theorem d_Bs_keptImagesOf_6 : decode b_Bs_keptImagesOf 6 = .ok (.istore_n 3, 1) := by decide +kernel
theorem d_Bs_keptImagesOf_7 : decode b_Bs_keptImagesOf 7 = .ok (.iload_n 3, 1) := by decide +kernel
theorem d_Bs_keptImagesOf_8 : decode b_Bs_keptImagesOf 8 = .ok (.aload_n 0, 1) := by decide +kernel
theorem d_Bs_keptImagesOf_9 : decode b_Bs_keptImagesOf 9 = .ok (.invokevirtual 45, 3) := by decide +kernel
theorem d_Bs_keptImagesOf_12 : decode b_Bs_keptImagesOf 12 = .ok (.if_icmp .gt (24), 3) := by decide +kernel
theorem d_Bs_keptImagesOf_15 : decode b_Bs_keptImagesOf 15 = .ok (.aload_n 0, 1) := by decide +kernel
theorem d_Bs_keptImagesOf_16 : decode b_Bs_keptImagesOf 16 = .ok (.iload_n 3, 1) := by decide +kernel
theorem d_Bs_keptImagesOf_17 : decode b_Bs_keptImagesOf 17 = .ok (.invokevirtual 82, 3) := by decide +kernel
theorem d_Bs_keptImagesOf_20 : decode b_Bs_keptImagesOf 20 = .ok (.iload_n 1, 1) := by decide +kernel
theorem d_Bs_keptImagesOf_21 : decode b_Bs_keptImagesOf 21 = .ok (.invokevirtual 106, 3) := by decide +kernel
theorem d_Bs_keptImagesOf_24 : decode b_Bs_keptImagesOf 24 = .ok (.ifCond .eq (6), 3) := by decide +kernel
theorem d_Bs_keptImagesOf_27 : decode b_Bs_keptImagesOf 27 = .ok (.iinc 2 (1), 3) := by decide +kernel
theorem d_Bs_keptImagesOf_30 : decode b_Bs_keptImagesOf 30 = .ok (.iinc 3 (1), 3) := by decide +kernel
theorem d_Bs_keptImagesOf_33 : decode b_Bs_keptImagesOf 33 = .ok (.goto (-26), 3) := by decide +kernel
theorem d_Bs_keptImagesOf_36 : decode b_Bs_keptImagesOf 36 = .ok (.iload_n 2, 1) := by decide +kernel
theorem d_Bs_keptImagesOf_37 : decode b_Bs_keptImagesOf 37 = .ok (.ireturn, 1) := by decide +kernel
theorem d_Bs_isKept_0 : decode b_Bs_isKept 0 = .ok (.iload_n 1, 1) := by decide +kernel
theorem d_Bs_isKept_1 : decode b_Bs_isKept 1 = .ok (.aload_n 0, 1) := by decide +kernel
theorem d_Bs_isKept_2 : decode b_Bs_isKept 2 = .ok (.getfield 22, 3) := by decide +kernel
theorem d_Bs_isKept_5 : decode b_Bs_isKept 5 = .ok (.if_icmp .lt (7), 3) := by decide +kernel
theorem d_Bs_isKept_8 : decode b_Bs_isKept 8 = .ok (.iconst 1, 1) := by decide +kernel
theorem d_Bs_isKept_9 : decode b_Bs_isKept 9 = .ok (.goto (4), 3) := by decide +kernel
theorem d_Bs_isKept_12 : decode b_Bs_isKept 12 = .ok (.iconst 0, 1) := by decide +kernel
theorem d_Bs_isKept_13 : decode b_Bs_isKept 13 = .ok (.ireturn, 1) := by decide +kernel
theorem d_Lg_online_0 : decode b_Lg_online 0 = .ok (.aload_n 0, 1) := by decide +kernel
theorem d_Lg_online_1 : decode b_Lg_online 1 = .ok (.getfield 25, 3) := by decide +kernel
theorem d_Lg_online_4 : decode b_Lg_online 4 = .ok (.aload_n 0, 1) := by decide +kernel
theorem d_Lg_online_5 : decode b_Lg_online 5 = .ok (.getfield 38, 3) := by decide +kernel
theorem d_Lg_online_8 : decode b_Lg_online 8 = .ok (.iadd, 1) := by decide +kernel
theorem d_Lg_online_9 : decode b_Lg_online 9 = .ok (.iconst 1, 1) := by decide +kernel
theorem d_Lg_online_10 : decode b_Lg_online 10 = .ok (.isub, 1) := by decide +kernel
theorem d_Lg_online_11 : decode b_Lg_online 11 = .ok (.aload_n 0, 1) := by decide +kernel
theorem d_Lg_online_12 : decode b_Lg_online 12 = .ok (.getfield 38, 3) := by decide +kernel
theorem d_Lg_online_15 : decode b_Lg_online 15 = .ok (.idiv, 1) := by decide +kernel
theorem d_Lg_online_16 : decode b_Lg_online 16 = .ok (.istore_n 1, 1) := by decide +kernel
theorem d_Lg_online_17 : decode b_Lg_online 17 = .ok (.iload_n 1, 1) := by decide +kernel
theorem d_Lg_online_18 : decode b_Lg_online 18 = .ok (.aload_n 0, 1) := by decide +kernel
theorem d_Lg_online_19 : decode b_Lg_online 19 = .ok (.getfield 32, 3) := by decide +kernel
theorem d_Lg_online_22 : decode b_Lg_online 22 = .ok (.isub, 1) := by decide +kernel
theorem d_Lg_online_23 : decode b_Lg_online 23 = .ok (.ireturn, 1) := by decide +kernel
theorem d_Lg_archived_0 : decode b_Lg_archived 0 = .ok (.aload_n 0, 1) := by decide +kernel
theorem d_Lg_archived_1 : decode b_Lg_archived 1 = .ok (.getfield 32, 3) := by decide +kernel
theorem d_Lg_archived_4 : decode b_Lg_archived 4 = .ok (.ireturn, 1) := by decide +kernel
theorem d_Bs_stillToVisit_0 : decode b_Bs_stillToVisit 0 = .ok (.aload_n 0, 1) := by decide +kernel
theorem d_Bs_stillToVisit_1 : decode b_Bs_stillToVisit 1 = .ok (.getfield 18, 3) := by decide +kernel
theorem d_Bs_stillToVisit_4 : decode b_Bs_stillToVisit 4 = .ok (.ifnonnull (8), 3) := by decide +kernel
theorem d_Bs_stillToVisit_7 : decode b_Bs_stillToVisit 7 = .ok (.bipush (-2), 2) := by decide +kernel
theorem d_Bs_stillToVisit_9 : decode b_Bs_stillToVisit 9 = .ok (.goto (13), 3) := by decide +kernel
theorem d_Bs_stillToVisit_12 : decode b_Bs_stillToVisit 12 = .ok (.bipush (8), 2) := by decide +kernel
theorem d_Bs_stillToVisit_14 : decode b_Bs_stillToVisit 14 = .ok (.aload_n 0, 1) := by decide +kernel
theorem d_Bs_stillToVisit_15 : decode b_Bs_stillToVisit 15 = .ok (.getfield 18, 3) := by decide +kernel
theorem d_Bs_stillToVisit_18 : decode b_Bs_stillToVisit 18 = .ok (.getfield 42, 3) := by decide +kernel
theorem d_Bs_stillToVisit_21 : decode b_Bs_stillToVisit 21 = .ok (.isub, 1) := by decide +kernel
theorem d_Bs_stillToVisit_22 : decode b_Bs_stillToVisit 22 = .ok (.ireturn, 1) := by decide +kernel
end
section
theorem d_Ar_fill_2J_0 : decode b_Ar_fill_2J 0 = .ok (.iconst 0, 1) := by decide +kernel
theorem d_Ar_fill_2J_1 : decode b_Ar_fill_2J 1 = .ok (.istore_n 3, 1) := by decide +kernel
theorem d_Ar_fill_2J_2 : decode b_Ar_fill_2J 2 = .ok (.aload_n 0, 1) := by decide +kernel
theorem d_Ar_fill_2J_3 : decode b_Ar_fill_2J 3 = .ok (.arraylength, 1) := by decide +kernel
theorem d_Ar_fill_2J_4 : decode b_Ar_fill_2J 4 = .ok (.istore 4, 2) := by decide +kernel
theorem d_Ar_fill_2J_6 : decode b_Ar_fill_2J 6 = .ok (.iload_n 3, 1) := by decide +kernel
theorem d_Ar_fill_2J_7 : decode b_Ar_fill_2J 7 = .ok (.iload 4, 2) := by decide +kernel
theorem d_Ar_fill_2J_9 : decode b_Ar_fill_2J 9 = .ok (.if_icmp .ge (13), 3) := by decide +kernel
theorem d_Ar_fill_2J_12 : decode b_Ar_fill_2J 12 = .ok (.aload_n 0, 1) := by decide +kernel
theorem d_Ar_fill_2J_13 : decode b_Ar_fill_2J 13 = .ok (.iload_n 3, 1) := by decide +kernel
theorem d_Ar_fill_2J_14 : decode b_Ar_fill_2J 14 = .ok (.lload_n 1, 1) := by decide +kernel
theorem d_Ar_fill_2J_15 : decode b_Ar_fill_2J 15 = .ok (.lastore, 1) := by decide +kernel
theorem d_Ar_fill_2J_16 : decode b_Ar_fill_2J 16 = .ok (.iinc 3 (1), 3) := by decide +kernel
theorem d_Ar_fill_2J_19 : decode b_Ar_fill_2J 19 = .ok (.goto (-13), 3) := by decide +kernel
theorem d_Ar_fill_2J_22 : decode b_Ar_fill_2J 22 = .ok (.return_, 1) := by decide +kernel
theorem d_Al_init_0 : decode b_Al_init 0 = .ok (.aload_n 0, 1) := by decide +kernel
theorem d_Al_init_1 : decode b_Al_init 1 = .ok (.invokespecial 1, 3) := by decide +kernel
theorem d_Al_init_4 : decode b_Al_init 4 = .ok (.aload_n 0, 1) := by decide +kernel
theorem d_Al_init_5 : decode b_Al_init 5 = .ok (.getstatic 39, 3) := by decide +kernel
theorem d_Al_init_8 : decode b_Al_init 8 = .ok (.putfield 9, 3) := by decide +kernel
theorem d_Al_init_11 : decode b_Al_init 11 = .ok (.return_, 1) := by decide +kernel
theorem d_Ab_init_0 : decode b_Ab_init 0 = .ok (.aload_n 0, 1) := by decide +kernel
theorem d_Ab_init_1 : decode b_Ab_init 1 = .ok (.invokespecial 1, 3) := by decide +kernel
theorem d_Ab_init_4 : decode b_Ab_init 4 = .ok (.aload_n 0, 1) := by decide +kernel
theorem d_Ab_init_5 : decode b_Ab_init 5 = .ok (.iconst 0, 1) := by decide +kernel
theorem d_Ab_init_6 : decode b_Ab_init 6 = .ok (.putfield 7, 3) := by decide +kernel
theorem d_Ab_init_9 : decode b_Ab_init 9 = .ok (.return_, 1) := by decide +kernel
theorem d_Ac_init_0 : decode b_Ac_init 0 = .ok (.aload_n 0, 1) := by decide +kernel
theorem d_Ac_init_1 : decode b_Ac_init 1 = .ok (.invokespecial 1, 3) := by decide +kernel
theorem d_Ac_init_4 : decode b_Ac_init 4 = .ok (.return_, 1) := by decide +kernel
theorem d_Al_size_0 : decode b_Al_size 0 = .ok (.aload_n 0, 1) := by decide +kernel
theorem d_Al_size_1 : decode b_Al_size 1 = .ok (.getfield 48, 3) := by decide +kernel
theorem d_Al_size_4 : decode b_Al_size 4 = .ok (.ireturn, 1) := by decide +kernel
theorem d_Ar_fill_2I_0 : decode b_Ar_fill_2I 0 = .ok (.iconst 0, 1) := by decide +kernel
theorem d_Ar_fill_2I_1 : decode b_Ar_fill_2I 1 = .ok (.istore_n 2, 1) := by decide +kernel
theorem d_Ar_fill_2I_2 : decode b_Ar_fill_2I 2 = .ok (.aload_n 0, 1) := by decide +kernel
theorem d_Ar_fill_2I_3 : decode b_Ar_fill_2I 3 = .ok (.arraylength, 1) := by decide +kernel
theorem d_Ar_fill_2I_4 : decode b_Ar_fill_2I 4 = .ok (.istore_n 3, 1) := by decide +kernel
theorem d_Ar_fill_2I_5 : decode b_Ar_fill_2I 5 = .ok (.iload_n 2, 1) := by decide +kernel
theorem d_Ar_fill_2I_6 : decode b_Ar_fill_2I 6 = .ok (.iload_n 3, 1) := by decide +kernel
theorem d_Ar_fill_2I_7 : decode b_Ar_fill_2I 7 = .ok (.if_icmp .ge (13), 3) := by decide +kernel
theorem d_Ar_fill_2I_10 : decode b_Ar_fill_2I 10 = .ok (.aload_n 0, 1) := by decide +kernel
theorem d_Ar_fill_2I_11 : decode b_Ar_fill_2I 11 = .ok (.iload_n 2, 1) := by decide +kernel
theorem d_Ar_fill_2I_12 : decode b_Ar_fill_2I 12 = .ok (.iload_n 1, 1) := by decide +kernel
theorem d_Ar_fill_2I_13 : decode b_Ar_fill_2I 13 = .ok (.iastore, 1) := by decide +kernel
theorem d_Ar_fill_2I_14 : decode b_Ar_fill_2I 14 = .ok (.iinc 2 (1), 3) := by decide +kernel
theorem d_Ar_fill_2I_17 : decode b_Ar_fill_2I 17 = .ok (.goto (-12), 3) := by decide +kernel
theorem d_Ar_fill_2I_20 : decode b_Ar_fill_2I 20 = .ok (.return_, 1) := by decide +kernel
theorem d_Al_isEmpty_0 : decode b_Al_isEmpty 0 = .ok (.aload_n 0, 1) := by decide +kernel
theorem d_Al_isEmpty_1 : decode b_Al_isEmpty 1 = .ok (.getfield 48, 3) := by decide +kernel
theorem d_Al_isEmpty_4 : decode b_Al_isEmpty 4 = .ok (.ifCond .ne (7), 3) := by decide +kernel
theorem d_Al_isEmpty_7 : decode b_Al_isEmpty 7 = .ok (.iconst 1, 1) := by decide +kernel
theorem d_Al_isEmpty_8 : decode b_Al_isEmpty 8 = .ok (.goto (4), 3) := by decide +kernel
theorem d_Al_isEmpty_11 : decode b_Al_isEmpty 11 = .ok (.iconst 0, 1) := by decide +kernel
theorem d_Al_isEmpty_12 : decode b_Al_isEmpty 12 = .ok (.ireturn, 1) := by decide +kernel
theorem d_Al_get_0 : decode b_Al_get 0 = .ok (.iload_n 1, 1) := by decide +kernel
theorem d_Al_get_1 : decode b_Al_get 1 = .ok (.aload_n 0, 1) := by decide +kernel
theorem d_Al_get_2 : decode b_Al_get 2 = .ok (.getfield 48, 3) := by decide +kernel
theorem d_Al_get_5 : decode b_Al_get 5 = .ok (.invokestatic 118, 3) := by decide +kernel
theorem d_Al_get_8 : decode b_Al_get 8 = .ok (.pop, 1) := by decide +kernel
theorem d_Al_get_9 : decode b_Al_get 9 = .ok (.aload_n 0, 1) := by decide +kernel
theorem d_Al_get_10 : decode b_Al_get 10 = .ok (.iload_n 1, 1) := by decide +kernel
theorem d_Al_get_11 : decode b_Al_get 11 = .ok (.invokevirtual 123, 3) := by decide +kernel
theorem d_Al_get_14 : decode b_Al_get 14 = .ok (.areturn, 1) := by decide +kernel
theorem d_Ob_checkIndex_0 : decode b_Ob_checkIndex 0 = .ok (.iload_n 0, 1) := by decide +kernel
theorem d_Ob_checkIndex_1 : decode b_Ob_checkIndex 1 = .ok (.iload_n 1, 1) := by decide +kernel
theorem d_Ob_checkIndex_2 : decode b_Ob_checkIndex 2 = .ok (.aconst_null, 1) := by decide +kernel
theorem d_Ob_checkIndex_3 : decode b_Ob_checkIndex 3 = .ok (.invokestatic 105, 3) := by decide +kernel
theorem d_Ob_checkIndex_6 : decode b_Ob_checkIndex 6 = .ok (.ireturn, 1) := by decide +kernel
theorem d_Pq_checkIndex_0 : decode b_Pq_checkIndex 0 = .ok (.iload_n 0, 1) := by decide +kernel
theorem d_Pq_checkIndex_1 : decode b_Pq_checkIndex 1 = .ok (.ifCond .lt (8), 3) := by decide +kernel
theorem d_Pq_checkIndex_4 : decode b_Pq_checkIndex 4 = .ok (.iload_n 0, 1) := by decide +kernel
theorem d_Pq_checkIndex_5 : decode b_Pq_checkIndex 5 = .ok (.iload_n 1, 1) := by decide +kernel
theorem d_Pq_checkIndex_6 : decode b_Pq_checkIndex 6 = .ok (.if_icmp .lt (10), 3) := by decide +kernel
theorem d_Pq_checkIndex_9 : decode b_Pq_checkIndex 9 = .ok (.aload_n 2, 1) := by decide +kernel
theorem d_Pq_checkIndex_10 : decode b_Pq_checkIndex 10 = .ok (.iload_n 0, 1) := by decide +kernel
theorem d_Pq_checkIndex_11 : decode b_Pq_checkIndex 11 = .ok (.iload_n 1, 1) := by decide +kernel
theorem d_Pq_checkIndex_12 : decode b_Pq_checkIndex 12 = .ok (.invokestatic 95, 3) := by decide +kernel
theorem d_Pq_checkIndex_16 : decode b_Pq_checkIndex 16 = .ok (.iload_n 0, 1) := by decide +kernel
theorem d_Pq_checkIndex_17 : decode b_Pq_checkIndex 17 = .ok (.ireturn, 1) := by decide +kernel
theorem d_Al_elementData_0 : decode b_Al_elementData 0 = .ok (.aload_n 0, 1) := by decide +kernel
theorem d_Al_elementData_1 : decode b_Al_elementData 1 = .ok (.getfield 9, 3) := by decide +kernel
theorem d_Al_elementData_4 : decode b_Al_elementData 4 = .ok (.iload_n 1, 1) := by decide +kernel
theorem d_Al_elementData_5 : decode b_Al_elementData 5 = .ok (.aaload, 1) := by decide +kernel
theorem d_Al_elementData_6 : decode b_Al_elementData 6 = .ok (.areturn, 1) := by decide +kernel
theorem d_Al_add_1_0 : decode b_Al_add_1 0 = .ok (.aload_n 0, 1) := by decide +kernel
theorem d_Al_add_1_1 : decode b_Al_add_1 1 = .ok (.dup, 1) := by decide +kernel
theorem d_Al_add_1_2 : decode b_Al_add_1 2 = .ok (.getfield 63, 3) := by decide +kernel
theorem d_Al_add_1_5 : decode b_Al_add_1 5 = .ok (.iconst 1, 1) := by decide +kernel
theorem d_Al_add_1_6 : decode b_Al_add_1 6 = .ok (.iadd, 1) := by decide +kernel
theorem d_Al_add_1_7 : decode b_Al_add_1 7 = .ok (.putfield 63, 3) := by decide +kernel
theorem d_Al_add_1_10 : decode b_Al_add_1 10 = .ok (.aload_n 0, 1) := by decide +kernel
theorem d_Al_add_1_11 : decode b_Al_add_1 11 = .ok (.aload_n 1, 1) := by decide +kernel
theorem d_Al_add_1_12 : decode b_Al_add_1 12 = .ok (.aload_n 0, 1) := by decide +kernel
theorem d_Al_add_1_13 : decode b_Al_add_1 13 = .ok (.getfield 9, 3) := by decide +kernel
theorem d_Al_add_1_16 : decode b_Al_add_1 16 = .ok (.aload_n 0, 1) := by decide +kernel
theorem d_Al_add_1_17 : decode b_Al_add_1 17 = .ok (.getfield 48, 3) := by decide +kernel
theorem d_Al_add_1_20 : decode b_Al_add_1 20 = .ok (.invokevirtual 131, 3) := by decide +kernel
theorem d_Al_add_1_23 : decode b_Al_add_1 23 = .ok (.iconst 1, 1) := by decide +kernel
theorem d_Al_add_1_24 : decode b_Al_add_1 24 = .ok (.ireturn, 1) := by decide +kernel
theorem d_Al_add_3_0 : decode b_Al_add_3 0 = .ok (.iload_n 3, 1) := by decide +kernel
theorem d_Al_add_3_1 : decode b_Al_add_3 1 = .ok (.aload_n 2, 1) := by decide +kernel
theorem d_Al_add_3_2 : decode b_Al_add_3 2 = .ok (.arraylength, 1) := by decide +kernel
theorem d_Al_add_3_3 : decode b_Al_add_3 3 = .ok (.if_icmp .ne (8), 3) := by decide +kernel
theorem d_Al_add_3_6 : decode b_Al_add_3 6 = .ok (.aload_n 0, 1) := by decide +kernel
theorem d_Al_add_3_7 : decode b_Al_add_3 7 = .ok (.invokevirtual 129, 3) := by decide +kernel
theorem d_Al_add_3_10 : decode b_Al_add_3 10 = .ok (.astore_n 2, 1) := by decide +kernel
theorem d_Al_add_3_11 : decode b_Al_add_3 11 = .ok (.aload_n 2, 1) := by decide +kernel
theorem d_Al_add_3_12 : decode b_Al_add_3 12 = .ok (.iload_n 3, 1) := by decide +kernel
theorem d_Al_add_3_13 : decode b_Al_add_3 13 = .ok (.aload_n 1, 1) := by decide +kernel
theorem d_Al_add_3_14 : decode b_Al_add_3 14 = .ok (.aastore, 1) := by decide +kernel
theorem d_Al_add_3_15 : decode b_Al_add_3 15 = .ok (.aload_n 0, 1) := by decide +kernel
theorem d_Al_add_3_16 : decode b_Al_add_3 16 = .ok (.iload_n 3, 1) := by decide +kernel
theorem d_Al_add_3_17 : decode b_Al_add_3 17 = .ok (.iconst 1, 1) := by decide +kernel
theorem d_Al_add_3_18 : decode b_Al_add_3 18 = .ok (.iadd, 1) := by decide +kernel
theorem d_Al_add_3_19 : decode b_Al_add_3 19 = .ok (.putfield 48, 3) := by decide +kernel
theorem d_Al_add_3_22 : decode b_Al_add_3 22 = .ok (.return_, 1) := by decide +kernel
theorem d_Al_grow_0_0 : decode b_Al_grow_0 0 = .ok (.aload_n 0, 1) := by decide +kernel
theorem d_Al_grow_0_1 : decode b_Al_grow_0 1 = .ok (.aload_n 0, 1) := by decide +kernel
theorem d_Al_grow_0_2 : decode b_Al_grow_0 2 = .ok (.getfield 48, 3) := by decide +kernel
theorem d_Al_grow_0_5 : decode b_Al_grow_0 5 = .ok (.iconst 1, 1) := by decide +kernel
theorem d_Al_grow_0_6 : decode b_Al_grow_0 6 = .ok (.iadd, 1) := by decide +kernel
theorem d_Al_grow_0_7 : decode b_Al_grow_0 7 = .ok (.invokevirtual 69, 3) := by decide +kernel
theorem d_Al_grow_0_10 : decode b_Al_grow_0 10 = .ok (.areturn, 1) := by decide +kernel
theorem d_Al_grow_1_0 : decode b_Al_grow_1 0 = .ok (.aload_n 0, 1) := by decide +kernel
theorem d_Al_grow_1_1 : decode b_Al_grow_1 1 = .ok (.getfield 9, 3) := by decide +kernel
theorem d_Al_grow_1_4 : decode b_Al_grow_1 4 = .ok (.arraylength, 1) := by decide +kernel
theorem d_Al_grow_1_5 : decode b_Al_grow_1 5 = .ok (.istore_n 2, 1) := by decide +kernel
theorem d_Al_grow_1_6 : decode b_Al_grow_1 6 = .ok (.iload_n 2, 1) := by decide +kernel
theorem d_Al_grow_1_7 : decode b_Al_grow_1 7 = .ok (.ifCond .gt (13), 3) := by decide +kernel
theorem d_Al_grow_1_10 : decode b_Al_grow_1 10 = .ok (.aload_n 0, 1) := by decide +kernel
theorem d_Al_grow_1_11 : decode b_Al_grow_1 11 = .ok (.getfield 9, 3) := by decide +kernel
theorem d_Al_grow_1_14 : decode b_Al_grow_1 14 = .ok (.getstatic 39, 3) := by decide +kernel
theorem d_Al_grow_1_17 : decode b_Al_grow_1 17 = .ok (.if_acmp .eq (28), 3) := by decide +kernel
theorem d_Al_grow_1_20 : decode b_Al_grow_1 20 = .ok (.iload_n 2, 1) := by decide +kernel
theorem d_Al_grow_1_21 : decode b_Al_grow_1 21 = .ok (.iload_n 1, 1) := by decide +kernel
theorem d_Al_grow_1_22 : decode b_Al_grow_1 22 = .ok (.iload_n 2, 1) := by decide +kernel
theorem d_Al_grow_1_23 : decode b_Al_grow_1 23 = .ok (.isub, 1) := by decide +kernel
theorem d_Al_grow_1_24 : decode b_Al_grow_1 24 = .ok (.iload_n 2, 1) := by decide +kernel
theorem d_Al_grow_1_25 : decode b_Al_grow_1 25 = .ok (.iconst 1, 1) := by decide +kernel
theorem d_Al_grow_1_26 : decode b_Al_grow_1 26 = .ok (.ishr, 1) := by decide +kernel
theorem d_Al_grow_1_27 : decode b_Al_grow_1 27 = .ok (.invokestatic 73, 3) := by decide +kernel
theorem d_Al_grow_1_30 : decode b_Al_grow_1 30 = .ok (.istore_n 3, 1) := by decide +kernel
theorem d_Al_grow_1_31 : decode b_Al_grow_1 31 = .ok (.aload_n 0, 1) := by decide +kernel
theorem d_Al_grow_1_32 : decode b_Al_grow_1 32 = .ok (.aload_n 0, 1) := by decide +kernel
theorem d_Al_grow_1_33 : decode b_Al_grow_1 33 = .ok (.getfield 9, 3) := by decide +kernel
theorem d_Al_grow_1_36 : decode b_Al_grow_1 36 = .ok (.iload_n 3, 1) := by decide +kernel
theorem d_Al_grow_1_37 : decode b_Al_grow_1 37 = .ok (.invokestatic 66, 3) := by decide +kernel
theorem d_Al_grow_1_40 : decode b_Al_grow_1 40 = .ok (.dup_x1, 1) := by decide +kernel
theorem d_Al_grow_1_41 : decode b_Al_grow_1 41 = .ok (.putfield 9, 3) := by decide +kernel
theorem d_Al_grow_1_44 : decode b_Al_grow_1 44 = .ok (.areturn, 1) := by decide +kernel
theorem d_Al_grow_1_45 : decode b_Al_grow_1 45 = .ok (.aload_n 0, 1) := by decide +kernel
theorem d_Al_grow_1_46 : decode b_Al_grow_1 46 = .ok (.bipush (10), 2) := by decide +kernel
theorem d_Al_grow_1_48 : decode b_Al_grow_1 48 = .ok (.iload_n 1, 1) := by decide +kernel
theorem d_Al_grow_1_49 : decode b_Al_grow_1 49 = .ok (.invokestatic 79, 3) := by decide +kernel
theorem d_Al_grow_1_52 : decode b_Al_grow_1 52 = .ok (.anewarray 7, 3) := by decide +kernel
theorem d_Al_grow_1_55 : decode b_Al_grow_1 55 = .ok (.dup_x1, 1) := by decide +kernel
theorem d_Al_grow_1_56 : decode b_Al_grow_1 56 = .ok (.putfield 9, 3) := by decide +kernel
theorem d_Al_grow_1_59 : decode b_Al_grow_1 59 = .ok (.areturn, 1) := by decide +kernel
theorem d_As_newLength_0 : decode b_As_newLength 0 = .ok (.iload_n 0, 1) := by decide +kernel
theorem d_As_newLength_1 : decode b_As_newLength 1 = .ok (.iload_n 1, 1) := by decide +kernel
theorem d_As_newLength_2 : decode b_As_newLength 2 = .ok (.iload_n 2, 1) := by decide +kernel
theorem d_As_newLength_3 : decode b_As_newLength 3 = .ok (.invokestatic 194, 3) := by decide +kernel
theorem d_As_newLength_6 : decode b_As_newLength 6 = .ok (.iadd, 1) := by decide +kernel
theorem d_As_newLength_7 : decode b_As_newLength 7 = .ok (.istore_n 3, 1) := by decide +kernel
theorem d_As_newLength_8 : decode b_As_newLength 8 = .ok (.iconst 0, 1) := by decide +kernel
theorem d_As_newLength_9 : decode b_As_newLength 9 = .ok (.iload_n 3, 1) := by decide +kernel
theorem d_As_newLength_10 : decode b_As_newLength 10 = .ok (.if_icmp .ge (11), 3) := by decide +kernel
theorem d_As_newLength_13 : decode b_As_newLength 13 = .ok (.iload_n 3, 1) := by decide +kernel
theorem d_As_newLength_14 : decode b_As_newLength 14 = .ok (.ldc 200, 2) := by decide +kernel
theorem d_As_newLength_16 : decode b_As_newLength 16 = .ok (.if_icmp .gt (5), 3) := by decide +kernel
theorem d_As_newLength_19 : decode b_As_newLength 19 = .ok (.iload_n 3, 1) := by decide +kernel
theorem d_As_newLength_20 : decode b_As_newLength 20 = .ok (.ireturn, 1) := by decide +kernel
theorem d_As_newLength_21 : decode b_As_newLength 21 = .ok (.iload_n 0, 1) := by decide +kernel
theorem d_As_newLength_22 : decode b_As_newLength 22 = .ok (.iload_n 1, 1) := by decide +kernel
theorem d_As_newLength_23 : decode b_As_newLength 23 = .ok (.invokestatic 201, 3) := by decide +kernel
theorem d_As_newLength_26 : decode b_As_newLength 26 = .ok (.ireturn, 1) := by decide +kernel
theorem d_Ar_copyOf_2_0 : decode b_Ar_copyOf_2 0 = .ok (.aload_n 0, 1) := by decide +kernel
theorem d_Ar_copyOf_2_1 : decode b_Ar_copyOf_2 1 = .ok (.iload_n 1, 1) := by decide +kernel
theorem d_Ar_copyOf_2_2 : decode b_Ar_copyOf_2 2 = .ok (.aload_n 0, 1) := by decide +kernel
theorem d_Ar_copyOf_2_3 : decode b_Ar_copyOf_2 3 = .ok (.invokevirtual 86, 3) := by decide +kernel
theorem d_Ar_copyOf_2_6 : decode b_Ar_copyOf_2 6 = .ok (.invokestatic 300, 3) := by decide +kernel
theorem d_Ar_copyOf_2_9 : decode b_Ar_copyOf_2 9 = .ok (.areturn, 1) := by decide +kernel
theorem d_Ar_copyOf_3_0 : decode b_Ar_copyOf_3 0 = .ok (.aload_n 2, 1) := by decide +kernel
theorem d_Ar_copyOf_3_1 : decode b_Ar_copyOf_3 1 = .ok (.ldc 110, 2) := by decide +kernel
theorem d_Ar_copyOf_3_3 : decode b_Ar_copyOf_3 3 = .ok (.if_acmp .ne (10), 3) := by decide +kernel
theorem d_Ar_copyOf_3_6 : decode b_Ar_copyOf_3 6 = .ok (.iload_n 1, 1) := by decide +kernel
theorem d_Ar_copyOf_3_7 : decode b_Ar_copyOf_3 7 = .ok (.anewarray 2, 3) := by decide +kernel
theorem d_Ar_copyOf_3_10 : decode b_Ar_copyOf_3 10 = .ok (.goto (14), 3) := by decide +kernel
theorem d_Ar_copyOf_3_13 : decode b_Ar_copyOf_3 13 = .ok (.aload_n 2, 1) := by decide +kernel
theorem d_Ar_copyOf_3_14 : decode b_Ar_copyOf_3 14 = .ok (.invokevirtual 90, 3) := by decide +kernel
theorem d_Ar_copyOf_3_17 : decode b_Ar_copyOf_3 17 = .ok (.iload_n 1, 1) := by decide +kernel
theorem d_Ar_copyOf_3_18 : decode b_Ar_copyOf_3 18 = .ok (.invokestatic 95, 3) := by decide +kernel
theorem d_Ar_copyOf_3_21 : decode b_Ar_copyOf_3 21 = .ok (.checkcast 110, 3) := by decide +kernel
theorem d_Ar_copyOf_3_24 : decode b_Ar_copyOf_3 24 = .ok (.astore_n 3, 1) := by decide +kernel
theorem d_Ar_copyOf_3_25 : decode b_Ar_copyOf_3 25 = .ok (.aload_n 0, 1) := by decide +kernel
theorem d_Ar_copyOf_3_26 : decode b_Ar_copyOf_3 26 = .ok (.iconst 0, 1) := by decide +kernel
theorem d_Ar_copyOf_3_27 : decode b_Ar_copyOf_3 27 = .ok (.aload_n 3, 1) := by decide +kernel
theorem d_Ar_copyOf_3_28 : decode b_Ar_copyOf_3 28 = .ok (.iconst 0, 1) := by decide +kernel
theorem d_Ar_copyOf_3_29 : decode b_Ar_copyOf_3 29 = .ok (.aload_n 0, 1) := by decide +kernel
theorem d_Ar_copyOf_3_30 : decode b_Ar_copyOf_3 30 = .ok (.arraylength, 1) := by decide +kernel
theorem d_Ar_copyOf_3_31 : decode b_Ar_copyOf_3 31 = .ok (.iload_n 1, 1) := by decide +kernel
theorem d_Ar_copyOf_3_32 : decode b_Ar_copyOf_3 32 = .ok (.invokestatic 304, 3) := by decide +kernel
theorem d_Ar_copyOf_3_35 : decode b_Ar_copyOf_3 35 = .ok (.invokestatic 150, 3) := by decide +kernel
theorem d_Ar_copyOf_3_38 : decode b_Ar_copyOf_3 38 = .ok (.aload_n 3, 1) := by decide +kernel
theorem d_Ar_copyOf_3_39 : decode b_Ar_copyOf_3 39 = .ok (.areturn, 1) := by decide +kernel
end
section
theorem d_Pr_init_0 : decode b_Pr_init 0 = .ok (.aload_n 0, 1) := by decide +kernel
theorem d_Pr_init_1 : decode b_Pr_init 1 = .ok (.invokespecial 1, 3) := by decide +kernel
theorem d_Pr_init_4 : decode b_Pr_init 4 = .ok (.aload_n 0, 1) := by decide +kernel
theorem d_Pr_init_5 : decode b_Pr_init 5 = .ok (.new 7, 3) := by decide +kernel
theorem d_Pr_init_8 : decode b_Pr_init 8 = .ok (.dup, 1) := by decide +kernel
theorem d_Pr_init_9 : decode b_Pr_init 9 = .ok (.invokespecial 9, 3) := by decide +kernel
theorem d_Pr_init_12 : decode b_Pr_init 12 = .ok (.putfield 10, 3) := by decide +kernel
theorem d_Pr_init_15 : decode b_Pr_init 15 = .ok (.aload_n 0, 1) := by decide +kernel
theorem d_Pr_init_16 : decode b_Pr_init 16 = .ok (.new 16, 3) := by decide +kernel
theorem d_Pr_init_19 : decode b_Pr_init 19 = .ok (.dup, 1) := by decide +kernel
theorem d_Pr_init_20 : decode b_Pr_init 20 = .ok (.invokespecial 18, 3) := by decide +kernel
theorem d_Pr_init_23 : decode b_Pr_init 23 = .ok (.putfield 19, 3) := by decide +kernel
theorem d_Pr_init_26 : decode b_Pr_init 26 = .ok (.aload_n 0, 1) := by decide +kernel
theorem d_Pr_init_27 : decode b_Pr_init 27 = .ok (.bipush (32), 2) := by decide +kernel
theorem d_Pr_init_29 : decode b_Pr_init 29 = .ok (.newarray .long, 2) := by decide +kernel
theorem d_Pr_init_31 : decode b_Pr_init 31 = .ok (.putfield 23, 3) := by decide +kernel
theorem d_Pr_init_34 : decode b_Pr_init 34 = .ok (.aload_n 0, 1) := by decide +kernel
theorem d_Pr_init_35 : decode b_Pr_init 35 = .ok (.iconst 0, 1) := by decide +kernel
theorem d_Pr_init_36 : decode b_Pr_init 36 = .ok (.putfield 27, 3) := by decide +kernel
theorem d_Pr_init_39 : decode b_Pr_init 39 = .ok (.aload_n 0, 1) := by decide +kernel
theorem d_Pr_init_40 : decode b_Pr_init 40 = .ok (.bipush (8), 2) := by decide +kernel
theorem d_Pr_init_42 : decode b_Pr_init 42 = .ok (.newarray .int, 2) := by decide +kernel
theorem d_Pr_init_44 : decode b_Pr_init 44 = .ok (.putfield 31, 3) := by decide +kernel
theorem d_Pr_init_47 : decode b_Pr_init 47 = .ok (.aload_n 0, 1) := by decide +kernel
theorem d_Pr_init_48 : decode b_Pr_init 48 = .ok (.new 35, 3) := by decide +kernel
theorem d_Pr_init_51 : decode b_Pr_init 51 = .ok (.dup, 1) := by decide +kernel
theorem d_Pr_init_52 : decode b_Pr_init 52 = .ok (.iconst 4, 1) := by decide +kernel
theorem d_Pr_init_53 : decode b_Pr_init 53 = .ok (.bipush (8), 2) := by decide +kernel
theorem d_Pr_init_55 : decode b_Pr_init 55 = .ok (.iload_n 1, 1) := by decide +kernel
theorem d_Pr_init_56 : decode b_Pr_init 56 = .ok (.invokestatic 37, 3) := by decide +kernel
theorem d_Pr_init_59 : decode b_Pr_init 59 = .ok (.invokestatic 43, 3) := by decide +kernel
theorem d_Pr_init_62 : decode b_Pr_init 62 = .ok (.invokespecial 46, 3) := by decide +kernel
theorem d_Pr_init_65 : decode b_Pr_init 65 = .ok (.putfield 49, 3) := by decide +kernel
theorem d_Pr_init_68 : decode b_Pr_init 68 = .ok (.aload_n 0, 1) := by decide +kernel
theorem d_Pr_init_69 : decode b_Pr_init 69 = .ok (.new 53, 3) := by decide +kernel
theorem d_Pr_init_72 : decode b_Pr_init 72 = .ok (.dup, 1) := by decide +kernel
theorem d_Pr_init_73 : decode b_Pr_init 73 = .ok (.iconst 1, 1) := by decide +kernel
theorem d_Pr_init_74 : decode b_Pr_init 74 = .ok (.iconst 3, 1) := by decide +kernel
theorem d_Pr_init_75 : decode b_Pr_init 75 = .ok (.iload_n 2, 1) := by decide +kernel
theorem d_Pr_init_76 : decode b_Pr_init 76 = .ok (.invokestatic 37, 3) := by decide +kernel
theorem d_Pr_init_79 : decode b_Pr_init 79 = .ok (.invokestatic 43, 3) := by decide +kernel
theorem d_Pr_init_82 : decode b_Pr_init 82 = .ok (.invokespecial 55, 3) := by decide +kernel
theorem d_Pr_init_85 : decode b_Pr_init 85 = .ok (.putfield 56, 3) := by decide +kernel
theorem d_Pr_init_88 : decode b_Pr_init 88 = .ok (.return_, 1) := by decide +kernel
theorem d_Pr_begin_0 : decode b_Pr_begin 0 = .ok (.aload_n 0, 1) := by decide +kernel
theorem d_Pr_begin_1 : decode b_Pr_begin 1 = .ok (.getfield 10, 3) := by decide +kernel
theorem d_Pr_begin_4 : decode b_Pr_begin 4 = .ok (.invokevirtual 60, 3) := by decide +kernel
theorem d_Pr_begin_7 : decode b_Pr_begin 7 = .ok (.ifCond .eq (5), 3) := by decide +kernel
theorem d_Pr_begin_10 : decode b_Pr_begin 10 = .ok (.iconst (-1), 1) := by decide +kernel
theorem d_Pr_begin_11 : decode b_Pr_begin 11 = .ok (.ireturn, 1) := by decide +kernel
theorem d_Pr_begin_12 : decode b_Pr_begin 12 = .ok (.aload_n 0, 1) := by decide +kernel
theorem d_Pr_begin_13 : decode b_Pr_begin 13 = .ok (.getfield 10, 3) := by decide +kernel
theorem d_Pr_begin_16 : decode b_Pr_begin 16 = .ok (.invokevirtual 64, 3) := by decide +kernel
theorem d_Pr_begin_19 : decode b_Pr_begin 19 = .ok (.iconst 0, 1) := by decide +kernel
theorem d_Pr_begin_20 : decode b_Pr_begin 20 = .ok (.ireturn, 1) := by decide +kernel
theorem d_Pr_put_0 : decode b_Pr_put 0 = .ok (.iload_n 1, 1) := by decide +kernel
theorem d_Pr_put_1 : decode b_Pr_put 1 = .ok (.invokestatic 67, 3) := by decide +kernel
theorem d_Pr_put_4 : decode b_Pr_put 4 = .ok (.ifCond .eq (13), 3) := by decide +kernel
theorem d_Pr_put_7 : decode b_Pr_put 7 = .ok (.aload_n 0, 1) := by decide +kernel
theorem d_Pr_put_8 : decode b_Pr_put 8 = .ok (.getfield 10, 3) := by decide +kernel
theorem d_Pr_put_11 : decode b_Pr_put 11 = .ok (.invokevirtual 71, 3) := by decide +kernel
theorem d_Pr_put_14 : decode b_Pr_put 14 = .ok (.ifCond .ne (5), 3) := by decide +kernel
theorem d_Pr_put_17 : decode b_Pr_put 17 = .ok (.iconst (-1), 1) := by decide +kernel
theorem d_Pr_put_18 : decode b_Pr_put 18 = .ok (.ireturn, 1) := by decide +kernel
theorem d_Pr_put_19 : decode b_Pr_put 19 = .ok (.aload_n 0, 1) := by decide +kernel
theorem d_Pr_put_20 : decode b_Pr_put 20 = .ok (.getfield 10, 3) := by decide +kernel
theorem d_Pr_put_23 : decode b_Pr_put 23 = .ok (.invokevirtual 74, 3) := by decide +kernel
theorem d_Pr_put_26 : decode b_Pr_put 26 = .ok (.iconst 1, 1) := by decide +kernel
theorem d_Pr_put_27 : decode b_Pr_put 27 = .ok (.iadd, 1) := by decide +kernel
theorem d_Pr_put_28 : decode b_Pr_put 28 = .ok (.iconst 2, 1) := by decide +kernel
theorem d_Pr_put_29 : decode b_Pr_put 29 = .ok (.iadd, 1) := by decide +kernel
theorem d_Pr_put_30 : decode b_Pr_put 30 = .ok (.istore 4, 2) := by decide +kernel
theorem d_Pr_put_32 : decode b_Pr_put 32 = .ok (.aload_n 0, 1) := by decide +kernel
theorem d_Pr_put_33 : decode b_Pr_put 33 = .ok (.getfield 49, 3) := by decide +kernel
theorem d_Pr_put_36 : decode b_Pr_put 36 = .ok (.invokevirtual 78, 3) := by decide +kernel
theorem d_Pr_put_39 : decode b_Pr_put 39 = .ok (.iload 4, 2) := by decide +kernel
theorem d_Pr_put_41 : decode b_Pr_put 41 = .ok (.if_icmp .ge (6), 3) := by decide +kernel
theorem d_Pr_put_44 : decode b_Pr_put 44 = .ok (.bipush (-2), 2) := by decide +kernel
theorem d_Pr_put_46 : decode b_Pr_put 46 = .ok (.ireturn, 1) := by decide +kernel
theorem d_Pr_put_47 : decode b_Pr_put 47 = .ok (.aload_n 0, 1) := by decide +kernel
theorem d_Pr_put_48 : decode b_Pr_put 48 = .ok (.getfield 10, 3) := by decide +kernel
theorem d_Pr_put_51 : decode b_Pr_put 51 = .ok (.iload_n 1, 1) := by decide +kernel
theorem d_Pr_put_52 : decode b_Pr_put 52 = .ok (.aload_n 0, 1) := by decide +kernel
theorem d_Pr_put_53 : decode b_Pr_put 53 = .ok (.getfield 49, 3) := by decide +kernel
theorem d_Pr_put_56 : decode b_Pr_put 56 = .ok (.iload_n 1, 1) := by decide +kernel
theorem d_Pr_put_57 : decode b_Pr_put 57 = .ok (.invokevirtual 81, 3) := by decide +kernel
theorem d_Pr_put_60 : decode b_Pr_put 60 = .ok (.invokevirtual 85, 3) := by decide +kernel
theorem d_Pr_put_63 : decode b_Pr_put 63 = .ok (.aload_n 0, 1) := by decide +kernel
theorem d_Pr_put_64 : decode b_Pr_put 64 = .ok (.getfield 49, 3) := by decide +kernel
theorem d_Pr_put_67 : decode b_Pr_put 67 = .ok (.iload_n 1, 1) := by decide +kernel
theorem d_Pr_put_68 : decode b_Pr_put 68 = .ok (.iload_n 3, 1) := by decide +kernel
theorem d_Pr_put_69 : decode b_Pr_put 69 = .ok (.ifCond .eq (8), 3) := by decide +kernel
theorem d_Pr_put_72 : decode b_Pr_put 72 = .ok (.iload_n 2, 1) := by decide +kernel
theorem d_Pr_put_73 : decode b_Pr_put 73 = .ok (.i2l, 1) := by decide +kernel
theorem d_Pr_put_74 : decode b_Pr_put 74 = .ok (.goto (6), 3) := by decide +kernel
theorem d_Pr_put_77 : decode b_Pr_put 77 = .ok (.ldc2_w 89, 3) := by decide +kernel
theorem d_Pr_put_80 : decode b_Pr_put 80 = .ok (.invokevirtual 91, 3) := by decide +kernel
theorem d_Pr_put_83 : decode b_Pr_put 83 = .ok (.ireturn, 1) := by decide +kernel
theorem d_Pr_isKey_0 : decode b_Pr_isKey 0 = .ok (.iload_n 0, 1) := by decide +kernel
theorem d_Pr_isKey_1 : decode b_Pr_isKey 1 = .ok (.ifCond .lt (13), 3) := by decide +kernel
theorem d_Pr_isKey_4 : decode b_Pr_isKey 4 = .ok (.iload_n 0, 1) := by decide +kernel
theorem d_Pr_isKey_5 : decode b_Pr_isKey 5 = .ok (.bipush (32), 2) := by decide +kernel
theorem d_Pr_isKey_7 : decode b_Pr_isKey 7 = .ok (.if_icmp .ge (7), 3) := by decide +kernel
theorem d_Pr_isKey_10 : decode b_Pr_isKey 10 = .ok (.iconst 1, 1) := by decide +kernel
theorem d_Pr_isKey_11 : decode b_Pr_isKey 11 = .ok (.goto (4), 3) := by decide +kernel
theorem d_Pr_isKey_14 : decode b_Pr_isKey 14 = .ok (.iconst 0, 1) := by decide +kernel
theorem d_Pr_isKey_15 : decode b_Pr_isKey 15 = .ok (.ireturn, 1) := by decide +kernel
theorem d_Pr_commit_0 : decode b_Pr_commit 0 = .ok (.aload_n 0, 1) := by decide +kernel
theorem d_Pr_commit_1 : decode b_Pr_commit 1 = .ok (.getfield 10, 3) := by decide +kernel
theorem d_Pr_commit_4 : decode b_Pr_commit 4 = .ok (.invokevirtual 60, 3) := by decide +kernel
theorem d_Pr_commit_7 : decode b_Pr_commit 7 = .ok (.ifCond .ne (5), 3) := by decide +kernel
theorem d_Pr_commit_10 : decode b_Pr_commit 10 = .ok (.iconst (-1), 1) := by decide +kernel
theorem d_Pr_commit_11 : decode b_Pr_commit 11 = .ok (.ireturn, 1) := by decide +kernel
theorem d_Pr_commit_12 : decode b_Pr_commit 12 = .ok (.aload_n 0, 1) := by decide +kernel
theorem d_Pr_commit_13 : decode b_Pr_commit 13 = .ok (.getfield 49, 3) := by decide +kernel
theorem d_Pr_commit_16 : decode b_Pr_commit 16 = .ok (.invokevirtual 78, 3) := by decide +kernel
theorem d_Pr_commit_19 : decode b_Pr_commit 19 = .ok (.ifCond .ne (6), 3) := by decide +kernel
theorem d_Pr_commit_22 : decode b_Pr_commit 22 = .ok (.bipush (-2), 2) := by decide +kernel
theorem d_Pr_commit_24 : decode b_Pr_commit 24 = .ok (.ireturn, 1) := by decide +kernel
theorem d_Pr_commit_25 : decode b_Pr_commit 25 = .ok (.aload_n 0, 1) := by decide +kernel
theorem d_Pr_commit_26 : decode b_Pr_commit 26 = .ok (.getfield 10, 3) := by decide +kernel
theorem d_Pr_commit_29 : decode b_Pr_commit 29 = .ok (.invokevirtual 95, 3) := by decide +kernel
theorem d_Pr_commit_32 : decode b_Pr_commit 32 = .ok (.aload_n 0, 1) := by decide +kernel
theorem d_Pr_commit_33 : decode b_Pr_commit 33 = .ok (.getfield 49, 3) := by decide +kernel
theorem d_Pr_commit_36 : decode b_Pr_commit 36 = .ok (.invokevirtual 98, 3) := by decide +kernel
theorem d_Pr_commit_39 : decode b_Pr_commit 39 = .ok (.ireturn, 1) := by decide +kernel
theorem d_Pr_abort_0 : decode b_Pr_abort 0 = .ok (.aload_n 0, 1) := by decide +kernel
theorem d_Pr_abort_1 : decode b_Pr_abort 1 = .ok (.getfield 10, 3) := by decide +kernel
theorem d_Pr_abort_4 : decode b_Pr_abort 4 = .ok (.invokevirtual 60, 3) := by decide +kernel
theorem d_Pr_abort_7 : decode b_Pr_abort 7 = .ok (.ifCond .ne (5), 3) := by decide +kernel
theorem d_Pr_abort_10 : decode b_Pr_abort 10 = .ok (.iconst (-1), 1) := by decide +kernel
theorem d_Pr_abort_11 : decode b_Pr_abort 11 = .ok (.ireturn, 1) := by decide +kernel
theorem d_Pr_abort_12 : decode b_Pr_abort 12 = .ok (.aload_n 0, 1) := by decide +kernel
theorem d_Pr_abort_13 : decode b_Pr_abort 13 = .ok (.getfield 10, 3) := by decide +kernel
theorem d_Pr_abort_16 : decode b_Pr_abort 16 = .ok (.invokevirtual 74, 3) := by decide +kernel
theorem d_Pr_abort_19 : decode b_Pr_abort 19 = .ok (.istore_n 1, 1) := by decide +kernel
theorem d_Pr_abort_20 : decode b_Pr_abort 20 = .ok (.aload_n 0, 1) := by decide +kernel
theorem d_Pr_abort_21 : decode b_Pr_abort 21 = .ok (.getfield 10, 3) := by decide +kernel
theorem d_Pr_abort_24 : decode b_Pr_abort 24 = .ok (.aload_n 0, 1) := by decide +kernel
theorem d_Pr_abort_25 : decode b_Pr_abort 25 = .ok (.getfield 49, 3) := by decide +kernel
theorem d_Pr_abort_28 : decode b_Pr_abort 28 = .ok (.invokevirtual 101, 3) := by decide +kernel
theorem d_Pr_abort_31 : decode b_Pr_abort 31 = .ok (.iload_n 1, 1) := by decide +kernel
theorem d_Pr_abort_32 : decode b_Pr_abort 32 = .ok (.ireturn, 1) := by decide +kernel
theorem d_Pr_get_0 : decode b_Pr_get 0 = .ok (.iload_n 1, 1) := by decide +kernel
theorem d_Pr_get_1 : decode b_Pr_get 1 = .ok (.invokestatic 67, 3) := by decide +kernel
theorem d_Pr_get_4 : decode b_Pr_get 4 = .ok (.ifCond .eq (14), 3) := by decide +kernel
theorem d_Pr_get_7 : decode b_Pr_get 7 = .ok (.aload_n 0, 1) := by decide +kernel
theorem d_Pr_get_8 : decode b_Pr_get 8 = .ok (.getfield 49, 3) := by decide +kernel
theorem d_Pr_get_11 : decode b_Pr_get 11 = .ok (.iload_n 1, 1) := by decide +kernel
theorem d_Pr_get_12 : decode b_Pr_get 12 = .ok (.invokevirtual 81, 3) := by decide +kernel
theorem d_Pr_get_15 : decode b_Pr_get 15 = .ok (.goto (6), 3) := by decide +kernel
theorem d_Pr_get_18 : decode b_Pr_get 18 = .ok (.ldc2_w 105, 3) := by decide +kernel
theorem d_Pr_get_21 : decode b_Pr_get 21 = .ok (.lreturn, 1) := by decide +kernel
theorem d_Pr_write_0 : decode b_Pr_write 0 = .ok (.iload_n 1, 1) := by decide +kernel
theorem d_Pr_write_1 : decode b_Pr_write 1 = .ok (.invokestatic 107, 3) := by decide +kernel
theorem d_Pr_write_4 : decode b_Pr_write 4 = .ok (.ifCond .ne (5), 3) := by decide +kernel
theorem d_Pr_write_7 : decode b_Pr_write 7 = .ok (.iconst (-1), 1) := by decide +kernel
theorem d_Pr_write_8 : decode b_Pr_write 8 = .ok (.ireturn, 1) := by decide +kernel
theorem d_Pr_write_9 : decode b_Pr_write 9 = .ok (.aload_n 0, 1) := by decide +kernel
theorem d_Pr_write_10 : decode b_Pr_write 10 = .ok (.getfield 49, 3) := by decide +kernel
theorem d_Pr_write_13 : decode b_Pr_write 13 = .ok (.iload_n 1, 1) := by decide +kernel
theorem d_Pr_write_14 : decode b_Pr_write 14 = .ok (.invokevirtual 110, 3) := by decide +kernel
theorem d_Pr_write_17 : decode b_Pr_write 17 = .ok (.istore_n 2, 1) := by decide +kernel
theorem d_Pr_write_18 : decode b_Pr_write 18 = .ok (.aload_n 0, 1) := by decide +kernel
theorem d_Pr_write_19 : decode b_Pr_write 19 = .ok (.getfield 19, 3) := by decide +kernel
theorem d_Pr_write_22 : decode b_Pr_write 22 = .ok (.iload_n 1, 1) := by decide +kernel
theorem d_Pr_write_23 : decode b_Pr_write 23 = .ok (.iload_n 2, 1) := by decide +kernel
theorem d_Pr_write_24 : decode b_Pr_write 24 = .ok (.invokevirtual 114, 3) := by decide +kernel
theorem d_Pr_write_27 : decode b_Pr_write 27 = .ok (.iload_n 2, 1) := by decide +kernel
theorem d_Pr_write_28 : decode b_Pr_write 28 = .ok (.ireturn, 1) := by decide +kernel
theorem d_Pr_isPage_0 : decode b_Pr_isPage 0 = .ok (.iload_n 0, 1) := by decide +kernel
theorem d_Pr_isPage_1 : decode b_Pr_isPage 1 = .ok (.ifCond .lt (13), 3) := by decide +kernel
theorem d_Pr_isPage_4 : decode b_Pr_isPage 4 = .ok (.iload_n 0, 1) := by decide +kernel
theorem d_Pr_isPage_5 : decode b_Pr_isPage 5 = .ok (.bipush (8), 2) := by decide +kernel
theorem d_Pr_isPage_7 : decode b_Pr_isPage 7 = .ok (.if_icmp .ge (7), 3) := by decide +kernel
theorem d_Pr_isPage_10 : decode b_Pr_isPage 10 = .ok (.iconst 1, 1) := by decide +kernel
theorem d_Pr_isPage_11 : decode b_Pr_isPage 11 = .ok (.goto (4), 3) := by decide +kernel
theorem d_Pr_isPage_14 : decode b_Pr_isPage 14 = .ok (.iconst 0, 1) := by decide +kernel
theorem d_Pr_isPage_15 : decode b_Pr_isPage 15 = .ok (.ireturn, 1) := by decide +kernel
theorem d_Pr_archive_0 : decode b_Pr_archive 0 = .ok (.aload_n 0, 1) := by decide +kernel
theorem d_Pr_archive_1 : decode b_Pr_archive 1 = .ok (.getfield 49, 3) := by decide +kernel
theorem d_Pr_archive_4 : decode b_Pr_archive 4 = .ok (.invokevirtual 118, 3) := by decide +kernel
theorem d_Pr_archive_7 : decode b_Pr_archive 7 = .ok (.ireturn, 1) := by decide +kernel
theorem d_Pr_backup_0 : decode b_Pr_backup 0 = .ok (.aload_n 0, 1) := by decide +kernel
theorem d_Pr_backup_1 : decode b_Pr_backup 1 = .ok (.getfield 56, 3) := by decide +kernel
theorem d_Pr_backup_4 : decode b_Pr_backup 4 = .ok (.iload_n 1, 1) := by decide +kernel
theorem d_Pr_backup_5 : decode b_Pr_backup 5 = .ok (.aload_n 0, 1) := by decide +kernel
theorem d_Pr_backup_6 : decode b_Pr_backup 6 = .ok (.getfield 49, 3) := by decide +kernel
theorem d_Pr_backup_9 : decode b_Pr_backup 9 = .ok (.invokevirtual 121, 3) := by decide +kernel
theorem d_Pr_backup_12 : decode b_Pr_backup 12 = .ok (.invokevirtual 124, 3) := by decide +kernel
theorem d_Pr_backup_15 : decode b_Pr_backup 15 = .ok (.ireturn, 1) := by decide +kernel
theorem d_Pr_step_0 : decode b_Pr_step 0 = .ok (.iload_n 1, 1) := by decide +kernel
theorem d_Pr_step_1 : decode b_Pr_step 1 = .ok (.iconst 1, 1) := by decide +kernel
theorem d_Pr_step_2 : decode b_Pr_step 2 = .ok (.if_icmp .lt (9), 3) := by decide +kernel
theorem d_Pr_step_5 : decode b_Pr_step 5 = .ok (.iload_n 1, 1) := by decide +kernel
theorem d_Pr_step_6 : decode b_Pr_step 6 = .ok (.bipush (8), 2) := by decide +kernel
theorem d_Pr_step_8 : decode b_Pr_step 8 = .ok (.if_icmp .le (5), 3) := by decide +kernel
theorem d_Pr_step_11 : decode b_Pr_step 11 = .ok (.iconst (-1), 1) := by decide +kernel
theorem d_Pr_step_12 : decode b_Pr_step 12 = .ok (.ireturn, 1) := by decide +kernel
theorem d_Pr_step_13 : decode b_Pr_step 13 = .ok (.aload_n 0, 1) := by decide +kernel
theorem d_Pr_step_14 : decode b_Pr_step 14 = .ok (.getfield 56, 3) := by decide +kernel
theorem d_Pr_step_17 : decode b_Pr_step 17 = .ok (.iload_n 1, 1) := by decide +kernel
theorem d_Pr_step_18 : decode b_Pr_step 18 = .ok (.aload_n 0, 1) := by decide +kernel
theorem d_Pr_step_19 : decode b_Pr_step 19 = .ok (.getfield 49, 3) := by decide +kernel
theorem d_Pr_step_22 : decode b_Pr_step 22 = .ok (.invokevirtual 128, 3) := by decide +kernel
theorem d_Pr_step_25 : decode b_Pr_step 25 = .ok (.ireturn, 1) := by decide +kernel
theorem d_Pr_crash_0 : decode b_Pr_crash 0 = .ok (.iload_n 1, 1) := by decide +kernel
theorem d_Pr_crash_1 : decode b_Pr_crash 1 = .ok (.iconst (-1), 1) := by decide +kernel
theorem d_Pr_crash_2 : decode b_Pr_crash 2 = .ok (.if_icmp .eq (12), 3) := by decide +kernel
theorem d_Pr_crash_5 : decode b_Pr_crash 5 = .ok (.iload_n 1, 1) := by decide +kernel
theorem d_Pr_crash_6 : decode b_Pr_crash 6 = .ok (.invokestatic 107, 3) := by decide +kernel
theorem d_Pr_crash_9 : decode b_Pr_crash 9 = .ok (.ifCond .ne (5), 3) := by decide +kernel
theorem d_Pr_crash_12 : decode b_Pr_crash 12 = .ok (.iconst (-1), 1) := by decide +kernel
theorem d_Pr_crash_13 : decode b_Pr_crash 13 = .ok (.ireturn, 1) := by decide +kernel
theorem d_Pr_crash_14 : decode b_Pr_crash 14 = .ok (.iload_n 1, 1) := by decide +kernel
theorem d_Pr_crash_15 : decode b_Pr_crash 15 = .ok (.iconst (-1), 1) := by decide +kernel
theorem d_Pr_crash_16 : decode b_Pr_crash 16 = .ok (.if_icmp .eq (11), 3) := by decide +kernel
theorem d_Pr_crash_19 : decode b_Pr_crash 19 = .ok (.aload_n 0, 1) := by decide +kernel
theorem d_Pr_crash_20 : decode b_Pr_crash 20 = .ok (.getfield 19, 3) := by decide +kernel
theorem d_Pr_crash_23 : decode b_Pr_crash 23 = .ok (.iload_n 1, 1) := by decide +kernel
theorem d_Pr_crash_24 : decode b_Pr_crash 24 = .ok (.invokevirtual 132, 3) := by decide +kernel
theorem d_Pr_crash_27 : decode b_Pr_crash 27 = .ok (.aload_n 0, 1) := by decide +kernel
theorem d_Pr_crash_28 : decode b_Pr_crash 28 = .ok (.invokevirtual 135, 3) := by decide +kernel
theorem d_Pr_crash_31 : decode b_Pr_crash 31 = .ok (.ireturn, 1) := by decide +kernel
theorem d_Pr_recover_0 : decode b_Pr_recover 0 = .ok (.aload_n 0, 1) := by decide +kernel
theorem d_Pr_recover_1 : decode b_Pr_recover 1 = .ok (.getfield 56, 3) := by decide +kernel
theorem d_Pr_recover_4 : decode b_Pr_recover 4 = .ok (.invokevirtual 203, 3) := by decide +kernel
theorem d_Pr_recover_7 : decode b_Pr_recover 7 = .ok (.iconst 0, 1) := by decide +kernel
theorem d_Pr_recover_8 : decode b_Pr_recover 8 = .ok (.istore_n 1, 1) := by decide +kernel
theorem d_Pr_recover_9 : decode b_Pr_recover 9 = .ok (.iload_n 1, 1) := by decide +kernel
theorem d_Pr_recover_10 : decode b_Pr_recover 10 = .ok (.bipush (8), 2) := by decide +kernel
theorem d_Pr_recover_12 : decode b_Pr_recover 12 = .ok (.if_icmp .ge (34), 3) := by decide +kernel
theorem d_Pr_recover_15 : decode b_Pr_recover 15 = .ok (.aload_n 0, 1) := by decide +kernel
theorem d_Pr_recover_16 : decode b_Pr_recover 16 = .ok (.getfield 31, 3) := by decide +kernel
theorem d_Pr_recover_19 : decode b_Pr_recover 19 = .ok (.iload_n 1, 1) := by decide +kernel
theorem d_Pr_recover_20 : decode b_Pr_recover 20 = .ok (.aload_n 0, 1) := by decide +kernel
theorem d_Pr_recover_21 : decode b_Pr_recover 21 = .ok (.getfield 19, 3) := by decide +kernel
theorem d_Pr_recover_24 : decode b_Pr_recover 24 = .ok (.iload_n 1, 1) := by decide +kernel
theorem d_Pr_recover_25 : decode b_Pr_recover 25 = .ok (.invokevirtual 206, 3) := by decide +kernel
theorem d_Pr_recover_28 : decode b_Pr_recover 28 = .ok (.aload_n 0, 1) := by decide +kernel
theorem d_Pr_recover_29 : decode b_Pr_recover 29 = .ok (.getfield 56, 3) := by decide +kernel
theorem d_Pr_recover_32 : decode b_Pr_recover 32 = .ok (.iload_n 1, 1) := by decide +kernel
theorem d_Pr_recover_33 : decode b_Pr_recover 33 = .ok (.invokevirtual 209, 3) := by decide +kernel
theorem d_Pr_recover_36 : decode b_Pr_recover 36 = .ok (.invokestatic 43, 3) := by decide +kernel
theorem d_Pr_recover_39 : decode b_Pr_recover 39 = .ok (.iastore, 1) := by decide +kernel
theorem d_Pr_recover_40 : decode b_Pr_recover 40 = .ok (.iinc 1 (1), 3) := by decide +kernel
theorem d_Pr_recover_43 : decode b_Pr_recover 43 = .ok (.goto (-34), 3) := by decide +kernel
theorem d_Pr_recover_46 : decode b_Pr_recover 46 = .ok (.aload_n 0, 1) := by decide +kernel
theorem d_Pr_recover_47 : decode b_Pr_recover 47 = .ok (.getfield 49, 3) := by decide +kernel
theorem d_Pr_recover_50 : decode b_Pr_recover 50 = .ok (.aload_n 0, 1) := by decide +kernel
theorem d_Pr_recover_51 : decode b_Pr_recover 51 = .ok (.getfield 31, 3) := by decide +kernel
theorem d_Pr_recover_54 : decode b_Pr_recover 54 = .ok (.aload_n 0, 1) := by decide +kernel
theorem d_Pr_recover_55 : decode b_Pr_recover 55 = .ok (.getfield 49, 3) := by decide +kernel
theorem d_Pr_recover_58 : decode b_Pr_recover 58 = .ok (.invokevirtual 121, 3) := by decide +kernel
theorem d_Pr_recover_61 : decode b_Pr_recover 61 = .ok (.invokevirtual 157, 3) := by decide +kernel
theorem d_Pr_recover_64 : decode b_Pr_recover 64 = .ok (.istore_n 1, 1) := by decide +kernel
theorem d_Pr_recover_65 : decode b_Pr_recover 65 = .ok (.aload_n 0, 1) := by decide +kernel
theorem d_Pr_recover_66 : decode b_Pr_recover 66 = .ok (.getfield 10, 3) := by decide +kernel
theorem d_Pr_recover_69 : decode b_Pr_recover 69 = .ok (.aload_n 0, 1) := by decide +kernel
theorem d_Pr_recover_70 : decode b_Pr_recover 70 = .ok (.getfield 49, 3) := by decide +kernel
theorem d_Pr_recover_73 : decode b_Pr_recover 73 = .ok (.invokevirtual 101, 3) := by decide +kernel
theorem d_Pr_recover_76 : decode b_Pr_recover 76 = .ok (.iload_n 1, 1) := by decide +kernel
theorem d_Pr_recover_77 : decode b_Pr_recover 77 = .ok (.ireturn, 1) := by decide +kernel
theorem d_Pr_lose_0 : decode b_Pr_lose 0 = .ok (.iconst 0, 1) := by decide +kernel
theorem d_Pr_lose_1 : decode b_Pr_lose 1 = .ok (.istore_n 1, 1) := by decide +kernel
theorem d_Pr_lose_2 : decode b_Pr_lose 2 = .ok (.iload_n 1, 1) := by decide +kernel
theorem d_Pr_lose_3 : decode b_Pr_lose 3 = .ok (.bipush (8), 2) := by decide +kernel
theorem d_Pr_lose_5 : decode b_Pr_lose 5 = .ok (.if_icmp .ge (17), 3) := by decide +kernel
theorem d_Pr_lose_8 : decode b_Pr_lose 8 = .ok (.aload_n 0, 1) := by decide +kernel
theorem d_Pr_lose_9 : decode b_Pr_lose 9 = .ok (.getfield 19, 3) := by decide +kernel
theorem d_Pr_lose_12 : decode b_Pr_lose 12 = .ok (.iload_n 1, 1) := by decide +kernel
theorem d_Pr_lose_13 : decode b_Pr_lose 13 = .ok (.invokevirtual 132, 3) := by decide +kernel
theorem d_Pr_lose_16 : decode b_Pr_lose 16 = .ok (.iinc 1 (1), 3) := by decide +kernel
theorem d_Pr_lose_19 : decode b_Pr_lose 19 = .ok (.goto (-17), 3) := by decide +kernel
theorem d_Pr_lose_22 : decode b_Pr_lose 22 = .ok (.aload_n 0, 1) := by decide +kernel
theorem d_Pr_lose_23 : decode b_Pr_lose 23 = .ok (.invokevirtual 135, 3) := by decide +kernel
theorem d_Pr_lose_26 : decode b_Pr_lose 26 = .ok (.ireturn, 1) := by decide +kernel
theorem d_Pr_restore_0 : decode b_Pr_restore 0 = .ok (.iload_n 1, 1) := by decide +kernel
theorem d_Pr_restore_1 : decode b_Pr_restore 1 = .ok (.iconst 1, 1) := by decide +kernel
theorem d_Pr_restore_2 : decode b_Pr_restore 2 = .ok (.if_icmp .lt (14), 3) := by decide +kernel
theorem d_Pr_restore_5 : decode b_Pr_restore 5 = .ok (.iload_n 1, 1) := by decide +kernel
theorem d_Pr_restore_6 : decode b_Pr_restore 6 = .ok (.aload_n 0, 1) := by decide +kernel
theorem d_Pr_restore_7 : decode b_Pr_restore 7 = .ok (.getfield 49, 3) := by decide +kernel
theorem d_Pr_restore_10 : decode b_Pr_restore 10 = .ok (.invokevirtual 138, 3) := by decide +kernel
theorem d_Pr_restore_13 : decode b_Pr_restore 13 = .ok (.if_icmp .le (5), 3) := by decide +kernel
theorem d_Pr_restore_16 : decode b_Pr_restore 16 = .ok (.iconst (-1), 1) := by decide +kernel
theorem d_Pr_restore_17 : decode b_Pr_restore 17 = .ok (.ireturn, 1) := by decide +kernel
theorem d_Pr_restore_18 : decode b_Pr_restore 18 = .ok (.aload_n 0, 1) := by decide +kernel
theorem d_Pr_restore_19 : decode b_Pr_restore 19 = .ok (.getfield 49, 3) := by decide +kernel
theorem d_Pr_restore_22 : decode b_Pr_restore 22 = .ok (.iload_n 1, 1) := by decide +kernel
theorem d_Pr_restore_23 : decode b_Pr_restore 23 = .ok (.invokevirtual 141, 3) := by decide +kernel
theorem d_Pr_restore_26 : decode b_Pr_restore 26 = .ok (.istore_n 2, 1) := by decide +kernel
theorem d_Pr_restore_27 : decode b_Pr_restore 27 = .ok (.aload_n 0, 1) := by decide +kernel
theorem d_Pr_restore_28 : decode b_Pr_restore 28 = .ok (.getfield 56, 3) := by decide +kernel
theorem d_Pr_restore_31 : decode b_Pr_restore 31 = .ok (.iload_n 2, 1) := by decide +kernel
theorem d_Pr_restore_32 : decode b_Pr_restore 32 = .ok (.invokevirtual 144, 3) := by decide +kernel
theorem d_Pr_restore_35 : decode b_Pr_restore 35 = .ok (.istore_n 3, 1) := by decide +kernel
theorem d_Pr_restore_36 : decode b_Pr_restore 36 = .ok (.iload_n 3, 1) := by decide +kernel
theorem d_Pr_restore_37 : decode b_Pr_restore 37 = .ok (.ifCond .ne (16), 3) := by decide +kernel
theorem d_Pr_restore_40 : decode b_Pr_restore 40 = .ok (.aload_n 0, 1) := by decide +kernel
theorem d_Pr_restore_41 : decode b_Pr_restore 41 = .ok (.getfield 49, 3) := by decide +kernel
theorem d_Pr_restore_44 : decode b_Pr_restore 44 = .ok (.invokevirtual 147, 3) := by decide +kernel
theorem d_Pr_restore_47 : decode b_Pr_restore 47 = .ok (.ifCond .le (6), 3) := by decide +kernel
theorem d_Pr_restore_50 : decode b_Pr_restore 50 = .ok (.bipush (-3), 2) := by decide +kernel
theorem d_Pr_restore_52 : decode b_Pr_restore 52 = .ok (.ireturn, 1) := by decide +kernel
theorem d_Pr_restore_53 : decode b_Pr_restore 53 = .ok (.iconst 0, 1) := by decide +kernel
theorem d_Pr_restore_54 : decode b_Pr_restore 54 = .ok (.istore 4, 2) := by decide +kernel
theorem d_Pr_restore_56 : decode b_Pr_restore 56 = .ok (.iload 4, 2) := by decide +kernel
theorem d_Pr_restore_58 : decode b_Pr_restore 58 = .ok (.bipush (8), 2) := by decide +kernel
theorem d_Pr_restore_60 : decode b_Pr_restore 60 = .ok (.if_icmp .ge (26), 3) := by decide +kernel
theorem d_Pr_restore_63 : decode b_Pr_restore 63 = .ok (.aload_n 0, 1) := by decide +kernel
theorem d_Pr_restore_64 : decode b_Pr_restore 64 = .ok (.getfield 31, 3) := by decide +kernel
theorem d_Pr_restore_67 : decode b_Pr_restore 67 = .ok (.iload 4, 2) := by decide +kernel
theorem d_Pr_restore_69 : decode b_Pr_restore 69 = .ok (.aload_n 0, 1) := by decide +kernel
theorem d_Pr_restore_70 : decode b_Pr_restore 70 = .ok (.getfield 56, 3) := by decide +kernel
theorem d_Pr_restore_73 : decode b_Pr_restore 73 = .ok (.iload_n 3, 1) := by decide +kernel
theorem d_Pr_restore_74 : decode b_Pr_restore 74 = .ok (.iload 4, 2) := by decide +kernel
theorem d_Pr_restore_76 : decode b_Pr_restore 76 = .ok (.invokevirtual 150, 3) := by decide +kernel
theorem d_Pr_restore_79 : decode b_Pr_restore 79 = .ok (.iastore, 1) := by decide +kernel
theorem d_Pr_restore_80 : decode b_Pr_restore 80 = .ok (.iinc 4 (1), 3) := by decide +kernel
theorem d_Pr_restore_83 : decode b_Pr_restore 83 = .ok (.goto (-27), 3) := by decide +kernel
theorem d_Pr_restore_86 : decode b_Pr_restore 86 = .ok (.aload_n 0, 1) := by decide +kernel
theorem d_Pr_restore_87 : decode b_Pr_restore 87 = .ok (.getfield 49, 3) := by decide +kernel
theorem d_Pr_restore_90 : decode b_Pr_restore 90 = .ok (.iload_n 2, 1) := by decide +kernel
theorem d_Pr_restore_91 : decode b_Pr_restore 91 = .ok (.aload_n 0, 1) := by decide +kernel
theorem d_Pr_restore_92 : decode b_Pr_restore 92 = .ok (.getfield 23, 3) := by decide +kernel
theorem d_Pr_restore_95 : decode b_Pr_restore 95 = .ok (.invokevirtual 153, 3) := by decide +kernel
theorem d_Pr_restore_98 : decode b_Pr_restore 98 = .ok (.aload_n 0, 1) := by decide +kernel
theorem d_Pr_restore_99 : decode b_Pr_restore 99 = .ok (.iconst 1, 1) := by decide +kernel
theorem d_Pr_restore_100 : decode b_Pr_restore 100 = .ok (.putfield 27, 3) := by decide +kernel
theorem d_Pr_restore_103 : decode b_Pr_restore 103 = .ok (.aload_n 0, 1) := by decide +kernel
theorem d_Pr_restore_104 : decode b_Pr_restore 104 = .ok (.getfield 49, 3) := by decide +kernel
theorem d_Pr_restore_107 : decode b_Pr_restore 107 = .ok (.aload_n 0, 1) := by decide +kernel
theorem d_Pr_restore_108 : decode b_Pr_restore 108 = .ok (.getfield 31, 3) := by decide +kernel
theorem d_Pr_restore_111 : decode b_Pr_restore 111 = .ok (.iload_n 2, 1) := by decide +kernel
theorem d_Pr_restore_112 : decode b_Pr_restore 112 = .ok (.invokevirtual 157, 3) := by decide +kernel
theorem d_Pr_restore_115 : decode b_Pr_restore 115 = .ok (.ireturn, 1) := by decide +kernel
theorem d_Pr_look_0 : decode b_Pr_look 0 = .ok (.iload_n 1, 1) := by decide +kernel
theorem d_Pr_look_1 : decode b_Pr_look 1 = .ok (.invokestatic 67, 3) := by decide +kernel
theorem d_Pr_look_4 : decode b_Pr_look 4 = .ok (.ifCond .eq (19), 3) := by decide +kernel
theorem d_Pr_look_7 : decode b_Pr_look 7 = .ok (.aload_n 0, 1) := by decide +kernel
theorem d_Pr_look_8 : decode b_Pr_look 8 = .ok (.getfield 27, 3) := by decide +kernel
theorem d_Pr_look_11 : decode b_Pr_look 11 = .ok (.ifCond .eq (12), 3) := by decide +kernel
theorem d_Pr_look_14 : decode b_Pr_look 14 = .ok (.aload_n 0, 1) := by decide +kernel
theorem d_Pr_look_15 : decode b_Pr_look 15 = .ok (.getfield 23, 3) := by decide +kernel
theorem d_Pr_look_18 : decode b_Pr_look 18 = .ok (.iload_n 1, 1) := by decide +kernel
theorem d_Pr_look_19 : decode b_Pr_look 19 = .ok (.laload, 1) := by decide +kernel
theorem d_Pr_look_20 : decode b_Pr_look 20 = .ok (.goto (6), 3) := by decide +kernel
theorem d_Pr_look_23 : decode b_Pr_look 23 = .ok (.ldc2_w 105, 3) := by decide +kernel
theorem d_Pr_look_26 : decode b_Pr_look 26 = .ok (.lreturn, 1) := by decide +kernel
theorem d_Pr_page_0 : decode b_Pr_page 0 = .ok (.iload_n 1, 1) := by decide +kernel
theorem d_Pr_page_1 : decode b_Pr_page 1 = .ok (.invokestatic 107, 3) := by decide +kernel
theorem d_Pr_page_4 : decode b_Pr_page 4 = .ok (.ifCond .ne (5), 3) := by decide +kernel
theorem d_Pr_page_7 : decode b_Pr_page 7 = .ok (.iconst (-1), 1) := by decide +kernel
theorem d_Pr_page_8 : decode b_Pr_page 8 = .ok (.ireturn, 1) := by decide +kernel
theorem d_Pr_page_9 : decode b_Pr_page 9 = .ok (.iload_n 2, 1) := by decide +kernel
theorem d_Pr_page_10 : decode b_Pr_page 10 = .ok (.tableswitch (74) (0) (3) #[30, 39, 48, 65], 30) := by decide +kernel
theorem d_Pr_page_40 : decode b_Pr_page 40 = .ok (.aload_n 0, 1) := by decide +kernel
theorem d_Pr_page_41 : decode b_Pr_page 41 = .ok (.getfield 49, 3) := by decide +kernel
theorem d_Pr_page_44 : decode b_Pr_page 44 = .ok (.iload_n 1, 1) := by decide +kernel
theorem d_Pr_page_45 : decode b_Pr_page 45 = .ok (.invokevirtual 110, 3) := by decide +kernel
theorem d_Pr_page_48 : decode b_Pr_page 48 = .ok (.ireturn, 1) := by decide +kernel
theorem d_Pr_page_49 : decode b_Pr_page 49 = .ok (.aload_n 0, 1) := by decide +kernel
theorem d_Pr_page_50 : decode b_Pr_page 50 = .ok (.getfield 19, 3) := by decide +kernel
theorem d_Pr_page_53 : decode b_Pr_page 53 = .ok (.iload_n 1, 1) := by decide +kernel
theorem d_Pr_page_54 : decode b_Pr_page 54 = .ok (.invokevirtual 161, 3) := by decide +kernel
theorem d_Pr_page_57 : decode b_Pr_page 57 = .ok (.ireturn, 1) := by decide +kernel
theorem d_Pr_page_58 : decode b_Pr_page 58 = .ok (.aload_n 0, 1) := by decide +kernel
theorem d_Pr_page_59 : decode b_Pr_page 59 = .ok (.getfield 19, 3) := by decide +kernel
theorem d_Pr_page_62 : decode b_Pr_page 62 = .ok (.iload_n 1, 1) := by decide +kernel
theorem d_Pr_page_63 : decode b_Pr_page 63 = .ok (.invokevirtual 164, 3) := by decide +kernel
theorem d_Pr_page_66 : decode b_Pr_page 66 = .ok (.ifCond .eq (7), 3) := by decide +kernel
theorem d_Pr_page_69 : decode b_Pr_page 69 = .ok (.iconst 1, 1) := by decide +kernel
theorem d_Pr_page_70 : decode b_Pr_page 70 = .ok (.goto (4), 3) := by decide +kernel
theorem d_Pr_page_73 : decode b_Pr_page 73 = .ok (.iconst 0, 1) := by decide +kernel
theorem d_Pr_page_74 : decode b_Pr_page 74 = .ok (.ireturn, 1) := by decide +kernel
theorem d_Pr_page_75 : decode b_Pr_page 75 = .ok (.aload_n 0, 1) := by decide +kernel
theorem d_Pr_page_76 : decode b_Pr_page 76 = .ok (.getfield 56, 3) := by decide +kernel
theorem d_Pr_page_79 : decode b_Pr_page 79 = .ok (.iload_n 1, 1) := by decide +kernel
theorem d_Pr_page_80 : decode b_Pr_page 80 = .ok (.invokevirtual 167, 3) := by decide +kernel
theorem d_Pr_page_83 : decode b_Pr_page 83 = .ok (.ireturn, 1) := by decide +kernel
theorem d_Pr_page_84 : decode b_Pr_page 84 = .ok (.iconst (-1), 1) := by decide +kernel
theorem d_Pr_page_85 : decode b_Pr_page 85 = .ok (.ireturn, 1) := by decide +kernel
theorem d_Pr_ofBackup_0 : decode b_Pr_ofBackup 0 = .ok (.iload_n 1, 1) := by decide +kernel
theorem d_Pr_ofBackup_1 : decode b_Pr_ofBackup 1 = .ok (.iconst 1, 1) := by decide +kernel
theorem d_Pr_ofBackup_2 : decode b_Pr_ofBackup 2 = .ok (.if_icmp .lt (14), 3) := by decide +kernel
theorem d_Pr_ofBackup_5 : decode b_Pr_ofBackup 5 = .ok (.iload_n 1, 1) := by decide +kernel
theorem d_Pr_ofBackup_6 : decode b_Pr_ofBackup 6 = .ok (.aload_n 0, 1) := by decide +kernel
theorem d_Pr_ofBackup_7 : decode b_Pr_ofBackup 7 = .ok (.getfield 56, 3) := by decide +kernel
theorem d_Pr_ofBackup_10 : decode b_Pr_ofBackup 10 = .ok (.invokevirtual 170, 3) := by decide +kernel
theorem d_Pr_ofBackup_13 : decode b_Pr_ofBackup 13 = .ok (.if_icmp .le (5), 3) := by decide +kernel
theorem d_Pr_ofBackup_16 : decode b_Pr_ofBackup 16 = .ok (.iconst (-1), 1) := by decide +kernel
theorem d_Pr_ofBackup_17 : decode b_Pr_ofBackup 17 = .ok (.ireturn, 1) := by decide +kernel
theorem d_Pr_ofBackup_18 : decode b_Pr_ofBackup 18 = .ok (.aload_n 0, 1) := by decide +kernel
theorem d_Pr_ofBackup_19 : decode b_Pr_ofBackup 19 = .ok (.getfield 56, 3) := by decide +kernel
theorem d_Pr_ofBackup_22 : decode b_Pr_ofBackup 22 = .ok (.iload_n 1, 1) := by decide +kernel
theorem d_Pr_ofBackup_23 : decode b_Pr_ofBackup 23 = .ok (.invokevirtual 173, 3) := by decide +kernel
theorem d_Pr_ofBackup_26 : decode b_Pr_ofBackup 26 = .ok (.astore_n 3, 1) := by decide +kernel
theorem d_Pr_ofBackup_27 : decode b_Pr_ofBackup 27 = .ok (.iload_n 2, 1) := by decide +kernel
theorem d_Pr_ofBackup_28 : decode b_Pr_ofBackup 28 = .ok (.tableswitch (81) (0) (4) #[36, 53, 66, 71, 76], 36) := by decide +kernel
theorem d_Pr_ofBackup_64 : decode b_Pr_ofBackup 64 = .ok (.aload_n 0, 1) := by decide +kernel
theorem d_Pr_ofBackup_65 : decode b_Pr_ofBackup 65 = .ok (.getfield 56, 3) := by decide +kernel
theorem d_Pr_ofBackup_68 : decode b_Pr_ofBackup 68 = .ok (.iload_n 1, 1) := by decide +kernel
theorem d_Pr_ofBackup_69 : decode b_Pr_ofBackup 69 = .ok (.invokevirtual 177, 3) := by decide +kernel
theorem d_Pr_ofBackup_72 : decode b_Pr_ofBackup 72 = .ok (.ifCond .eq (7), 3) := by decide +kernel
theorem d_Pr_ofBackup_75 : decode b_Pr_ofBackup 75 = .ok (.iconst 1, 1) := by decide +kernel
theorem d_Pr_ofBackup_76 : decode b_Pr_ofBackup 76 = .ok (.goto (4), 3) := by decide +kernel
theorem d_Pr_ofBackup_79 : decode b_Pr_ofBackup 79 = .ok (.iconst 0, 1) := by decide +kernel
theorem d_Pr_ofBackup_80 : decode b_Pr_ofBackup 80 = .ok (.ireturn, 1) := by decide +kernel
theorem d_Pr_ofBackup_81 : decode b_Pr_ofBackup 81 = .ok (.aload_n 3, 1) := by decide +kernel
theorem d_Pr_ofBackup_82 : decode b_Pr_ofBackup 82 = .ok (.getfield 180, 3) := by decide +kernel
theorem d_Pr_ofBackup_85 : decode b_Pr_ofBackup 85 = .ok (.ifCond .eq (7), 3) := by decide +kernel
theorem d_Pr_ofBackup_88 : decode b_Pr_ofBackup 88 = .ok (.iconst 1, 1) := by decide +kernel
theorem d_Pr_ofBackup_89 : decode b_Pr_ofBackup 89 = .ok (.goto (4), 3) := by decide +kernel
theorem d_Pr_ofBackup_92 : decode b_Pr_ofBackup 92 = .ok (.iconst 0, 1) := by decide +kernel
theorem d_Pr_ofBackup_93 : decode b_Pr_ofBackup 93 = .ok (.ireturn, 1) := by decide +kernel
theorem d_Pr_ofBackup_94 : decode b_Pr_ofBackup 94 = .ok (.aload_n 3, 1) := by decide +kernel
theorem d_Pr_ofBackup_95 : decode b_Pr_ofBackup 95 = .ok (.getfield 185, 3) := by decide +kernel
theorem d_Pr_ofBackup_98 : decode b_Pr_ofBackup 98 = .ok (.ireturn, 1) := by decide +kernel
theorem d_Pr_ofBackup_99 : decode b_Pr_ofBackup 99 = .ok (.aload_n 3, 1) := by decide +kernel
theorem d_Pr_ofBackup_100 : decode b_Pr_ofBackup 100 = .ok (.getfield 188, 3) := by decide +kernel
theorem d_Pr_ofBackup_103 : decode b_Pr_ofBackup 103 = .ok (.ireturn, 1) := by decide +kernel
theorem d_Pr_ofBackup_104 : decode b_Pr_ofBackup 104 = .ok (.aload_n 3, 1) := by decide +kernel
theorem d_Pr_ofBackup_105 : decode b_Pr_ofBackup 105 = .ok (.getfield 191, 3) := by decide +kernel
theorem d_Pr_ofBackup_108 : decode b_Pr_ofBackup 108 = .ok (.ireturn, 1) := by decide +kernel
theorem d_Pr_ofBackup_109 : decode b_Pr_ofBackup 109 = .ok (.iconst (-1), 1) := by decide +kernel
theorem d_Pr_ofBackup_110 : decode b_Pr_ofBackup 110 = .ok (.ireturn, 1) := by decide +kernel
theorem d_Pr_count_0 : decode b_Pr_count 0 = .ok (.iload_n 1, 1) := by decide +kernel
theorem d_Pr_count_1 : decode b_Pr_count 1 = .ok (.tableswitch (139) (0) (8) #[51, 59, 67, 75, 83, 99, 107, 123, 131], 51) := by decide +kernel
theorem d_Pr_count_52 : decode b_Pr_count 52 = .ok (.aload_n 0, 1) := by decide +kernel
theorem d_Pr_count_53 : decode b_Pr_count 53 = .ok (.getfield 49, 3) := by decide +kernel
theorem d_Pr_count_56 : decode b_Pr_count 56 = .ok (.invokevirtual 121, 3) := by decide +kernel
theorem d_Pr_count_59 : decode b_Pr_count 59 = .ok (.ireturn, 1) := by decide +kernel
theorem d_Pr_count_60 : decode b_Pr_count 60 = .ok (.aload_n 0, 1) := by decide +kernel
theorem d_Pr_count_61 : decode b_Pr_count 61 = .ok (.getfield 49, 3) := by decide +kernel
theorem d_Pr_count_64 : decode b_Pr_count 64 = .ok (.invokevirtual 138, 3) := by decide +kernel
theorem d_Pr_count_67 : decode b_Pr_count 67 = .ok (.ireturn, 1) := by decide +kernel
theorem d_Pr_count_68 : decode b_Pr_count 68 = .ok (.aload_n 0, 1) := by decide +kernel
theorem d_Pr_count_69 : decode b_Pr_count 69 = .ok (.getfield 56, 3) := by decide +kernel
theorem d_Pr_count_72 : decode b_Pr_count 72 = .ok (.invokevirtual 170, 3) := by decide +kernel
theorem d_Pr_count_75 : decode b_Pr_count 75 = .ok (.ireturn, 1) := by decide +kernel
theorem d_Pr_count_76 : decode b_Pr_count 76 = .ok (.aload_n 0, 1) := by decide +kernel
theorem d_Pr_count_77 : decode b_Pr_count 77 = .ok (.getfield 49, 3) := by decide +kernel
theorem d_Pr_count_80 : decode b_Pr_count 80 = .ok (.invokevirtual 194, 3) := by decide +kernel
theorem d_Pr_count_83 : decode b_Pr_count 83 = .ok (.ireturn, 1) := by decide +kernel
theorem d_Pr_count_84 : decode b_Pr_count 84 = .ok (.aload_n 0, 1) := by decide +kernel
theorem d_Pr_count_85 : decode b_Pr_count 85 = .ok (.getfield 49, 3) := by decide +kernel
theorem d_Pr_count_88 : decode b_Pr_count 88 = .ok (.invokevirtual 197, 3) := by decide +kernel
theorem d_Pr_count_91 : decode b_Pr_count 91 = .ok (.aload_n 0, 1) := by decide +kernel
theorem d_Pr_count_92 : decode b_Pr_count 92 = .ok (.getfield 49, 3) := by decide +kernel
theorem d_Pr_count_95 : decode b_Pr_count 95 = .ok (.invokevirtual 147, 3) := by decide +kernel
theorem d_Pr_count_98 : decode b_Pr_count 98 = .ok (.isub, 1) := by decide +kernel
theorem d_Pr_count_99 : decode b_Pr_count 99 = .ok (.ireturn, 1) := by decide +kernel
theorem d_Pr_count_100 : decode b_Pr_count 100 = .ok (.aload_n 0, 1) := by decide +kernel
theorem d_Pr_count_101 : decode b_Pr_count 101 = .ok (.getfield 49, 3) := by decide +kernel
theorem d_Pr_count_104 : decode b_Pr_count 104 = .ok (.invokevirtual 78, 3) := by decide +kernel
theorem d_Pr_count_107 : decode b_Pr_count 107 = .ok (.ireturn, 1) := by decide +kernel
theorem d_Pr_count_108 : decode b_Pr_count 108 = .ok (.aload_n 0, 1) := by decide +kernel
theorem d_Pr_count_109 : decode b_Pr_count 109 = .ok (.getfield 10, 3) := by decide +kernel
theorem d_Pr_count_112 : decode b_Pr_count 112 = .ok (.invokevirtual 60, 3) := by decide +kernel
theorem d_Pr_count_115 : decode b_Pr_count 115 = .ok (.ifCond .eq (7), 3) := by decide +kernel
theorem d_Pr_count_118 : decode b_Pr_count 118 = .ok (.iconst 1, 1) := by decide +kernel
theorem d_Pr_count_119 : decode b_Pr_count 119 = .ok (.goto (4), 3) := by decide +kernel
theorem d_Pr_count_122 : decode b_Pr_count 122 = .ok (.iconst 0, 1) := by decide +kernel
theorem d_Pr_count_123 : decode b_Pr_count 123 = .ok (.ireturn, 1) := by decide +kernel
theorem d_Pr_count_124 : decode b_Pr_count 124 = .ok (.aload_n 0, 1) := by decide +kernel
theorem d_Pr_count_125 : decode b_Pr_count 125 = .ok (.getfield 56, 3) := by decide +kernel
theorem d_Pr_count_128 : decode b_Pr_count 128 = .ok (.invokevirtual 200, 3) := by decide +kernel
theorem d_Pr_count_131 : decode b_Pr_count 131 = .ok (.ireturn, 1) := by decide +kernel
theorem d_Pr_count_132 : decode b_Pr_count 132 = .ok (.aload_n 0, 1) := by decide +kernel
theorem d_Pr_count_133 : decode b_Pr_count 133 = .ok (.getfield 10, 3) := by decide +kernel
theorem d_Pr_count_136 : decode b_Pr_count 136 = .ok (.invokevirtual 74, 3) := by decide +kernel
theorem d_Pr_count_139 : decode b_Pr_count 139 = .ok (.ireturn, 1) := by decide +kernel
theorem d_Pr_count_140 : decode b_Pr_count 140 = .ok (.iconst (-1), 1) := by decide +kernel
theorem d_Pr_count_141 : decode b_Pr_count 141 = .ok (.ireturn, 1) := by decide +kernel
end
section
theorem d_Md_init_0 : decode b_Md_init 0 = .ok (.aload_n 0, 1) := by decide +kernel
theorem d_Md_init_1 : decode b_Md_init 1 = .ok (.invokespecial 1, 3) := by decide +kernel
theorem d_Md_init_4 : decode b_Md_init 4 = .ok (.aload_n 0, 1) := by decide +kernel
theorem d_Md_init_5 : decode b_Md_init 5 = .ok (.sipush (1100), 3) := by decide +kernel
theorem d_Md_init_8 : decode b_Md_init 8 = .ok (.newarray .int, 2) := by decide +kernel
theorem d_Md_init_10 : decode b_Md_init 10 = .ok (.putfield 7, 3) := by decide +kernel
theorem d_Md_init_13 : decode b_Md_init 13 = .ok (.aload_n 0, 1) := by decide +kernel
theorem d_Md_init_14 : decode b_Md_init 14 = .ok (.sipush (1100), 3) := by decide +kernel
theorem d_Md_init_17 : decode b_Md_init 17 = .ok (.newarray .int, 2) := by decide +kernel
theorem d_Md_init_19 : decode b_Md_init 19 = .ok (.putfield 13, 3) := by decide +kernel
theorem d_Md_init_22 : decode b_Md_init 22 = .ok (.aload_n 0, 1) := by decide +kernel
theorem d_Md_init_23 : decode b_Md_init 23 = .ok (.sipush (1100), 3) := by decide +kernel
theorem d_Md_init_26 : decode b_Md_init 26 = .ok (.newarray .boolean, 2) := by decide +kernel
theorem d_Md_init_28 : decode b_Md_init 28 = .ok (.putfield 16, 3) := by decide +kernel
theorem d_Md_init_31 : decode b_Md_init 31 = .ok (.aload_n 0, 1) := by decide +kernel
theorem d_Md_init_32 : decode b_Md_init 32 = .ok (.iconst 4, 1) := by decide +kernel
theorem d_Md_init_33 : decode b_Md_init 33 = .ok (.newarray .int, 2) := by decide +kernel
theorem d_Md_init_35 : decode b_Md_init 35 = .ok (.putfield 20, 3) := by decide +kernel
theorem d_Md_init_38 : decode b_Md_init 38 = .ok (.aload_n 0, 1) := by decide +kernel
theorem d_Md_init_39 : decode b_Md_init 39 = .ok (.bipush (8), 2) := by decide +kernel
theorem d_Md_init_41 : decode b_Md_init 41 = .ok (.newarray .int, 2) := by decide +kernel
theorem d_Md_init_43 : decode b_Md_init 43 = .ok (.putfield 23, 3) := by decide +kernel
theorem d_Md_init_46 : decode b_Md_init 46 = .ok (.aload_n 0, 1) := by decide +kernel
theorem d_Md_init_47 : decode b_Md_init 47 = .ok (.bipush (8), 2) := by decide +kernel
theorem d_Md_init_49 : decode b_Md_init 49 = .ok (.newarray .boolean, 2) := by decide +kernel
theorem d_Md_init_51 : decode b_Md_init 51 = .ok (.putfield 26, 3) := by decide +kernel
theorem d_Md_init_54 : decode b_Md_init 54 = .ok (.aload_n 0, 1) := by decide +kernel
theorem d_Md_init_55 : decode b_Md_init 55 = .ok (.sipush (260), 3) := by decide +kernel
theorem d_Md_init_58 : decode b_Md_init 58 = .ok (.newarray .boolean, 2) := by decide +kernel
theorem d_Md_init_60 : decode b_Md_init 60 = .ok (.putfield 29, 3) := by decide +kernel
theorem d_Md_init_63 : decode b_Md_init 63 = .ok (.aload_n 0, 1) := by decide +kernel
theorem d_Md_init_64 : decode b_Md_init 64 = .ok (.sipush (260), 3) := by decide +kernel
theorem d_Md_init_67 : decode b_Md_init 67 = .ok (.newarray .boolean, 2) := by decide +kernel
theorem d_Md_init_69 : decode b_Md_init 69 = .ok (.putfield 32, 3) := by decide +kernel
theorem d_Md_init_72 : decode b_Md_init 72 = .ok (.aload_n 0, 1) := by decide +kernel
theorem d_Md_init_73 : decode b_Md_init 73 = .ok (.sipush (260), 3) := by decide +kernel
theorem d_Md_init_76 : decode b_Md_init 76 = .ok (.newarray .int, 2) := by decide +kernel
theorem d_Md_init_78 : decode b_Md_init 78 = .ok (.putfield 35, 3) := by decide +kernel
theorem d_Md_init_81 : decode b_Md_init 81 = .ok (.aload_n 0, 1) := by decide +kernel
theorem d_Md_init_82 : decode b_Md_init 82 = .ok (.sipush (260), 3) := by decide +kernel
theorem d_Md_init_85 : decode b_Md_init 85 = .ok (.newarray .int, 2) := by decide +kernel
theorem d_Md_init_87 : decode b_Md_init 87 = .ok (.putfield 38, 3) := by decide +kernel
theorem d_Md_init_90 : decode b_Md_init 90 = .ok (.aload_n 0, 1) := by decide +kernel
theorem d_Md_init_91 : decode b_Md_init 91 = .ok (.sipush (2080), 3) := by decide +kernel
theorem d_Md_init_94 : decode b_Md_init 94 = .ok (.newarray .int, 2) := by decide +kernel
theorem d_Md_init_96 : decode b_Md_init 96 = .ok (.putfield 41, 3) := by decide +kernel
theorem d_Md_init_99 : decode b_Md_init 99 = .ok (.aload_n 0, 1) := by decide +kernel
theorem d_Md_init_100 : decode b_Md_init 100 = .ok (.bipush (-2), 2) := by decide +kernel
theorem d_Md_init_102 : decode b_Md_init 102 = .ok (.putfield 44, 3) := by decide +kernel
theorem d_Md_init_105 : decode b_Md_init 105 = .ok (.aload_n 0, 1) := by decide +kernel
theorem d_Md_init_106 : decode b_Md_init 106 = .ok (.iconst (-1), 1) := by decide +kernel
theorem d_Md_init_107 : decode b_Md_init 107 = .ok (.putfield 48, 3) := by decide +kernel
theorem d_Md_init_110 : decode b_Md_init 110 = .ok (.aload_n 0, 1) := by decide +kernel
theorem d_Md_init_111 : decode b_Md_init 111 = .ok (.iload_n 1, 1) := by decide +kernel
theorem d_Md_init_112 : decode b_Md_init 112 = .ok (.iconst 4, 1) := by decide +kernel
theorem d_Md_init_113 : decode b_Md_init 113 = .ok (.if_icmp .ge (7), 3) := by decide +kernel
theorem d_Md_init_116 : decode b_Md_init 116 = .ok (.iconst 4, 1) := by decide +kernel
theorem d_Md_init_117 : decode b_Md_init 117 = .ok (.goto (15), 3) := by decide +kernel
theorem d_Md_init_120 : decode b_Md_init 120 = .ok (.iload_n 1, 1) := by decide +kernel
theorem d_Md_init_121 : decode b_Md_init 121 = .ok (.bipush (8), 2) := by decide +kernel
theorem d_Md_init_123 : decode b_Md_init 123 = .ok (.if_icmp .le (8), 3) := by decide +kernel
theorem d_Md_init_126 : decode b_Md_init 126 = .ok (.bipush (8), 2) := by decide +kernel
theorem d_Md_init_128 : decode b_Md_init 128 = .ok (.goto (4), 3) := by decide +kernel
theorem d_Md_init_131 : decode b_Md_init 131 = .ok (.iload_n 1, 1) := by decide +kernel
theorem d_Md_init_132 : decode b_Md_init 132 = .ok (.putfield 51, 3) := by decide +kernel
theorem d_Md_init_135 : decode b_Md_init 135 = .ok (.aload_n 0, 1) := by decide +kernel
theorem d_Md_init_136 : decode b_Md_init 136 = .ok (.iload_n 2, 1) := by decide +kernel
theorem d_Md_init_137 : decode b_Md_init 137 = .ok (.iconst 1, 1) := by decide +kernel
theorem d_Md_init_138 : decode b_Md_init 138 = .ok (.if_icmp .ge (7), 3) := by decide +kernel
theorem d_Md_init_141 : decode b_Md_init 141 = .ok (.iconst 1, 1) := by decide +kernel
theorem d_Md_init_142 : decode b_Md_init 142 = .ok (.goto (13), 3) := by decide +kernel
theorem d_Md_init_145 : decode b_Md_init 145 = .ok (.iload_n 2, 1) := by decide +kernel
theorem d_Md_init_146 : decode b_Md_init 146 = .ok (.iconst 3, 1) := by decide +kernel
theorem d_Md_init_147 : decode b_Md_init 147 = .ok (.if_icmp .le (7), 3) := by decide +kernel
theorem d_Md_init_150 : decode b_Md_init 150 = .ok (.iconst 3, 1) := by decide +kernel
theorem d_Md_init_151 : decode b_Md_init 151 = .ok (.goto (4), 3) := by decide +kernel
theorem d_Md_init_154 : decode b_Md_init 154 = .ok (.iload_n 2, 1) := by decide +kernel
theorem d_Md_init_155 : decode b_Md_init 155 = .ok (.putfield 54, 3) := by decide +kernel
theorem d_Md_init_158 : decode b_Md_init 158 = .ok (.iconst 0, 1) := by decide +kernel
theorem d_Md_init_159 : decode b_Md_init 159 = .ok (.istore_n 3, 1) := by decide +kernel
theorem d_Md_init_160 : decode b_Md_init 160 = .ok (.iload_n 3, 1) := by decide +kernel
theorem d_Md_init_161 : decode b_Md_init 161 = .ok (.bipush (8), 2) := by decide +kernel
theorem d_Md_init_163 : decode b_Md_init 163 = .ok (.if_icmp .ge (16), 3) := by decide +kernel
theorem d_Md_init_166 : decode b_Md_init 166 = .ok (.aload_n 0, 1) := by decide +kernel
theorem d_Md_init_167 : decode b_Md_init 167 = .ok (.getfield 26, 3) := by decide +kernel
theorem d_Md_init_170 : decode b_Md_init 170 = .ok (.iload_n 3, 1) := by decide +kernel
theorem d_Md_init_171 : decode b_Md_init 171 = .ok (.iconst 1, 1) := by decide +kernel
theorem d_Md_init_172 : decode b_Md_init 172 = .ok (.bastore, 1) := by decide +kernel
theorem d_Md_init_173 : decode b_Md_init 173 = .ok (.iinc 3 (1), 3) := by decide +kernel
theorem d_Md_init_176 : decode b_Md_init 176 = .ok (.goto (-16), 3) := by decide +kernel
theorem d_Md_init_179 : decode b_Md_init 179 = .ok (.return_, 1) := by decide +kernel
theorem d_Md_begin_0 : decode b_Md_begin 0 = .ok (.aload_n 0, 1) := by decide +kernel
theorem d_Md_begin_1 : decode b_Md_begin 1 = .ok (.getfield 76, 3) := by decide +kernel
theorem d_Md_begin_4 : decode b_Md_begin 4 = .ok (.ifCond .eq (5), 3) := by decide +kernel
theorem d_Md_begin_7 : decode b_Md_begin 7 = .ok (.iconst (-1), 1) := by decide +kernel
theorem d_Md_begin_8 : decode b_Md_begin 8 = .ok (.ireturn, 1) := by decide +kernel
theorem d_Md_begin_9 : decode b_Md_begin 9 = .ok (.aload_n 0, 1) := by decide +kernel
theorem d_Md_begin_10 : decode b_Md_begin 10 = .ok (.iconst 1, 1) := by decide +kernel
theorem d_Md_begin_11 : decode b_Md_begin 11 = .ok (.putfield 76, 3) := by decide +kernel
theorem d_Md_begin_14 : decode b_Md_begin 14 = .ok (.aload_n 0, 1) := by decide +kernel
theorem d_Md_begin_15 : decode b_Md_begin 15 = .ok (.iconst 0, 1) := by decide +kernel
theorem d_Md_begin_16 : decode b_Md_begin 16 = .ok (.putfield 65, 3) := by decide +kernel
theorem d_Md_begin_19 : decode b_Md_begin 19 = .ok (.iconst 0, 1) := by decide +kernel
theorem d_Md_begin_20 : decode b_Md_begin 20 = .ok (.ireturn, 1) := by decide +kernel
theorem d_Md_put_0 : decode b_Md_put 0 = .ok (.iload_n 1, 1) := by decide +kernel
theorem d_Md_put_1 : decode b_Md_put 1 = .ok (.bipush (32), 2) := by decide +kernel
theorem d_Md_put_3 : decode b_Md_put 3 = .ok (.invokestatic 80, 3) := by decide +kernel
theorem d_Md_put_6 : decode b_Md_put 6 = .ok (.ifCond .eq (18), 3) := by decide +kernel
theorem d_Md_put_9 : decode b_Md_put 9 = .ok (.aload_n 0, 1) := by decide +kernel
theorem d_Md_put_10 : decode b_Md_put 10 = .ok (.getfield 76, 3) := by decide +kernel
theorem d_Md_put_13 : decode b_Md_put 13 = .ok (.ifCond .eq (11), 3) := by decide +kernel
theorem d_Md_put_16 : decode b_Md_put 16 = .ok (.aload_n 0, 1) := by decide +kernel
theorem d_Md_put_17 : decode b_Md_put 17 = .ok (.getfield 65, 3) := by decide +kernel
theorem d_Md_put_20 : decode b_Md_put 20 = .ok (.iconst 4, 1) := by decide +kernel
theorem d_Md_put_21 : decode b_Md_put 21 = .ok (.if_icmp .ne (5), 3) := by decide +kernel
theorem d_Md_put_24 : decode b_Md_put 24 = .ok (.iconst (-1), 1) := by decide +kernel
theorem d_Md_put_25 : decode b_Md_put 25 = .ok (.ireturn, 1) := by decide +kernel
theorem d_Md_put_26 : decode b_Md_put 26 = .ok (.aload_n 0, 1) := by decide +kernel
theorem d_Md_put_27 : decode b_Md_put 27 = .ok (.invokevirtual 84, 3) := by decide +kernel
theorem d_Md_put_30 : decode b_Md_put 30 = .ok (.aload_n 0, 1) := by decide +kernel
theorem d_Md_put_31 : decode b_Md_put 31 = .ok (.getfield 65, 3) := by decide +kernel
theorem d_Md_put_34 : decode b_Md_put 34 = .ok (.iconst 3, 1) := by decide +kernel
theorem d_Md_put_35 : decode b_Md_put 35 = .ok (.iadd, 1) := by decide +kernel
theorem d_Md_put_36 : decode b_Md_put 36 = .ok (.if_icmp .ge (6), 3) := by decide +kernel
theorem d_Md_put_39 : decode b_Md_put 39 = .ok (.bipush (-2), 2) := by decide +kernel
theorem d_Md_put_41 : decode b_Md_put 41 = .ok (.ireturn, 1) := by decide +kernel
theorem d_Md_put_42 : decode b_Md_put 42 = .ok (.aload_n 0, 1) := by decide +kernel
theorem d_Md_put_43 : decode b_Md_put 43 = .ok (.getfield 20, 3) := by decide +kernel
theorem d_Md_put_46 : decode b_Md_put 46 = .ok (.aload_n 0, 1) := by decide +kernel
theorem d_Md_put_47 : decode b_Md_put 47 = .ok (.getfield 65, 3) := by decide +kernel
theorem d_Md_put_50 : decode b_Md_put 50 = .ok (.aload_n 0, 1) := by decide +kernel
theorem d_Md_put_51 : decode b_Md_put 51 = .ok (.iload_n 1, 1) := by decide +kernel
theorem d_Md_put_52 : decode b_Md_put 52 = .ok (.iload_n 2, 1) := by decide +kernel
theorem d_Md_put_53 : decode b_Md_put 53 = .ok (.iload_n 3, 1) := by decide +kernel
theorem d_Md_put_54 : decode b_Md_put 54 = .ok (.invokevirtual 72, 3) := by decide +kernel
theorem d_Md_put_57 : decode b_Md_put 57 = .ok (.iastore, 1) := by decide +kernel
theorem d_Md_put_58 : decode b_Md_put 58 = .ok (.aload_n 0, 1) := by decide +kernel
theorem d_Md_put_59 : decode b_Md_put 59 = .ok (.dup, 1) := by decide +kernel
theorem d_Md_put_60 : decode b_Md_put 60 = .ok (.getfield 65, 3) := by decide +kernel
theorem d_Md_put_63 : decode b_Md_put 63 = .ok (.iconst 1, 1) := by decide +kernel
theorem d_Md_put_64 : decode b_Md_put 64 = .ok (.iadd, 1) := by decide +kernel
theorem d_Md_put_65 : decode b_Md_put 65 = .ok (.putfield 65, 3) := by decide +kernel
theorem d_Md_put_68 : decode b_Md_put 68 = .ok (.aload_n 0, 1) := by decide +kernel
theorem d_Md_put_69 : decode b_Md_put 69 = .ok (.getfield 57, 3) := by decide +kernel
theorem d_Md_put_72 : decode b_Md_put 72 = .ok (.ireturn, 1) := by decide +kernel
theorem d_Md_in_0 : decode b_Md_in 0 = .ok (.iload_n 0, 1) := by decide +kernel
theorem d_Md_in_1 : decode b_Md_in 1 = .ok (.ifCond .lt (12), 3) := by decide +kernel
theorem d_Md_in_4 : decode b_Md_in 4 = .ok (.iload_n 0, 1) := by decide +kernel
theorem d_Md_in_5 : decode b_Md_in 5 = .ok (.iload_n 1, 1) := by decide +kernel
theorem d_Md_in_6 : decode b_Md_in 6 = .ok (.if_icmp .ge (7), 3) := by decide +kernel
theorem d_Md_in_9 : decode b_Md_in 9 = .ok (.iconst 1, 1) := by decide +kernel
theorem d_Md_in_10 : decode b_Md_in 10 = .ok (.goto (4), 3) := by decide +kernel
theorem d_Md_in_13 : decode b_Md_in 13 = .ok (.iconst 0, 1) := by decide +kernel
theorem d_Md_in_14 : decode b_Md_in 14 = .ok (.ireturn, 1) := by decide +kernel
theorem d_Md_room_0 : decode b_Md_room 0 = .ok (.aload_n 0, 1) := by decide +kernel
theorem d_Md_room_1 : decode b_Md_room 1 = .ok (.getfield 62, 3) := by decide +kernel
theorem d_Md_room_4 : decode b_Md_room 4 = .ok (.iconst 4, 1) := by decide +kernel
theorem d_Md_room_5 : decode b_Md_room 5 = .ok (.iadd, 1) := by decide +kernel
theorem d_Md_room_6 : decode b_Md_room 6 = .ok (.aload_n 0, 1) := by decide +kernel
theorem d_Md_room_7 : decode b_Md_room 7 = .ok (.getfield 51, 3) := by decide +kernel
theorem d_Md_room_10 : decode b_Md_room 10 = .ok (.imul, 1) := by decide +kernel
theorem d_Md_room_11 : decode b_Md_room 11 = .ok (.aload_n 0, 1) := by decide +kernel
theorem d_Md_room_12 : decode b_Md_room 12 = .ok (.getfield 57, 3) := by decide +kernel
theorem d_Md_room_15 : decode b_Md_room 15 = .ok (.isub, 1) := by decide +kernel
theorem d_Md_room_16 : decode b_Md_room 16 = .ok (.ireturn, 1) := by decide +kernel
theorem d_Md_log_0 : decode b_Md_log 0 = .ok (.aload_n 0, 1) := by decide +kernel
theorem d_Md_log_1 : decode b_Md_log 1 = .ok (.dup, 1) := by decide +kernel
theorem d_Md_log_2 : decode b_Md_log 2 = .ok (.getfield 57, 3) := by decide +kernel
theorem d_Md_log_5 : decode b_Md_log 5 = .ok (.iconst 1, 1) := by decide +kernel
theorem d_Md_log_6 : decode b_Md_log 6 = .ok (.iadd, 1) := by decide +kernel
theorem d_Md_log_7 : decode b_Md_log 7 = .ok (.putfield 57, 3) := by decide +kernel
theorem d_Md_log_10 : decode b_Md_log 10 = .ok (.aload_n 0, 1) := by decide +kernel
theorem d_Md_log_11 : decode b_Md_log 11 = .ok (.getfield 7, 3) := by decide +kernel
theorem d_Md_log_14 : decode b_Md_log 14 = .ok (.aload_n 0, 1) := by decide +kernel
theorem d_Md_log_15 : decode b_Md_log 15 = .ok (.getfield 57, 3) := by decide +kernel
theorem d_Md_log_18 : decode b_Md_log 18 = .ok (.iload_n 1, 1) := by decide +kernel
theorem d_Md_log_19 : decode b_Md_log 19 = .ok (.iastore, 1) := by decide +kernel
theorem d_Md_log_20 : decode b_Md_log 20 = .ok (.aload_n 0, 1) := by decide +kernel
theorem d_Md_log_21 : decode b_Md_log 21 = .ok (.getfield 13, 3) := by decide +kernel
theorem d_Md_log_24 : decode b_Md_log 24 = .ok (.aload_n 0, 1) := by decide +kernel
theorem d_Md_log_25 : decode b_Md_log 25 = .ok (.getfield 57, 3) := by decide +kernel
theorem d_Md_log_28 : decode b_Md_log 28 = .ok (.iload_n 2, 1) := by decide +kernel
theorem d_Md_log_29 : decode b_Md_log 29 = .ok (.iastore, 1) := by decide +kernel
theorem d_Md_log_30 : decode b_Md_log 30 = .ok (.aload_n 0, 1) := by decide +kernel
theorem d_Md_log_31 : decode b_Md_log 31 = .ok (.getfield 16, 3) := by decide +kernel
theorem d_Md_log_34 : decode b_Md_log 34 = .ok (.aload_n 0, 1) := by decide +kernel
theorem d_Md_log_35 : decode b_Md_log 35 = .ok (.getfield 57, 3) := by decide +kernel
theorem d_Md_log_38 : decode b_Md_log 38 = .ok (.iload_n 3, 1) := by decide +kernel
theorem d_Md_log_39 : decode b_Md_log 39 = .ok (.bastore, 1) := by decide +kernel
theorem d_Md_log_40 : decode b_Md_log 40 = .ok (.aload_n 0, 1) := by decide +kernel
theorem d_Md_log_41 : decode b_Md_log 41 = .ok (.getfield 57, 3) := by decide +kernel
theorem d_Md_log_44 : decode b_Md_log 44 = .ok (.ireturn, 1) := by decide +kernel
theorem d_Md_commit_0 : decode b_Md_commit 0 = .ok (.aload_n 0, 1) := by decide +kernel
theorem d_Md_commit_1 : decode b_Md_commit 1 = .ok (.getfield 76, 3) := by decide +kernel
theorem d_Md_commit_4 : decode b_Md_commit 4 = .ok (.ifCond .ne (5), 3) := by decide +kernel
theorem d_Md_commit_7 : decode b_Md_commit 7 = .ok (.iconst (-1), 1) := by decide +kernel
theorem d_Md_commit_8 : decode b_Md_commit 8 = .ok (.ireturn, 1) := by decide +kernel
theorem d_Md_commit_9 : decode b_Md_commit 9 = .ok (.aload_n 0, 1) := by decide +kernel
theorem d_Md_commit_10 : decode b_Md_commit 10 = .ok (.invokevirtual 84, 3) := by decide +kernel
theorem d_Md_commit_13 : decode b_Md_commit 13 = .ok (.ifCond .ne (6), 3) := by decide +kernel
theorem d_Md_commit_16 : decode b_Md_commit 16 = .ok (.bipush (-2), 2) := by decide +kernel
theorem d_Md_commit_18 : decode b_Md_commit 18 = .ok (.ireturn, 1) := by decide +kernel
theorem d_Md_commit_19 : decode b_Md_commit 19 = .ok (.aload_n 0, 1) := by decide +kernel
theorem d_Md_commit_20 : decode b_Md_commit 20 = .ok (.iconst (-1), 1) := by decide +kernel
theorem d_Md_commit_21 : decode b_Md_commit 21 = .ok (.iconst 0, 1) := by decide +kernel
theorem d_Md_commit_22 : decode b_Md_commit 22 = .ok (.iconst 0, 1) := by decide +kernel
theorem d_Md_commit_23 : decode b_Md_commit 23 = .ok (.invokevirtual 72, 3) := by decide +kernel
theorem d_Md_commit_26 : decode b_Md_commit 26 = .ok (.istore_n 1, 1) := by decide +kernel
theorem d_Md_commit_27 : decode b_Md_commit 27 = .ok (.aload_n 0, 1) := by decide +kernel
theorem d_Md_commit_28 : decode b_Md_commit 28 = .ok (.iconst 0, 1) := by decide +kernel
theorem d_Md_commit_29 : decode b_Md_commit 29 = .ok (.putfield 76, 3) := by decide +kernel
theorem d_Md_commit_32 : decode b_Md_commit 32 = .ok (.aload_n 0, 1) := by decide +kernel
theorem d_Md_commit_33 : decode b_Md_commit 33 = .ok (.iconst 0, 1) := by decide +kernel
theorem d_Md_commit_34 : decode b_Md_commit 34 = .ok (.putfield 65, 3) := by decide +kernel
theorem d_Md_commit_37 : decode b_Md_commit 37 = .ok (.aload_n 0, 1) := by decide +kernel
theorem d_Md_commit_38 : decode b_Md_commit 38 = .ok (.invokevirtual 88, 3) := by decide +kernel
theorem d_Md_commit_41 : decode b_Md_commit 41 = .ok (.ireturn, 1) := by decide +kernel
theorem d_Md_commits_0 : decode b_Md_commits 0 = .ok (.iconst 0, 1) := by decide +kernel
theorem d_Md_commits_1 : decode b_Md_commits 1 = .ok (.istore_n 1, 1) := by decide +kernel
theorem d_Md_commits_2 : decode b_Md_commits 2 = .ok (.iconst 1, 1) := by decide +kernel
theorem d_Md_commits_3 : decode b_Md_commits 3 = .ok (.istore_n 2, 1) := by decide +kernel
theorem d_Md_commits_4 : decode b_Md_commits 4 = .ok (.iload_n 2, 1) := by decide +kernel
theorem d_Md_commits_5 : decode b_Md_commits 5 = .ok (.aload_n 0, 1) := by decide +kernel
theorem d_Md_commits_6 : decode b_Md_commits 6 = .ok (.getfield 57, 3) := by decide +kernel
theorem d_Md_commits_9 : decode b_Md_commits 9 = .ok (.if_icmp .gt (22), 3) := by decide +kernel
theorem d_Md_commits_12 : decode b_Md_commits 12 = .ok (.aload_n 0, 1) := by decide +kernel
theorem d_Md_commits_13 : decode b_Md_commits 13 = .ok (.getfield 7, 3) := by decide +kernel
theorem d_Md_commits_16 : decode b_Md_commits 16 = .ok (.iload_n 2, 1) := by decide +kernel
theorem d_Md_commits_17 : decode b_Md_commits 17 = .ok (.iaload, 1) := by decide +kernel
theorem d_Md_commits_18 : decode b_Md_commits 18 = .ok (.iconst (-1), 1) := by decide +kernel
theorem d_Md_commits_19 : decode b_Md_commits 19 = .ok (.if_icmp .ne (6), 3) := by decide +kernel
theorem d_Md_commits_22 : decode b_Md_commits 22 = .ok (.iinc 1 (1), 3) := by decide +kernel
theorem d_Md_commits_25 : decode b_Md_commits 25 = .ok (.iinc 2 (1), 3) := by decide +kernel
theorem d_Md_commits_28 : decode b_Md_commits 28 = .ok (.goto (-24), 3) := by decide +kernel
theorem d_Md_commits_31 : decode b_Md_commits 31 = .ok (.iload_n 1, 1) := by decide +kernel
theorem d_Md_commits_32 : decode b_Md_commits 32 = .ok (.ireturn, 1) := by decide +kernel
theorem d_Md_abort_0 : decode b_Md_abort 0 = .ok (.aload_n 0, 1) := by decide +kernel
theorem d_Md_abort_1 : decode b_Md_abort 1 = .ok (.getfield 76, 3) := by decide +kernel
theorem d_Md_abort_4 : decode b_Md_abort 4 = .ok (.ifCond .ne (5), 3) := by decide +kernel
theorem d_Md_abort_7 : decode b_Md_abort 7 = .ok (.iconst (-1), 1) := by decide +kernel
theorem d_Md_abort_8 : decode b_Md_abort 8 = .ok (.ireturn, 1) := by decide +kernel
theorem d_Md_abort_9 : decode b_Md_abort 9 = .ok (.aload_n 0, 1) := by decide +kernel
theorem d_Md_abort_10 : decode b_Md_abort 10 = .ok (.getfield 65, 3) := by decide +kernel
theorem d_Md_abort_13 : decode b_Md_abort 13 = .ok (.istore_n 1, 1) := by decide +kernel
theorem d_Md_abort_14 : decode b_Md_abort 14 = .ok (.aload_n 0, 1) := by decide +kernel
theorem d_Md_abort_15 : decode b_Md_abort 15 = .ok (.invokevirtual 91, 3) := by decide +kernel
theorem d_Md_abort_18 : decode b_Md_abort 18 = .ok (.iload_n 1, 1) := by decide +kernel
theorem d_Md_abort_19 : decode b_Md_abort 19 = .ok (.ireturn, 1) := by decide +kernel
theorem d_Md_undo_0 : decode b_Md_undo 0 = .ok (.aload_n 0, 1) := by decide +kernel
theorem d_Md_undo_1 : decode b_Md_undo 1 = .ok (.getfield 65, 3) := by decide +kernel
theorem d_Md_undo_4 : decode b_Md_undo 4 = .ok (.iconst 1, 1) := by decide +kernel
theorem d_Md_undo_5 : decode b_Md_undo 5 = .ok (.isub, 1) := by decide +kernel
theorem d_Md_undo_6 : decode b_Md_undo 6 = .ok (.istore_n 1, 1) := by decide +kernel
theorem d_Md_undo_7 : decode b_Md_undo 7 = .ok (.iload_n 1, 1) := by decide +kernel
theorem d_Md_undo_8 : decode b_Md_undo 8 = .ok (.ifCond .lt (77), 3) := by decide +kernel
theorem d_Md_undo_11 : decode b_Md_undo 11 = .ok (.aload_n 0, 1) := by decide +kernel
theorem d_Md_undo_12 : decode b_Md_undo 12 = .ok (.aload_n 0, 1) := by decide +kernel
theorem d_Md_undo_13 : decode b_Md_undo 13 = .ok (.getfield 20, 3) := by decide +kernel
theorem d_Md_undo_16 : decode b_Md_undo 16 = .ok (.iload_n 1, 1) := by decide +kernel
theorem d_Md_undo_17 : decode b_Md_undo 17 = .ok (.iaload, 1) := by decide +kernel
theorem d_Md_undo_18 : decode b_Md_undo 18 = .ok (.iconst 1, 1) := by decide +kernel
theorem d_Md_undo_19 : decode b_Md_undo 19 = .ok (.isub, 1) := by decide +kernel
theorem d_Md_undo_20 : decode b_Md_undo 20 = .ok (.aload_n 0, 1) := by decide +kernel
theorem d_Md_undo_21 : decode b_Md_undo 21 = .ok (.getfield 7, 3) := by decide +kernel
theorem d_Md_undo_24 : decode b_Md_undo 24 = .ok (.aload_n 0, 1) := by decide +kernel
theorem d_Md_undo_25 : decode b_Md_undo 25 = .ok (.getfield 20, 3) := by decide +kernel
theorem d_Md_undo_28 : decode b_Md_undo 28 = .ok (.iload_n 1, 1) := by decide +kernel
theorem d_Md_undo_29 : decode b_Md_undo 29 = .ok (.iaload, 1) := by decide +kernel
theorem d_Md_undo_30 : decode b_Md_undo 30 = .ok (.iaload, 1) := by decide +kernel
theorem d_Md_undo_31 : decode b_Md_undo 31 = .ok (.invokevirtual 68, 3) := by decide +kernel
theorem d_Md_undo_34 : decode b_Md_undo 34 = .ok (.lstore_n 2, 1) := by decide +kernel
theorem d_Md_undo_35 : decode b_Md_undo 35 = .ok (.aload_n 0, 1) := by decide +kernel
theorem d_Md_undo_36 : decode b_Md_undo 36 = .ok (.aload_n 0, 1) := by decide +kernel
theorem d_Md_undo_37 : decode b_Md_undo 37 = .ok (.getfield 7, 3) := by decide +kernel
theorem d_Md_undo_40 : decode b_Md_undo 40 = .ok (.aload_n 0, 1) := by decide +kernel
theorem d_Md_undo_41 : decode b_Md_undo 41 = .ok (.getfield 20, 3) := by decide +kernel
theorem d_Md_undo_44 : decode b_Md_undo 44 = .ok (.iload_n 1, 1) := by decide +kernel
theorem d_Md_undo_45 : decode b_Md_undo 45 = .ok (.iaload, 1) := by decide +kernel
theorem d_Md_undo_46 : decode b_Md_undo 46 = .ok (.iaload, 1) := by decide +kernel
theorem d_Md_undo_47 : decode b_Md_undo 47 = .ok (.lload_n 2, 1) := by decide +kernel
theorem d_Md_undo_48 : decode b_Md_undo 48 = .ok (.ldc2_w 60, 3) := by decide +kernel
theorem d_Md_undo_51 : decode b_Md_undo 51 = .ok (.lcmp, 1) := by decide +kernel
theorem d_Md_undo_52 : decode b_Md_undo 52 = .ok (.ifCond .ne (7), 3) := by decide +kernel
theorem d_Md_undo_55 : decode b_Md_undo 55 = .ok (.iconst 0, 1) := by decide +kernel
theorem d_Md_undo_56 : decode b_Md_undo 56 = .ok (.goto (5), 3) := by decide +kernel
theorem d_Md_undo_59 : decode b_Md_undo 59 = .ok (.lload_n 2, 1) := by decide +kernel
theorem d_Md_undo_60 : decode b_Md_undo 60 = .ok (.l2i, 1) := by decide +kernel
theorem d_Md_undo_61 : decode b_Md_undo 61 = .ok (.lload_n 2, 1) := by decide +kernel
theorem d_Md_undo_62 : decode b_Md_undo 62 = .ok (.ldc2_w 60, 3) := by decide +kernel
theorem d_Md_undo_65 : decode b_Md_undo 65 = .ok (.lcmp, 1) := by decide +kernel
theorem d_Md_undo_66 : decode b_Md_undo 66 = .ok (.ifCond .eq (7), 3) := by decide +kernel
theorem d_Md_undo_69 : decode b_Md_undo 69 = .ok (.iconst 1, 1) := by decide +kernel
theorem d_Md_undo_70 : decode b_Md_undo 70 = .ok (.goto (4), 3) := by decide +kernel
theorem d_Md_undo_73 : decode b_Md_undo 73 = .ok (.iconst 0, 1) := by decide +kernel
theorem d_Md_undo_74 : decode b_Md_undo 74 = .ok (.invokevirtual 72, 3) := by decide +kernel
theorem d_Md_undo_77 : decode b_Md_undo 77 = .ok (.istore 4, 2) := by decide +kernel
theorem d_Md_undo_79 : decode b_Md_undo 79 = .ok (.iinc 1 (-1), 3) := by decide +kernel
theorem d_Md_undo_82 : decode b_Md_undo 82 = .ok (.goto (-75), 3) := by decide +kernel
theorem d_Md_undo_85 : decode b_Md_undo 85 = .ok (.aload_n 0, 1) := by decide +kernel
theorem d_Md_undo_86 : decode b_Md_undo 86 = .ok (.getfield 65, 3) := by decide +kernel
theorem d_Md_undo_89 : decode b_Md_undo 89 = .ok (.ifCond .le (12), 3) := by decide +kernel
theorem d_Md_undo_92 : decode b_Md_undo 92 = .ok (.aload_n 0, 1) := by decide +kernel
theorem d_Md_undo_93 : decode b_Md_undo 93 = .ok (.bipush (-2), 2) := by decide +kernel
theorem d_Md_undo_95 : decode b_Md_undo 95 = .ok (.iconst 0, 1) := by decide +kernel
theorem d_Md_undo_96 : decode b_Md_undo 96 = .ok (.iconst 0, 1) := by decide +kernel
theorem d_Md_undo_97 : decode b_Md_undo 97 = .ok (.invokevirtual 72, 3) := by decide +kernel
theorem d_Md_undo_100 : decode b_Md_undo 100 = .ok (.istore_n 1, 1) := by decide +kernel
theorem d_Md_undo_101 : decode b_Md_undo 101 = .ok (.aload_n 0, 1) := by decide +kernel
theorem d_Md_undo_102 : decode b_Md_undo 102 = .ok (.iconst 0, 1) := by decide +kernel
theorem d_Md_undo_103 : decode b_Md_undo 103 = .ok (.putfield 65, 3) := by decide +kernel
theorem d_Md_undo_106 : decode b_Md_undo 106 = .ok (.aload_n 0, 1) := by decide +kernel
theorem d_Md_undo_107 : decode b_Md_undo 107 = .ok (.iconst 0, 1) := by decide +kernel
theorem d_Md_undo_108 : decode b_Md_undo 108 = .ok (.putfield 76, 3) := by decide +kernel
theorem d_Md_undo_111 : decode b_Md_undo 111 = .ok (.return_, 1) := by decide +kernel
theorem d_Md_after_0 : decode b_Md_after 0 = .ok (.iload_n 1, 1) := by decide +kernel
theorem d_Md_after_1 : decode b_Md_after 1 = .ok (.istore_n 3, 1) := by decide +kernel
theorem d_Md_after_2 : decode b_Md_after 2 = .ok (.iload_n 3, 1) := by decide +kernel
theorem d_Md_after_3 : decode b_Md_after 3 = .ok (.ifCond .le (42), 3) := by decide +kernel
theorem d_Md_after_6 : decode b_Md_after 6 = .ok (.aload_n 0, 1) := by decide +kernel
theorem d_Md_after_7 : decode b_Md_after 7 = .ok (.getfield 7, 3) := by decide +kernel
theorem d_Md_after_10 : decode b_Md_after 10 = .ok (.iload_n 3, 1) := by decide +kernel
theorem d_Md_after_11 : decode b_Md_after 11 = .ok (.iaload, 1) := by decide +kernel
theorem d_Md_after_12 : decode b_Md_after 12 = .ok (.iload_n 2, 1) := by decide +kernel
theorem d_Md_after_13 : decode b_Md_after 13 = .ok (.if_icmp .ne (26), 3) := by decide +kernel
theorem d_Md_after_16 : decode b_Md_after 16 = .ok (.aload_n 0, 1) := by decide +kernel
theorem d_Md_after_17 : decode b_Md_after 17 = .ok (.getfield 16, 3) := by decide +kernel
theorem d_Md_after_20 : decode b_Md_after 20 = .ok (.iload_n 3, 1) := by decide +kernel
theorem d_Md_after_21 : decode b_Md_after 21 = .ok (.baload, 1) := by decide +kernel
theorem d_Md_after_22 : decode b_Md_after 22 = .ok (.ifCond .eq (13), 3) := by decide +kernel
theorem d_Md_after_25 : decode b_Md_after 25 = .ok (.aload_n 0, 1) := by decide +kernel
theorem d_Md_after_26 : decode b_Md_after 26 = .ok (.getfield 13, 3) := by decide +kernel
theorem d_Md_after_29 : decode b_Md_after 29 = .ok (.iload_n 3, 1) := by decide +kernel
theorem d_Md_after_30 : decode b_Md_after 30 = .ok (.iaload, 1) := by decide +kernel
theorem d_Md_after_31 : decode b_Md_after 31 = .ok (.i2l, 1) := by decide +kernel
theorem d_Md_after_32 : decode b_Md_after 32 = .ok (.goto (6), 3) := by decide +kernel
theorem d_Md_after_35 : decode b_Md_after 35 = .ok (.ldc2_w 60, 3) := by decide +kernel
theorem d_Md_after_38 : decode b_Md_after 38 = .ok (.lreturn, 1) := by decide +kernel
theorem d_Md_after_39 : decode b_Md_after 39 = .ok (.iinc 3 (-1), 3) := by decide +kernel
theorem d_Md_after_42 : decode b_Md_after 42 = .ok (.goto (-40), 3) := by decide +kernel
theorem d_Md_after_45 : decode b_Md_after 45 = .ok (.ldc2_w 60, 3) := by decide +kernel
theorem d_Md_after_48 : decode b_Md_after 48 = .ok (.lreturn, 1) := by decide +kernel
theorem d_Md_get_0 : decode b_Md_get 0 = .ok (.iload_n 1, 1) := by decide +kernel
theorem d_Md_get_1 : decode b_Md_get 1 = .ok (.bipush (32), 2) := by decide +kernel
theorem d_Md_get_3 : decode b_Md_get 3 = .ok (.invokestatic 80, 3) := by decide +kernel
theorem d_Md_get_6 : decode b_Md_get 6 = .ok (.ifCond .eq (15), 3) := by decide +kernel
theorem d_Md_get_9 : decode b_Md_get 9 = .ok (.aload_n 0, 1) := by decide +kernel
theorem d_Md_get_10 : decode b_Md_get 10 = .ok (.aload_n 0, 1) := by decide +kernel
theorem d_Md_get_11 : decode b_Md_get 11 = .ok (.getfield 57, 3) := by decide +kernel
theorem d_Md_get_14 : decode b_Md_get 14 = .ok (.iload_n 1, 1) := by decide +kernel
theorem d_Md_get_15 : decode b_Md_get 15 = .ok (.invokevirtual 68, 3) := by decide +kernel
theorem d_Md_get_18 : decode b_Md_get 18 = .ok (.goto (6), 3) := by decide +kernel
theorem d_Md_get_21 : decode b_Md_get 21 = .ok (.ldc2_w 94, 3) := by decide +kernel
theorem d_Md_get_24 : decode b_Md_get 24 = .ok (.lreturn, 1) := by decide +kernel
theorem d_Md_write_0 : decode b_Md_write 0 = .ok (.iload_n 1, 1) := by decide +kernel
theorem d_Md_write_1 : decode b_Md_write 1 = .ok (.bipush (8), 2) := by decide +kernel
theorem d_Md_write_3 : decode b_Md_write 3 = .ok (.invokestatic 80, 3) := by decide +kernel
theorem d_Md_write_6 : decode b_Md_write 6 = .ok (.ifCond .ne (5), 3) := by decide +kernel
theorem d_Md_write_9 : decode b_Md_write 9 = .ok (.iconst (-1), 1) := by decide +kernel
theorem d_Md_write_10 : decode b_Md_write 10 = .ok (.ireturn, 1) := by decide +kernel
theorem d_Md_write_11 : decode b_Md_write 11 = .ok (.aload_n 0, 1) := by decide +kernel
theorem d_Md_write_12 : decode b_Md_write 12 = .ok (.getfield 23, 3) := by decide +kernel
theorem d_Md_write_15 : decode b_Md_write 15 = .ok (.iload_n 1, 1) := by decide +kernel
theorem d_Md_write_16 : decode b_Md_write 16 = .ok (.aload_n 0, 1) := by decide +kernel
theorem d_Md_write_17 : decode b_Md_write 17 = .ok (.iload_n 1, 1) := by decide +kernel
theorem d_Md_write_18 : decode b_Md_write 18 = .ok (.invokevirtual 96, 3) := by decide +kernel
theorem d_Md_write_21 : decode b_Md_write 21 = .ok (.iastore, 1) := by decide +kernel
theorem d_Md_write_22 : decode b_Md_write 22 = .ok (.aload_n 0, 1) := by decide +kernel
theorem d_Md_write_23 : decode b_Md_write 23 = .ok (.getfield 26, 3) := by decide +kernel
theorem d_Md_write_26 : decode b_Md_write 26 = .ok (.iload_n 1, 1) := by decide +kernel
theorem d_Md_write_27 : decode b_Md_write 27 = .ok (.iconst 1, 1) := by decide +kernel
theorem d_Md_write_28 : decode b_Md_write 28 = .ok (.bastore, 1) := by decide +kernel
theorem d_Md_write_29 : decode b_Md_write 29 = .ok (.aload_n 0, 1) := by decide +kernel
theorem d_Md_write_30 : decode b_Md_write 30 = .ok (.getfield 23, 3) := by decide +kernel
theorem d_Md_write_33 : decode b_Md_write 33 = .ok (.iload_n 1, 1) := by decide +kernel
theorem d_Md_write_34 : decode b_Md_write 34 = .ok (.iaload, 1) := by decide +kernel
theorem d_Md_write_35 : decode b_Md_write 35 = .ok (.ireturn, 1) := by decide +kernel
theorem d_Md_numberOf_0 : decode b_Md_numberOf 0 = .ok (.aload_n 0, 1) := by decide +kernel
theorem d_Md_numberOf_1 : decode b_Md_numberOf 1 = .ok (.getfield 57, 3) := by decide +kernel
theorem d_Md_numberOf_4 : decode b_Md_numberOf 4 = .ok (.istore_n 2, 1) := by decide +kernel
theorem d_Md_numberOf_5 : decode b_Md_numberOf 5 = .ok (.iload_n 2, 1) := by decide +kernel
theorem d_Md_numberOf_6 : decode b_Md_numberOf 6 = .ok (.ifCond .le (32), 3) := by decide +kernel
theorem d_Md_numberOf_9 : decode b_Md_numberOf 9 = .ok (.aload_n 0, 1) := by decide +kernel
theorem d_Md_numberOf_10 : decode b_Md_numberOf 10 = .ok (.getfield 7, 3) := by decide +kernel
theorem d_Md_numberOf_13 : decode b_Md_numberOf 13 = .ok (.iload_n 2, 1) := by decide +kernel
theorem d_Md_numberOf_14 : decode b_Md_numberOf 14 = .ok (.iaload, 1) := by decide +kernel
theorem d_Md_numberOf_15 : decode b_Md_numberOf 15 = .ok (.ifCond .lt (17), 3) := by decide +kernel
theorem d_Md_numberOf_18 : decode b_Md_numberOf 18 = .ok (.aload_n 0, 1) := by decide +kernel
theorem d_Md_numberOf_19 : decode b_Md_numberOf 19 = .ok (.getfield 7, 3) := by decide +kernel
theorem d_Md_numberOf_22 : decode b_Md_numberOf 22 = .ok (.iload_n 2, 1) := by decide +kernel
theorem d_Md_numberOf_23 : decode b_Md_numberOf 23 = .ok (.iaload, 1) := by decide +kernel
theorem d_Md_numberOf_24 : decode b_Md_numberOf 24 = .ok (.iconst 4, 1) := by decide +kernel
theorem d_Md_numberOf_25 : decode b_Md_numberOf 25 = .ok (.idiv, 1) := by decide +kernel
theorem d_Md_numberOf_26 : decode b_Md_numberOf 26 = .ok (.iload_n 1, 1) := by decide +kernel
theorem d_Md_numberOf_27 : decode b_Md_numberOf 27 = .ok (.if_icmp .ne (5), 3) := by decide +kernel
theorem d_Md_numberOf_30 : decode b_Md_numberOf 30 = .ok (.iload_n 2, 1) := by decide +kernel
theorem d_Md_numberOf_31 : decode b_Md_numberOf 31 = .ok (.ireturn, 1) := by decide +kernel
theorem d_Md_numberOf_32 : decode b_Md_numberOf 32 = .ok (.iinc 2 (-1), 3) := by decide +kernel
theorem d_Md_numberOf_35 : decode b_Md_numberOf 35 = .ok (.goto (-30), 3) := by decide +kernel
theorem d_Md_numberOf_38 : decode b_Md_numberOf 38 = .ok (.iconst 0, 1) := by decide +kernel
theorem d_Md_numberOf_39 : decode b_Md_numberOf 39 = .ok (.ireturn, 1) := by decide +kernel
theorem d_Md_archive_0 : decode b_Md_archive 0 = .ok (.aload_n 0, 1) := by decide +kernel
theorem d_Md_archive_1 : decode b_Md_archive 1 = .ok (.getfield 62, 3) := by decide +kernel
theorem d_Md_archive_4 : decode b_Md_archive 4 = .ok (.iconst 1, 1) := by decide +kernel
theorem d_Md_archive_5 : decode b_Md_archive 5 = .ok (.iadd, 1) := by decide +kernel
theorem d_Md_archive_6 : decode b_Md_archive 6 = .ok (.aload_n 0, 1) := by decide +kernel
theorem d_Md_archive_7 : decode b_Md_archive 7 = .ok (.getfield 51, 3) := by decide +kernel
theorem d_Md_archive_10 : decode b_Md_archive 10 = .ok (.imul, 1) := by decide +kernel
theorem d_Md_archive_11 : decode b_Md_archive 11 = .ok (.aload_n 0, 1) := by decide +kernel
theorem d_Md_archive_12 : decode b_Md_archive 12 = .ok (.getfield 57, 3) := by decide +kernel
theorem d_Md_archive_15 : decode b_Md_archive 15 = .ok (.if_icmp .le (5), 3) := by decide +kernel
theorem d_Md_archive_18 : decode b_Md_archive 18 = .ok (.iconst (-1), 1) := by decide +kernel
theorem d_Md_archive_19 : decode b_Md_archive 19 = .ok (.ireturn, 1) := by decide +kernel
theorem d_Md_archive_20 : decode b_Md_archive 20 = .ok (.aload_n 0, 1) := by decide +kernel
theorem d_Md_archive_21 : decode b_Md_archive 21 = .ok (.dup, 1) := by decide +kernel
theorem d_Md_archive_22 : decode b_Md_archive 22 = .ok (.getfield 62, 3) := by decide +kernel
theorem d_Md_archive_25 : decode b_Md_archive 25 = .ok (.iconst 1, 1) := by decide +kernel
theorem d_Md_archive_26 : decode b_Md_archive 26 = .ok (.iadd, 1) := by decide +kernel
theorem d_Md_archive_27 : decode b_Md_archive 27 = .ok (.putfield 62, 3) := by decide +kernel
theorem d_Md_archive_30 : decode b_Md_archive 30 = .ok (.aload_n 0, 1) := by decide +kernel
theorem d_Md_archive_31 : decode b_Md_archive 31 = .ok (.getfield 62, 3) := by decide +kernel
theorem d_Md_archive_34 : decode b_Md_archive 34 = .ok (.ireturn, 1) := by decide +kernel
theorem d_Md_backup_0 : decode b_Md_backup 0 = .ok (.aload_n 0, 1) := by decide +kernel
theorem d_Md_backup_1 : decode b_Md_backup 1 = .ok (.getfield 44, 3) := by decide +kernel
theorem d_Md_backup_4 : decode b_Md_backup 4 = .ok (.ifCond .ge (14), 3) := by decide +kernel
theorem d_Md_backup_7 : decode b_Md_backup 7 = .ok (.iload_n 1, 1) := by decide +kernel
theorem d_Md_backup_8 : decode b_Md_backup 8 = .ok (.ifCond .ne (12), 3) := by decide +kernel
theorem d_Md_backup_11 : decode b_Md_backup 11 = .ok (.aload_n 0, 1) := by decide +kernel
theorem d_Md_backup_12 : decode b_Md_backup 12 = .ok (.invokevirtual 103, 3) := by decide +kernel
theorem d_Md_backup_15 : decode b_Md_backup 15 = .ok (.ifCond .ne (5), 3) := by decide +kernel
theorem d_Md_backup_18 : decode b_Md_backup 18 = .ok (.iconst (-1), 1) := by decide +kernel
theorem d_Md_backup_19 : decode b_Md_backup 19 = .ok (.ireturn, 1) := by decide +kernel
theorem d_Md_backup_20 : decode b_Md_backup 20 = .ok (.aload_n 0, 1) := by decide +kernel
theorem d_Md_backup_21 : decode b_Md_backup 21 = .ok (.getfield 100, 3) := by decide +kernel
theorem d_Md_backup_24 : decode b_Md_backup 24 = .ok (.iconst 1, 1) := by decide +kernel
theorem d_Md_backup_25 : decode b_Md_backup 25 = .ok (.iadd, 1) := by decide +kernel
theorem d_Md_backup_26 : decode b_Md_backup 26 = .ok (.istore_n 2, 1) := by decide +kernel
theorem d_Md_backup_27 : decode b_Md_backup 27 = .ok (.aload_n 0, 1) := by decide +kernel
theorem d_Md_backup_28 : decode b_Md_backup 28 = .ok (.getfield 32, 3) := by decide +kernel
theorem d_Md_backup_31 : decode b_Md_backup 31 = .ok (.iload_n 2, 1) := by decide +kernel
theorem d_Md_backup_32 : decode b_Md_backup 32 = .ok (.iload_n 1, 1) := by decide +kernel
theorem d_Md_backup_33 : decode b_Md_backup 33 = .ok (.bastore, 1) := by decide +kernel
theorem d_Md_backup_34 : decode b_Md_backup 34 = .ok (.aload_n 0, 1) := by decide +kernel
theorem d_Md_backup_35 : decode b_Md_backup 35 = .ok (.getfield 35, 3) := by decide +kernel
theorem d_Md_backup_38 : decode b_Md_backup 38 = .ok (.iload_n 2, 1) := by decide +kernel
theorem d_Md_backup_39 : decode b_Md_backup 39 = .ok (.aload_n 0, 1) := by decide +kernel
theorem d_Md_backup_40 : decode b_Md_backup 40 = .ok (.getfield 57, 3) := by decide +kernel
theorem d_Md_backup_43 : decode b_Md_backup 43 = .ok (.iastore, 1) := by decide +kernel
theorem d_Md_backup_44 : decode b_Md_backup 44 = .ok (.iconst 0, 1) := by decide +kernel
theorem d_Md_backup_45 : decode b_Md_backup 45 = .ok (.istore_n 3, 1) := by decide +kernel
theorem d_Md_backup_46 : decode b_Md_backup 46 = .ok (.iload_n 3, 1) := by decide +kernel
theorem d_Md_backup_47 : decode b_Md_backup 47 = .ok (.bipush (8), 2) := by decide +kernel
theorem d_Md_backup_49 : decode b_Md_backup 49 = .ok (.if_icmp .ge (21), 3) := by decide +kernel
theorem d_Md_backup_52 : decode b_Md_backup 52 = .ok (.aload_n 0, 1) := by decide +kernel
theorem d_Md_backup_53 : decode b_Md_backup 53 = .ok (.getfield 41, 3) := by decide +kernel
theorem d_Md_backup_56 : decode b_Md_backup 56 = .ok (.iload_n 2, 1) := by decide +kernel
theorem d_Md_backup_57 : decode b_Md_backup 57 = .ok (.bipush (8), 2) := by decide +kernel
theorem d_Md_backup_59 : decode b_Md_backup 59 = .ok (.imul, 1) := by decide +kernel
theorem d_Md_backup_60 : decode b_Md_backup 60 = .ok (.iload_n 3, 1) := by decide +kernel
theorem d_Md_backup_61 : decode b_Md_backup 61 = .ok (.iadd, 1) := by decide +kernel
theorem d_Md_backup_62 : decode b_Md_backup 62 = .ok (.iconst (-1), 1) := by decide +kernel
theorem d_Md_backup_63 : decode b_Md_backup 63 = .ok (.iastore, 1) := by decide +kernel
theorem d_Md_backup_64 : decode b_Md_backup 64 = .ok (.iinc 3 (1), 3) := by decide +kernel
theorem d_Md_backup_67 : decode b_Md_backup 67 = .ok (.goto (-21), 3) := by decide +kernel
theorem d_Md_backup_70 : decode b_Md_backup 70 = .ok (.aload_n 0, 1) := by decide +kernel
theorem d_Md_backup_71 : decode b_Md_backup 71 = .ok (.bipush (8), 2) := by decide +kernel
theorem d_Md_backup_73 : decode b_Md_backup 73 = .ok (.putfield 44, 3) := by decide +kernel
theorem d_Md_backup_76 : decode b_Md_backup 76 = .ok (.iconst 0, 1) := by decide +kernel
theorem d_Md_backup_77 : decode b_Md_backup 77 = .ok (.ireturn, 1) := by decide +kernel
theorem d_Md_fulls_0 : decode b_Md_fulls 0 = .ok (.iconst 0, 1) := by decide +kernel
theorem d_Md_fulls_1 : decode b_Md_fulls 1 = .ok (.istore_n 1, 1) := by decide +kernel
theorem d_Md_fulls_2 : decode b_Md_fulls 2 = .ok (.iconst 1, 1) := by decide +kernel
theorem d_Md_fulls_3 : decode b_Md_fulls 3 = .ok (.istore_n 2, 1) := by decide +kernel
theorem d_Md_fulls_4 : decode b_Md_fulls 4 = .ok (.iload_n 2, 1) := by decide +kernel
theorem d_Md_fulls_5 : decode b_Md_fulls 5 = .ok (.aload_n 0, 1) := by decide +kernel
theorem d_Md_fulls_6 : decode b_Md_fulls 6 = .ok (.getfield 100, 3) := by decide +kernel
theorem d_Md_fulls_9 : decode b_Md_fulls 9 = .ok (.if_icmp .gt (30), 3) := by decide +kernel
theorem d_Md_fulls_12 : decode b_Md_fulls 12 = .ok (.aload_n 0, 1) := by decide +kernel
theorem d_Md_fulls_13 : decode b_Md_fulls 13 = .ok (.getfield 29, 3) := by decide +kernel
theorem d_Md_fulls_16 : decode b_Md_fulls 16 = .ok (.iload_n 2, 1) := by decide +kernel
theorem d_Md_fulls_17 : decode b_Md_fulls 17 = .ok (.baload, 1) := by decide +kernel
theorem d_Md_fulls_18 : decode b_Md_fulls 18 = .ok (.ifCond .eq (15), 3) := by decide +kernel
theorem d_Md_fulls_21 : decode b_Md_fulls 21 = .ok (.aload_n 0, 1) := by decide +kernel
theorem d_Md_fulls_22 : decode b_Md_fulls 22 = .ok (.getfield 32, 3) := by decide +kernel
theorem d_Md_fulls_25 : decode b_Md_fulls 25 = .ok (.iload_n 2, 1) := by decide +kernel
theorem d_Md_fulls_26 : decode b_Md_fulls 26 = .ok (.baload, 1) := by decide +kernel
theorem d_Md_fulls_27 : decode b_Md_fulls 27 = .ok (.ifCond .eq (6), 3) := by decide +kernel
theorem d_Md_fulls_30 : decode b_Md_fulls 30 = .ok (.iinc 1 (1), 3) := by decide +kernel
theorem d_Md_fulls_33 : decode b_Md_fulls 33 = .ok (.iinc 2 (1), 3) := by decide +kernel
theorem d_Md_fulls_36 : decode b_Md_fulls 36 = .ok (.goto (-32), 3) := by decide +kernel
theorem d_Md_fulls_39 : decode b_Md_fulls 39 = .ok (.iload_n 1, 1) := by decide +kernel
theorem d_Md_fulls_40 : decode b_Md_fulls 40 = .ok (.ireturn, 1) := by decide +kernel
theorem d_Md_step_0 : decode b_Md_step 0 = .ok (.iload_n 1, 1) := by decide +kernel
theorem d_Md_step_1 : decode b_Md_step 1 = .ok (.iconst 1, 1) := by decide +kernel
theorem d_Md_step_2 : decode b_Md_step 2 = .ok (.if_icmp .lt (16), 3) := by decide +kernel
theorem d_Md_step_5 : decode b_Md_step 5 = .ok (.iload_n 1, 1) := by decide +kernel
theorem d_Md_step_6 : decode b_Md_step 6 = .ok (.bipush (8), 2) := by decide +kernel
theorem d_Md_step_8 : decode b_Md_step 8 = .ok (.if_icmp .gt (10), 3) := by decide +kernel
theorem d_Md_step_11 : decode b_Md_step 11 = .ok (.aload_n 0, 1) := by decide +kernel
theorem d_Md_step_12 : decode b_Md_step 12 = .ok (.getfield 44, 3) := by decide +kernel
theorem d_Md_step_15 : decode b_Md_step 15 = .ok (.ifCond .ge (5), 3) := by decide +kernel
theorem d_Md_step_18 : decode b_Md_step 18 = .ok (.iconst (-1), 1) := by decide +kernel
theorem d_Md_step_19 : decode b_Md_step 19 = .ok (.ireturn, 1) := by decide +kernel
theorem d_Md_step_20 : decode b_Md_step 20 = .ok (.aload_n 0, 1) := by decide +kernel
theorem d_Md_step_21 : decode b_Md_step 21 = .ok (.getfield 100, 3) := by decide +kernel
theorem d_Md_step_24 : decode b_Md_step 24 = .ok (.iconst 1, 1) := by decide +kernel
theorem d_Md_step_25 : decode b_Md_step 25 = .ok (.iadd, 1) := by decide +kernel
theorem d_Md_step_26 : decode b_Md_step 26 = .ok (.istore_n 2, 1) := by decide +kernel
theorem d_Md_step_27 : decode b_Md_step 27 = .ok (.iconst 0, 1) := by decide +kernel
theorem d_Md_step_28 : decode b_Md_step 28 = .ok (.istore_n 3, 1) := by decide +kernel
theorem d_Md_step_29 : decode b_Md_step 29 = .ok (.iload_n 3, 1) := by decide +kernel
theorem d_Md_step_30 : decode b_Md_step 30 = .ok (.iload_n 1, 1) := by decide +kernel
theorem d_Md_step_31 : decode b_Md_step 31 = .ok (.if_icmp .ge (80), 3) := by decide +kernel
theorem d_Md_step_34 : decode b_Md_step 34 = .ok (.aload_n 0, 1) := by decide +kernel
theorem d_Md_step_35 : decode b_Md_step 35 = .ok (.getfield 44, 3) := by decide +kernel
theorem d_Md_step_38 : decode b_Md_step 38 = .ok (.ifCond .le (73), 3) := by decide +kernel
theorem d_Md_step_41 : decode b_Md_step 41 = .ok (.bipush (8), 2) := by decide +kernel
theorem d_Md_step_43 : decode b_Md_step 43 = .ok (.aload_n 0, 1) := by decide +kernel
theorem d_Md_step_44 : decode b_Md_step 44 = .ok (.getfield 44, 3) := by decide +kernel
theorem d_Md_step_47 : decode b_Md_step 47 = .ok (.isub, 1) := by decide +kernel
theorem d_Md_step_48 : decode b_Md_step 48 = .ok (.istore 4, 2) := by decide +kernel
theorem d_Md_step_50 : decode b_Md_step 50 = .ok (.aload_n 0, 1) := by decide +kernel
theorem d_Md_step_51 : decode b_Md_step 51 = .ok (.iload 4, 2) := by decide +kernel
theorem d_Md_step_53 : decode b_Md_step 53 = .ok (.invokevirtual 96, 3) := by decide +kernel
theorem d_Md_step_56 : decode b_Md_step 56 = .ok (.istore 5, 2) := by decide +kernel
theorem d_Md_step_58 : decode b_Md_step 58 = .ok (.aload_n 0, 1) := by decide +kernel
theorem d_Md_step_59 : decode b_Md_step 59 = .ok (.getfield 32, 3) := by decide +kernel
theorem d_Md_step_62 : decode b_Md_step 62 = .ok (.iload_n 2, 1) := by decide +kernel
theorem d_Md_step_63 : decode b_Md_step 63 = .ok (.baload, 1) := by decide +kernel
theorem d_Md_step_64 : decode b_Md_step 64 = .ok (.ifCond .ne (17), 3) := by decide +kernel
theorem d_Md_step_67 : decode b_Md_step 67 = .ok (.iload 5, 2) := by decide +kernel
theorem d_Md_step_69 : decode b_Md_step 69 = .ok (.aload_n 0, 1) := by decide +kernel
theorem d_Md_step_70 : decode b_Md_step 70 = .ok (.getfield 35, 3) := by decide +kernel
theorem d_Md_step_73 : decode b_Md_step 73 = .ok (.aload_n 0, 1) := by decide +kernel
theorem d_Md_step_74 : decode b_Md_step 74 = .ok (.getfield 100, 3) := by decide +kernel
theorem d_Md_step_77 : decode b_Md_step 77 = .ok (.iaload, 1) := by decide +kernel
theorem d_Md_step_78 : decode b_Md_step 78 = .ok (.if_icmp .le (17), 3) := by decide +kernel
theorem d_Md_step_81 : decode b_Md_step 81 = .ok (.aload_n 0, 1) := by decide +kernel
theorem d_Md_step_82 : decode b_Md_step 82 = .ok (.getfield 41, 3) := by decide +kernel
theorem d_Md_step_85 : decode b_Md_step 85 = .ok (.iload_n 2, 1) := by decide +kernel
theorem d_Md_step_86 : decode b_Md_step 86 = .ok (.bipush (8), 2) := by decide +kernel
theorem d_Md_step_88 : decode b_Md_step 88 = .ok (.imul, 1) := by decide +kernel
theorem d_Md_step_89 : decode b_Md_step 89 = .ok (.iload 4, 2) := by decide +kernel
theorem d_Md_step_91 : decode b_Md_step 91 = .ok (.iadd, 1) := by decide +kernel
theorem d_Md_step_92 : decode b_Md_step 92 = .ok (.iload 5, 2) := by decide +kernel
theorem d_Md_step_94 : decode b_Md_step 94 = .ok (.iastore, 1) := by decide +kernel
theorem d_Md_step_95 : decode b_Md_step 95 = .ok (.aload_n 0, 1) := by decide +kernel
theorem d_Md_step_96 : decode b_Md_step 96 = .ok (.dup, 1) := by decide +kernel
theorem d_Md_step_97 : decode b_Md_step 97 = .ok (.getfield 44, 3) := by decide +kernel
theorem d_Md_step_100 : decode b_Md_step 100 = .ok (.iconst 1, 1) := by decide +kernel
theorem d_Md_step_101 : decode b_Md_step 101 = .ok (.isub, 1) := by decide +kernel
theorem d_Md_step_102 : decode b_Md_step 102 = .ok (.putfield 44, 3) := by decide +kernel
theorem d_Md_step_105 : decode b_Md_step 105 = .ok (.iinc 3 (1), 3) := by decide +kernel
theorem d_Md_step_108 : decode b_Md_step 108 = .ok (.goto (-79), 3) := by decide +kernel
theorem d_Md_step_111 : decode b_Md_step 111 = .ok (.aload_n 0, 1) := by decide +kernel
theorem d_Md_step_112 : decode b_Md_step 112 = .ok (.getfield 44, 3) := by decide +kernel
theorem d_Md_step_115 : decode b_Md_step 115 = .ok (.ifCond .le (8), 3) := by decide +kernel
theorem d_Md_step_118 : decode b_Md_step 118 = .ok (.aload_n 0, 1) := by decide +kernel
theorem d_Md_step_119 : decode b_Md_step 119 = .ok (.getfield 44, 3) := by decide +kernel
theorem d_Md_step_122 : decode b_Md_step 122 = .ok (.ireturn, 1) := by decide +kernel
theorem d_Md_step_123 : decode b_Md_step 123 = .ok (.aload_n 0, 1) := by decide +kernel
theorem d_Md_step_124 : decode b_Md_step 124 = .ok (.invokevirtual 112, 3) := by decide +kernel
theorem d_Md_step_127 : decode b_Md_step 127 = .ok (.iconst 0, 1) := by decide +kernel
theorem d_Md_step_128 : decode b_Md_step 128 = .ok (.ireturn, 1) := by decide +kernel
theorem d_Md_finish_0 : decode b_Md_finish 0 = .ok (.aload_n 0, 1) := by decide +kernel
theorem d_Md_finish_1 : decode b_Md_finish 1 = .ok (.dup, 1) := by decide +kernel
theorem d_Md_finish_2 : decode b_Md_finish 2 = .ok (.getfield 100, 3) := by decide +kernel
theorem d_Md_finish_5 : decode b_Md_finish 5 = .ok (.iconst 1, 1) := by decide +kernel
theorem d_Md_finish_6 : decode b_Md_finish 6 = .ok (.iadd, 1) := by decide +kernel
theorem d_Md_finish_7 : decode b_Md_finish 7 = .ok (.putfield 100, 3) := by decide +kernel
theorem d_Md_finish_10 : decode b_Md_finish 10 = .ok (.aload_n 0, 1) := by decide +kernel
theorem d_Md_finish_11 : decode b_Md_finish 11 = .ok (.getfield 29, 3) := by decide +kernel
theorem d_Md_finish_14 : decode b_Md_finish 14 = .ok (.aload_n 0, 1) := by decide +kernel
theorem d_Md_finish_15 : decode b_Md_finish 15 = .ok (.getfield 100, 3) := by decide +kernel
theorem d_Md_finish_18 : decode b_Md_finish 18 = .ok (.iconst 1, 1) := by decide +kernel
theorem d_Md_finish_19 : decode b_Md_finish 19 = .ok (.bastore, 1) := by decide +kernel
theorem d_Md_finish_20 : decode b_Md_finish 20 = .ok (.aload_n 0, 1) := by decide +kernel
theorem d_Md_finish_21 : decode b_Md_finish 21 = .ok (.getfield 38, 3) := by decide +kernel
theorem d_Md_finish_24 : decode b_Md_finish 24 = .ok (.aload_n 0, 1) := by decide +kernel
theorem d_Md_finish_25 : decode b_Md_finish 25 = .ok (.getfield 100, 3) := by decide +kernel
theorem d_Md_finish_28 : decode b_Md_finish 28 = .ok (.aload_n 0, 1) := by decide +kernel
theorem d_Md_finish_29 : decode b_Md_finish 29 = .ok (.getfield 57, 3) := by decide +kernel
theorem d_Md_finish_32 : decode b_Md_finish 32 = .ok (.iastore, 1) := by decide +kernel
theorem d_Md_finish_33 : decode b_Md_finish 33 = .ok (.aload_n 0, 1) := by decide +kernel
theorem d_Md_finish_34 : decode b_Md_finish 34 = .ok (.bipush (-2), 2) := by decide +kernel
theorem d_Md_finish_36 : decode b_Md_finish 36 = .ok (.putfield 44, 3) := by decide +kernel
theorem d_Md_finish_39 : decode b_Md_finish 39 = .ok (.aload_n 0, 1) := by decide +kernel
theorem d_Md_finish_40 : decode b_Md_finish 40 = .ok (.getfield 32, 3) := by decide +kernel
theorem d_Md_finish_43 : decode b_Md_finish 43 = .ok (.aload_n 0, 1) := by decide +kernel
theorem d_Md_finish_44 : decode b_Md_finish 44 = .ok (.getfield 100, 3) := by decide +kernel
theorem d_Md_finish_47 : decode b_Md_finish 47 = .ok (.baload, 1) := by decide +kernel
theorem d_Md_finish_48 : decode b_Md_finish 48 = .ok (.ifCond .eq (14), 3) := by decide +kernel
theorem d_Md_finish_51 : decode b_Md_finish 51 = .ok (.aload_n 0, 1) := by decide +kernel
theorem d_Md_finish_52 : decode b_Md_finish 52 = .ok (.invokevirtual 103, 3) := by decide +kernel
theorem d_Md_finish_55 : decode b_Md_finish 55 = .ok (.aload_n 0, 1) := by decide +kernel
theorem d_Md_finish_56 : decode b_Md_finish 56 = .ok (.getfield 54, 3) := by decide +kernel
theorem d_Md_finish_59 : decode b_Md_finish 59 = .ok (.if_icmp .gt (4), 3) := by decide +kernel
theorem d_Md_finish_62 : decode b_Md_finish 62 = .ok (.return_, 1) := by decide +kernel
theorem d_Md_finish_63 : decode b_Md_finish 63 = .ok (.aload_n 0, 1) := by decide +kernel
theorem d_Md_finish_64 : decode b_Md_finish 64 = .ok (.aload_n 0, 1) := by decide +kernel
theorem d_Md_finish_65 : decode b_Md_finish 65 = .ok (.iconst 1, 1) := by decide +kernel
theorem d_Md_finish_66 : decode b_Md_finish 66 = .ok (.invokevirtual 106, 3) := by decide +kernel
theorem d_Md_finish_69 : decode b_Md_finish 69 = .ok (.iconst 1, 1) := by decide +kernel
theorem d_Md_finish_70 : decode b_Md_finish 70 = .ok (.iadd, 1) := by decide +kernel
theorem d_Md_finish_71 : decode b_Md_finish 71 = .ok (.invokevirtual 106, 3) := by decide +kernel
theorem d_Md_finish_74 : decode b_Md_finish 74 = .ok (.istore_n 1, 1) := by decide +kernel
theorem d_Md_finish_75 : decode b_Md_finish 75 = .ok (.iconst 1, 1) := by decide +kernel
theorem d_Md_finish_76 : decode b_Md_finish 76 = .ok (.istore_n 2, 1) := by decide +kernel
theorem d_Md_finish_77 : decode b_Md_finish 77 = .ok (.iload_n 2, 1) := by decide +kernel
theorem d_Md_finish_78 : decode b_Md_finish 78 = .ok (.iload_n 1, 1) := by decide +kernel
theorem d_Md_finish_79 : decode b_Md_finish 79 = .ok (.if_icmp .ge (16), 3) := by decide +kernel
theorem d_Md_finish_82 : decode b_Md_finish 82 = .ok (.aload_n 0, 1) := by decide +kernel
theorem d_Md_finish_83 : decode b_Md_finish 83 = .ok (.getfield 29, 3) := by decide +kernel
theorem d_Md_finish_86 : decode b_Md_finish 86 = .ok (.iload_n 2, 1) := by decide +kernel
theorem d_Md_finish_87 : decode b_Md_finish 87 = .ok (.iconst 0, 1) := by decide +kernel
theorem d_Md_finish_88 : decode b_Md_finish 88 = .ok (.bastore, 1) := by decide +kernel
theorem d_Md_finish_89 : decode b_Md_finish 89 = .ok (.iinc 2 (1), 3) := by decide +kernel
theorem d_Md_finish_92 : decode b_Md_finish 92 = .ok (.goto (-15), 3) := by decide +kernel
theorem d_Md_finish_95 : decode b_Md_finish 95 = .ok (.aload_n 0, 1) := by decide +kernel
theorem d_Md_finish_96 : decode b_Md_finish 96 = .ok (.getfield 35, 3) := by decide +kernel
theorem d_Md_finish_99 : decode b_Md_finish 99 = .ok (.iload_n 1, 1) := by decide +kernel
theorem d_Md_finish_100 : decode b_Md_finish 100 = .ok (.iaload, 1) := by decide +kernel
theorem d_Md_finish_101 : decode b_Md_finish 101 = .ok (.aload_n 0, 1) := by decide +kernel
theorem d_Md_finish_102 : decode b_Md_finish 102 = .ok (.getfield 51, 3) := by decide +kernel
theorem d_Md_finish_105 : decode b_Md_finish 105 = .ok (.idiv, 1) := by decide +kernel
theorem d_Md_finish_106 : decode b_Md_finish 106 = .ok (.istore_n 2, 1) := by decide +kernel
theorem d_Md_finish_107 : decode b_Md_finish 107 = .ok (.iload_n 2, 1) := by decide +kernel
theorem d_Md_finish_108 : decode b_Md_finish 108 = .ok (.aload_n 0, 1) := by decide +kernel
theorem d_Md_finish_109 : decode b_Md_finish 109 = .ok (.getfield 62, 3) := by decide +kernel
theorem d_Md_finish_112 : decode b_Md_finish 112 = .ok (.if_icmp .le (8), 3) := by decide +kernel
theorem d_Md_finish_115 : decode b_Md_finish 115 = .ok (.aload_n 0, 1) := by decide +kernel
theorem d_Md_finish_116 : decode b_Md_finish 116 = .ok (.getfield 62, 3) := by decide +kernel
theorem d_Md_finish_119 : decode b_Md_finish 119 = .ok (.istore_n 2, 1) := by decide +kernel
theorem d_Md_finish_120 : decode b_Md_finish 120 = .ok (.iload_n 2, 1) := by decide +kernel
theorem d_Md_finish_121 : decode b_Md_finish 121 = .ok (.aload_n 0, 1) := by decide +kernel
theorem d_Md_finish_122 : decode b_Md_finish 122 = .ok (.getfield 109, 3) := by decide +kernel
theorem d_Md_finish_125 : decode b_Md_finish 125 = .ok (.if_icmp .le (8), 3) := by decide +kernel
theorem d_Md_finish_128 : decode b_Md_finish 128 = .ok (.aload_n 0, 1) := by decide +kernel
theorem d_Md_finish_129 : decode b_Md_finish 129 = .ok (.iload_n 2, 1) := by decide +kernel
theorem d_Md_finish_130 : decode b_Md_finish 130 = .ok (.putfield 109, 3) := by decide +kernel
theorem d_Md_finish_133 : decode b_Md_finish 133 = .ok (.return_, 1) := by decide +kernel
theorem d_Md_firstFull_0 : decode b_Md_firstFull 0 = .ok (.iload_n 1, 1) := by decide +kernel
theorem d_Md_firstFull_1 : decode b_Md_firstFull 1 = .ok (.istore_n 2, 1) := by decide +kernel
theorem d_Md_firstFull_2 : decode b_Md_firstFull 2 = .ok (.iload_n 2, 1) := by decide +kernel
theorem d_Md_firstFull_3 : decode b_Md_firstFull 3 = .ok (.aload_n 0, 1) := by decide +kernel
theorem d_Md_firstFull_4 : decode b_Md_firstFull 4 = .ok (.getfield 100, 3) := by decide +kernel
theorem d_Md_firstFull_7 : decode b_Md_firstFull 7 = .ok (.if_icmp .gt (29), 3) := by decide +kernel
theorem d_Md_firstFull_10 : decode b_Md_firstFull 10 = .ok (.aload_n 0, 1) := by decide +kernel
theorem d_Md_firstFull_11 : decode b_Md_firstFull 11 = .ok (.getfield 29, 3) := by decide +kernel
theorem d_Md_firstFull_14 : decode b_Md_firstFull 14 = .ok (.iload_n 2, 1) := by decide +kernel
theorem d_Md_firstFull_15 : decode b_Md_firstFull 15 = .ok (.baload, 1) := by decide +kernel
theorem d_Md_firstFull_16 : decode b_Md_firstFull 16 = .ok (.ifCond .eq (14), 3) := by decide +kernel
theorem d_Md_firstFull_19 : decode b_Md_firstFull 19 = .ok (.aload_n 0, 1) := by decide +kernel
theorem d_Md_firstFull_20 : decode b_Md_firstFull 20 = .ok (.getfield 32, 3) := by decide +kernel
theorem d_Md_firstFull_23 : decode b_Md_firstFull 23 = .ok (.iload_n 2, 1) := by decide +kernel
theorem d_Md_firstFull_24 : decode b_Md_firstFull 24 = .ok (.baload, 1) := by decide +kernel
theorem d_Md_firstFull_25 : decode b_Md_firstFull 25 = .ok (.ifCond .eq (5), 3) := by decide +kernel
theorem d_Md_firstFull_28 : decode b_Md_firstFull 28 = .ok (.iload_n 2, 1) := by decide +kernel
theorem d_Md_firstFull_29 : decode b_Md_firstFull 29 = .ok (.ireturn, 1) := by decide +kernel
theorem d_Md_firstFull_30 : decode b_Md_firstFull 30 = .ok (.iinc 2 (1), 3) := by decide +kernel
theorem d_Md_firstFull_33 : decode b_Md_firstFull 33 = .ok (.goto (-31), 3) := by decide +kernel
theorem d_Md_firstFull_36 : decode b_Md_firstFull 36 = .ok (.aload_n 0, 1) := by decide +kernel
theorem d_Md_firstFull_37 : decode b_Md_firstFull 37 = .ok (.getfield 100, 3) := by decide +kernel
theorem d_Md_firstFull_40 : decode b_Md_firstFull 40 = .ok (.iconst 1, 1) := by decide +kernel
theorem d_Md_firstFull_41 : decode b_Md_firstFull 41 = .ok (.iadd, 1) := by decide +kernel
theorem d_Md_firstFull_42 : decode b_Md_firstFull 42 = .ok (.ireturn, 1) := by decide +kernel
theorem d_Md_crash_0 : decode b_Md_crash 0 = .ok (.iload_n 1, 1) := by decide +kernel
theorem d_Md_crash_1 : decode b_Md_crash 1 = .ok (.iconst (-1), 1) := by decide +kernel
theorem d_Md_crash_2 : decode b_Md_crash 2 = .ok (.if_icmp .lt (9), 3) := by decide +kernel
theorem d_Md_crash_5 : decode b_Md_crash 5 = .ok (.iload_n 1, 1) := by decide +kernel
theorem d_Md_crash_6 : decode b_Md_crash 6 = .ok (.bipush (7), 2) := by decide +kernel
theorem d_Md_crash_8 : decode b_Md_crash 8 = .ok (.if_icmp .le (5), 3) := by decide +kernel
theorem d_Md_crash_11 : decode b_Md_crash 11 = .ok (.iconst (-1), 1) := by decide +kernel
theorem d_Md_crash_12 : decode b_Md_crash 12 = .ok (.ireturn, 1) := by decide +kernel
theorem d_Md_crash_13 : decode b_Md_crash 13 = .ok (.iload_n 1, 1) := by decide +kernel
theorem d_Md_crash_14 : decode b_Md_crash 14 = .ok (.ifCond .lt (10), 3) := by decide +kernel
theorem d_Md_crash_17 : decode b_Md_crash 17 = .ok (.aload_n 0, 1) := by decide +kernel
theorem d_Md_crash_18 : decode b_Md_crash 18 = .ok (.getfield 26, 3) := by decide +kernel
theorem d_Md_crash_21 : decode b_Md_crash 21 = .ok (.iload_n 1, 1) := by decide +kernel
theorem d_Md_crash_22 : decode b_Md_crash 22 = .ok (.iconst 0, 1) := by decide +kernel
theorem d_Md_crash_23 : decode b_Md_crash 23 = .ok (.bastore, 1) := by decide +kernel
theorem d_Md_crash_24 : decode b_Md_crash 24 = .ok (.aload_n 0, 1) := by decide +kernel
theorem d_Md_crash_25 : decode b_Md_crash 25 = .ok (.invokevirtual 122, 3) := by decide +kernel
theorem d_Md_crash_28 : decode b_Md_crash 28 = .ok (.ireturn, 1) := by decide +kernel
theorem d_Md_recover_0 : decode b_Md_recover 0 = .ok (.aload_n 0, 1) := by decide +kernel
theorem d_Md_recover_1 : decode b_Md_recover 1 = .ok (.bipush (-2), 2) := by decide +kernel
theorem d_Md_recover_3 : decode b_Md_recover 3 = .ok (.putfield 44, 3) := by decide +kernel
theorem d_Md_recover_6 : decode b_Md_recover 6 = .ok (.iconst 0, 1) := by decide +kernel
theorem d_Md_recover_7 : decode b_Md_recover 7 = .ok (.istore_n 1, 1) := by decide +kernel
theorem d_Md_recover_8 : decode b_Md_recover 8 = .ok (.iconst 0, 1) := by decide +kernel
theorem d_Md_recover_9 : decode b_Md_recover 9 = .ok (.istore_n 2, 1) := by decide +kernel
theorem d_Md_recover_10 : decode b_Md_recover 10 = .ok (.iload_n 2, 1) := by decide +kernel
theorem d_Md_recover_11 : decode b_Md_recover 11 = .ok (.bipush (8), 2) := by decide +kernel
theorem d_Md_recover_13 : decode b_Md_recover 13 = .ok (.if_icmp .ge (26), 3) := by decide +kernel
theorem d_Md_recover_16 : decode b_Md_recover 16 = .ok (.iload_n 1, 1) := by decide +kernel
theorem d_Md_recover_17 : decode b_Md_recover 17 = .ok (.aload_n 0, 1) := by decide +kernel
theorem d_Md_recover_18 : decode b_Md_recover 18 = .ok (.iload_n 2, 1) := by decide +kernel
theorem d_Md_recover_19 : decode b_Md_recover 19 = .ok (.aload_n 0, 1) := by decide +kernel
theorem d_Md_recover_20 : decode b_Md_recover 20 = .ok (.iload_n 2, 1) := by decide +kernel
theorem d_Md_recover_21 : decode b_Md_recover 21 = .ok (.invokevirtual 115, 3) := by decide +kernel
theorem d_Md_recover_24 : decode b_Md_recover 24 = .ok (.aload_n 0, 1) := by decide +kernel
theorem d_Md_recover_25 : decode b_Md_recover 25 = .ok (.getfield 57, 3) := by decide +kernel
theorem d_Md_recover_28 : decode b_Md_recover 28 = .ok (.invokevirtual 118, 3) := by decide +kernel
theorem d_Md_recover_31 : decode b_Md_recover 31 = .ok (.iadd, 1) := by decide +kernel
theorem d_Md_recover_32 : decode b_Md_recover 32 = .ok (.istore_n 1, 1) := by decide +kernel
theorem d_Md_recover_33 : decode b_Md_recover 33 = .ok (.iinc 2 (1), 3) := by decide +kernel
theorem d_Md_recover_36 : decode b_Md_recover 36 = .ok (.goto (-26), 3) := by decide +kernel
theorem d_Md_recover_39 : decode b_Md_recover 39 = .ok (.aload_n 0, 1) := by decide +kernel
theorem d_Md_recover_40 : decode b_Md_recover 40 = .ok (.getfield 76, 3) := by decide +kernel
theorem d_Md_recover_43 : decode b_Md_recover 43 = .ok (.ifCond .eq (7), 3) := by decide +kernel
theorem d_Md_recover_46 : decode b_Md_recover 46 = .ok (.aload_n 0, 1) := by decide +kernel
theorem d_Md_recover_47 : decode b_Md_recover 47 = .ok (.invokevirtual 91, 3) := by decide +kernel
theorem d_Md_recover_50 : decode b_Md_recover 50 = .ok (.iload_n 1, 1) := by decide +kernel
theorem d_Md_recover_51 : decode b_Md_recover 51 = .ok (.ireturn, 1) := by decide +kernel
theorem d_Md_best_0 : decode b_Md_best 0 = .ok (.aload_n 0, 1) := by decide +kernel
theorem d_Md_best_1 : decode b_Md_best 1 = .ok (.getfield 26, 3) := by decide +kernel
theorem d_Md_best_4 : decode b_Md_best 4 = .ok (.iload_n 1, 1) := by decide +kernel
theorem d_Md_best_5 : decode b_Md_best 5 = .ok (.baload, 1) := by decide +kernel
theorem d_Md_best_6 : decode b_Md_best 6 = .ok (.ifCond .eq (12), 3) := by decide +kernel
theorem d_Md_best_9 : decode b_Md_best 9 = .ok (.aload_n 0, 1) := by decide +kernel
theorem d_Md_best_10 : decode b_Md_best 10 = .ok (.getfield 23, 3) := by decide +kernel
theorem d_Md_best_13 : decode b_Md_best 13 = .ok (.iload_n 1, 1) := by decide +kernel
theorem d_Md_best_14 : decode b_Md_best 14 = .ok (.iaload, 1) := by decide +kernel
theorem d_Md_best_15 : decode b_Md_best 15 = .ok (.goto (4), 3) := by decide +kernel
theorem d_Md_best_18 : decode b_Md_best 18 = .ok (.iconst 0, 1) := by decide +kernel
theorem d_Md_best_19 : decode b_Md_best 19 = .ok (.istore_n 2, 1) := by decide +kernel
theorem d_Md_best_20 : decode b_Md_best 20 = .ok (.iconst 1, 1) := by decide +kernel
theorem d_Md_best_21 : decode b_Md_best 21 = .ok (.istore_n 3, 1) := by decide +kernel
theorem d_Md_best_22 : decode b_Md_best 22 = .ok (.iload_n 3, 1) := by decide +kernel
theorem d_Md_best_23 : decode b_Md_best 23 = .ok (.aload_n 0, 1) := by decide +kernel
theorem d_Md_best_24 : decode b_Md_best 24 = .ok (.getfield 100, 3) := by decide +kernel
theorem d_Md_best_27 : decode b_Md_best 27 = .ok (.if_icmp .gt (45), 3) := by decide +kernel
theorem d_Md_best_30 : decode b_Md_best 30 = .ok (.aload_n 0, 1) := by decide +kernel
theorem d_Md_best_31 : decode b_Md_best 31 = .ok (.getfield 29, 3) := by decide +kernel
theorem d_Md_best_34 : decode b_Md_best 34 = .ok (.iload_n 3, 1) := by decide +kernel
theorem d_Md_best_35 : decode b_Md_best 35 = .ok (.baload, 1) := by decide +kernel
theorem d_Md_best_36 : decode b_Md_best 36 = .ok (.ifCond .eq (30), 3) := by decide +kernel
theorem d_Md_best_39 : decode b_Md_best 39 = .ok (.aload_n 0, 1) := by decide +kernel
theorem d_Md_best_40 : decode b_Md_best 40 = .ok (.getfield 41, 3) := by decide +kernel
theorem d_Md_best_43 : decode b_Md_best 43 = .ok (.iload_n 3, 1) := by decide +kernel
theorem d_Md_best_44 : decode b_Md_best 44 = .ok (.bipush (8), 2) := by decide +kernel
theorem d_Md_best_46 : decode b_Md_best 46 = .ok (.imul, 1) := by decide +kernel
theorem d_Md_best_47 : decode b_Md_best 47 = .ok (.iload_n 1, 1) := by decide +kernel
theorem d_Md_best_48 : decode b_Md_best 48 = .ok (.iadd, 1) := by decide +kernel
theorem d_Md_best_49 : decode b_Md_best 49 = .ok (.iaload, 1) := by decide +kernel
theorem d_Md_best_50 : decode b_Md_best 50 = .ok (.iload_n 2, 1) := by decide +kernel
theorem d_Md_best_51 : decode b_Md_best 51 = .ok (.if_icmp .le (15), 3) := by decide +kernel
theorem d_Md_best_54 : decode b_Md_best 54 = .ok (.aload_n 0, 1) := by decide +kernel
theorem d_Md_best_55 : decode b_Md_best 55 = .ok (.getfield 41, 3) := by decide +kernel
theorem d_Md_best_58 : decode b_Md_best 58 = .ok (.iload_n 3, 1) := by decide +kernel
theorem d_Md_best_59 : decode b_Md_best 59 = .ok (.bipush (8), 2) := by decide +kernel
theorem d_Md_best_61 : decode b_Md_best 61 = .ok (.imul, 1) := by decide +kernel
theorem d_Md_best_62 : decode b_Md_best 62 = .ok (.iload_n 1, 1) := by decide +kernel
theorem d_Md_best_63 : decode b_Md_best 63 = .ok (.iadd, 1) := by decide +kernel
theorem d_Md_best_64 : decode b_Md_best 64 = .ok (.iaload, 1) := by decide +kernel
theorem d_Md_best_65 : decode b_Md_best 65 = .ok (.istore_n 2, 1) := by decide +kernel
theorem d_Md_best_66 : decode b_Md_best 66 = .ok (.iinc 3 (1), 3) := by decide +kernel
theorem d_Md_best_69 : decode b_Md_best 69 = .ok (.goto (-47), 3) := by decide +kernel
theorem d_Md_best_72 : decode b_Md_best 72 = .ok (.iload_n 2, 1) := by decide +kernel
theorem d_Md_best_73 : decode b_Md_best 73 = .ok (.ireturn, 1) := by decide +kernel
theorem d_Md_changesOn_0 : decode b_Md_changesOn 0 = .ok (.iconst 0, 1) := by decide +kernel
theorem d_Md_changesOn_1 : decode b_Md_changesOn 1 = .ok (.istore 4, 2) := by decide +kernel
theorem d_Md_changesOn_3 : decode b_Md_changesOn 3 = .ok (.iload_n 2, 1) := by decide +kernel
theorem d_Md_changesOn_4 : decode b_Md_changesOn 4 = .ok (.iconst 1, 1) := by decide +kernel
theorem d_Md_changesOn_5 : decode b_Md_changesOn 5 = .ok (.iadd, 1) := by decide +kernel
theorem d_Md_changesOn_6 : decode b_Md_changesOn 6 = .ok (.istore 5, 2) := by decide +kernel
theorem d_Md_changesOn_8 : decode b_Md_changesOn 8 = .ok (.iload 5, 2) := by decide +kernel
theorem d_Md_changesOn_10 : decode b_Md_changesOn 10 = .ok (.iload_n 3, 1) := by decide +kernel
theorem d_Md_changesOn_11 : decode b_Md_changesOn 11 = .ok (.if_icmp .gt (35), 3) := by decide +kernel
theorem d_Md_changesOn_14 : decode b_Md_changesOn 14 = .ok (.aload_n 0, 1) := by decide +kernel
theorem d_Md_changesOn_15 : decode b_Md_changesOn 15 = .ok (.getfield 7, 3) := by decide +kernel
theorem d_Md_changesOn_18 : decode b_Md_changesOn 18 = .ok (.iload 5, 2) := by decide +kernel
theorem d_Md_changesOn_20 : decode b_Md_changesOn 20 = .ok (.iaload, 1) := by decide +kernel
theorem d_Md_changesOn_21 : decode b_Md_changesOn 21 = .ok (.ifCond .lt (19), 3) := by decide +kernel
theorem d_Md_changesOn_24 : decode b_Md_changesOn 24 = .ok (.aload_n 0, 1) := by decide +kernel
theorem d_Md_changesOn_25 : decode b_Md_changesOn 25 = .ok (.getfield 7, 3) := by decide +kernel
theorem d_Md_changesOn_28 : decode b_Md_changesOn 28 = .ok (.iload 5, 2) := by decide +kernel
theorem d_Md_changesOn_30 : decode b_Md_changesOn 30 = .ok (.iaload, 1) := by decide +kernel
theorem d_Md_changesOn_31 : decode b_Md_changesOn 31 = .ok (.iconst 4, 1) := by decide +kernel
theorem d_Md_changesOn_32 : decode b_Md_changesOn 32 = .ok (.idiv, 1) := by decide +kernel
theorem d_Md_changesOn_33 : decode b_Md_changesOn 33 = .ok (.iload_n 1, 1) := by decide +kernel
theorem d_Md_changesOn_34 : decode b_Md_changesOn 34 = .ok (.if_icmp .ne (6), 3) := by decide +kernel
theorem d_Md_changesOn_37 : decode b_Md_changesOn 37 = .ok (.iinc 4 (1), 3) := by decide +kernel
theorem d_Md_changesOn_40 : decode b_Md_changesOn 40 = .ok (.iinc 5 (1), 3) := by decide +kernel
theorem d_Md_changesOn_43 : decode b_Md_changesOn 43 = .ok (.goto (-35), 3) := by decide +kernel
theorem d_Md_changesOn_46 : decode b_Md_changesOn 46 = .ok (.iload 4, 2) := by decide +kernel
theorem d_Md_changesOn_48 : decode b_Md_changesOn 48 = .ok (.ireturn, 1) := by decide +kernel
theorem d_Md_lose_0 : decode b_Md_lose 0 = .ok (.iconst 0, 1) := by decide +kernel
theorem d_Md_lose_1 : decode b_Md_lose 1 = .ok (.istore_n 1, 1) := by decide +kernel
theorem d_Md_lose_2 : decode b_Md_lose 2 = .ok (.iload_n 1, 1) := by decide +kernel
theorem d_Md_lose_3 : decode b_Md_lose 3 = .ok (.bipush (8), 2) := by decide +kernel
theorem d_Md_lose_5 : decode b_Md_lose 5 = .ok (.if_icmp .ge (16), 3) := by decide +kernel
theorem d_Md_lose_8 : decode b_Md_lose 8 = .ok (.aload_n 0, 1) := by decide +kernel
theorem d_Md_lose_9 : decode b_Md_lose 9 = .ok (.getfield 26, 3) := by decide +kernel
theorem d_Md_lose_12 : decode b_Md_lose 12 = .ok (.iload_n 1, 1) := by decide +kernel
theorem d_Md_lose_13 : decode b_Md_lose 13 = .ok (.iconst 0, 1) := by decide +kernel
theorem d_Md_lose_14 : decode b_Md_lose 14 = .ok (.bastore, 1) := by decide +kernel
theorem d_Md_lose_15 : decode b_Md_lose 15 = .ok (.iinc 1 (1), 3) := by decide +kernel
theorem d_Md_lose_18 : decode b_Md_lose 18 = .ok (.goto (-16), 3) := by decide +kernel
theorem d_Md_lose_21 : decode b_Md_lose 21 = .ok (.aload_n 0, 1) := by decide +kernel
theorem d_Md_lose_22 : decode b_Md_lose 22 = .ok (.invokevirtual 122, 3) := by decide +kernel
theorem d_Md_lose_25 : decode b_Md_lose 25 = .ok (.ireturn, 1) := by decide +kernel
theorem d_Md_restore_0 : decode b_Md_restore 0 = .ok (.iload_n 1, 1) := by decide +kernel
theorem d_Md_restore_1 : decode b_Md_restore 1 = .ok (.iconst 1, 1) := by decide +kernel
theorem d_Md_restore_2 : decode b_Md_restore 2 = .ok (.if_icmp .lt (11), 3) := by decide +kernel
theorem d_Md_restore_5 : decode b_Md_restore 5 = .ok (.iload_n 1, 1) := by decide +kernel
theorem d_Md_restore_6 : decode b_Md_restore 6 = .ok (.aload_n 0, 1) := by decide +kernel
theorem d_Md_restore_7 : decode b_Md_restore 7 = .ok (.invokevirtual 88, 3) := by decide +kernel
theorem d_Md_restore_10 : decode b_Md_restore 10 = .ok (.if_icmp .le (5), 3) := by decide +kernel
theorem d_Md_restore_13 : decode b_Md_restore 13 = .ok (.iconst (-1), 1) := by decide +kernel
theorem d_Md_restore_14 : decode b_Md_restore 14 = .ok (.ireturn, 1) := by decide +kernel
theorem d_Md_restore_15 : decode b_Md_restore 15 = .ok (.aload_n 0, 1) := by decide +kernel
theorem d_Md_restore_16 : decode b_Md_restore 16 = .ok (.iload_n 1, 1) := by decide +kernel
theorem d_Md_restore_17 : decode b_Md_restore 17 = .ok (.invokevirtual 125, 3) := by decide +kernel
theorem d_Md_restore_20 : decode b_Md_restore 20 = .ok (.istore_n 2, 1) := by decide +kernel
theorem d_Md_restore_21 : decode b_Md_restore 21 = .ok (.iconst 0, 1) := by decide +kernel
theorem d_Md_restore_22 : decode b_Md_restore 22 = .ok (.istore_n 3, 1) := by decide +kernel
theorem d_Md_restore_23 : decode b_Md_restore 23 = .ok (.iconst 1, 1) := by decide +kernel
theorem d_Md_restore_24 : decode b_Md_restore 24 = .ok (.istore 4, 2) := by decide +kernel
theorem d_Md_restore_26 : decode b_Md_restore 26 = .ok (.iload 4, 2) := by decide +kernel
theorem d_Md_restore_28 : decode b_Md_restore 28 = .ok (.aload_n 0, 1) := by decide +kernel
theorem d_Md_restore_29 : decode b_Md_restore 29 = .ok (.getfield 100, 3) := by decide +kernel
theorem d_Md_restore_32 : decode b_Md_restore 32 = .ok (.if_icmp .gt (33), 3) := by decide +kernel
theorem d_Md_restore_35 : decode b_Md_restore 35 = .ok (.aload_n 0, 1) := by decide +kernel
theorem d_Md_restore_36 : decode b_Md_restore 36 = .ok (.getfield 29, 3) := by decide +kernel
theorem d_Md_restore_39 : decode b_Md_restore 39 = .ok (.iload 4, 2) := by decide +kernel
theorem d_Md_restore_41 : decode b_Md_restore 41 = .ok (.baload, 1) := by decide +kernel
theorem d_Md_restore_42 : decode b_Md_restore 42 = .ok (.ifCond .eq (17), 3) := by decide +kernel
theorem d_Md_restore_45 : decode b_Md_restore 45 = .ok (.aload_n 0, 1) := by decide +kernel
theorem d_Md_restore_46 : decode b_Md_restore 46 = .ok (.getfield 38, 3) := by decide +kernel
theorem d_Md_restore_49 : decode b_Md_restore 49 = .ok (.iload 4, 2) := by decide +kernel
theorem d_Md_restore_51 : decode b_Md_restore 51 = .ok (.iaload, 1) := by decide +kernel
theorem d_Md_restore_52 : decode b_Md_restore 52 = .ok (.iload_n 2, 1) := by decide +kernel
theorem d_Md_restore_53 : decode b_Md_restore 53 = .ok (.if_icmp .ge (6), 3) := by decide +kernel
theorem d_Md_restore_56 : decode b_Md_restore 56 = .ok (.iload 4, 2) := by decide +kernel
theorem d_Md_restore_58 : decode b_Md_restore 58 = .ok (.istore_n 3, 1) := by decide +kernel
theorem d_Md_restore_59 : decode b_Md_restore 59 = .ok (.iinc 4 (1), 3) := by decide +kernel
theorem d_Md_restore_62 : decode b_Md_restore 62 = .ok (.goto (-36), 3) := by decide +kernel
theorem d_Md_restore_65 : decode b_Md_restore 65 = .ok (.iload_n 3, 1) := by decide +kernel
theorem d_Md_restore_66 : decode b_Md_restore 66 = .ok (.ifCond .ne (13), 3) := by decide +kernel
theorem d_Md_restore_69 : decode b_Md_restore 69 = .ok (.aload_n 0, 1) := by decide +kernel
theorem d_Md_restore_70 : decode b_Md_restore 70 = .ok (.getfield 109, 3) := by decide +kernel
theorem d_Md_restore_73 : decode b_Md_restore 73 = .ok (.ifCond .le (6), 3) := by decide +kernel
theorem d_Md_restore_76 : decode b_Md_restore 76 = .ok (.bipush (-3), 2) := by decide +kernel
theorem d_Md_restore_78 : decode b_Md_restore 78 = .ok (.ireturn, 1) := by decide +kernel
theorem d_Md_restore_79 : decode b_Md_restore 79 = .ok (.iconst 0, 1) := by decide +kernel
theorem d_Md_restore_80 : decode b_Md_restore 80 = .ok (.istore 4, 2) := by decide +kernel
theorem d_Md_restore_82 : decode b_Md_restore 82 = .ok (.iconst 0, 1) := by decide +kernel
theorem d_Md_restore_83 : decode b_Md_restore 83 = .ok (.istore 5, 2) := by decide +kernel
theorem d_Md_restore_85 : decode b_Md_restore 85 = .ok (.iload 5, 2) := by decide +kernel
theorem d_Md_restore_87 : decode b_Md_restore 87 = .ok (.bipush (8), 2) := by decide +kernel
theorem d_Md_restore_89 : decode b_Md_restore 89 = .ok (.if_icmp .ge (91), 3) := by decide +kernel
theorem d_Md_restore_92 : decode b_Md_restore 92 = .ok (.iconst 0, 1) := by decide +kernel
theorem d_Md_restore_93 : decode b_Md_restore 93 = .ok (.istore 6, 2) := by decide +kernel
theorem d_Md_restore_95 : decode b_Md_restore 95 = .ok (.iload_n 3, 1) := by decide +kernel
theorem d_Md_restore_96 : decode b_Md_restore 96 = .ok (.ifCond .ne (7), 3) := by decide +kernel
theorem d_Md_restore_99 : decode b_Md_restore 99 = .ok (.iconst 1, 1) := by decide +kernel
theorem d_Md_restore_100 : decode b_Md_restore 100 = .ok (.goto (4), 3) := by decide +kernel
theorem d_Md_restore_103 : decode b_Md_restore 103 = .ok (.iconst 0, 1) := by decide +kernel
theorem d_Md_restore_104 : decode b_Md_restore 104 = .ok (.istore 7, 2) := by decide +kernel
theorem d_Md_restore_106 : decode b_Md_restore 106 = .ok (.iload_n 3, 1) := by decide +kernel
theorem d_Md_restore_107 : decode b_Md_restore 107 = .ok (.istore 8, 2) := by decide +kernel
theorem d_Md_restore_109 : decode b_Md_restore 109 = .ok (.iload 8, 2) := by decide +kernel
theorem d_Md_restore_111 : decode b_Md_restore 111 = .ok (.iconst 1, 1) := by decide +kernel
theorem d_Md_restore_112 : decode b_Md_restore 112 = .ok (.if_icmp .lt (48), 3) := by decide +kernel
theorem d_Md_restore_115 : decode b_Md_restore 115 = .ok (.iload 7, 2) := by decide +kernel
theorem d_Md_restore_117 : decode b_Md_restore 117 = .ok (.ifCond .ne (43), 3) := by decide +kernel
theorem d_Md_restore_120 : decode b_Md_restore 120 = .ok (.aload_n 0, 1) := by decide +kernel
theorem d_Md_restore_121 : decode b_Md_restore 121 = .ok (.getfield 41, 3) := by decide +kernel
theorem d_Md_restore_124 : decode b_Md_restore 124 = .ok (.iload 8, 2) := by decide +kernel
theorem d_Md_restore_126 : decode b_Md_restore 126 = .ok (.bipush (8), 2) := by decide +kernel
theorem d_Md_restore_128 : decode b_Md_restore 128 = .ok (.imul, 1) := by decide +kernel
theorem d_Md_restore_129 : decode b_Md_restore 129 = .ok (.iload 5, 2) := by decide +kernel
theorem d_Md_restore_131 : decode b_Md_restore 131 = .ok (.iadd, 1) := by decide +kernel
theorem d_Md_restore_132 : decode b_Md_restore 132 = .ok (.iaload, 1) := by decide +kernel
theorem d_Md_restore_133 : decode b_Md_restore 133 = .ok (.ifCond .lt (21), 3) := by decide +kernel
theorem d_Md_restore_136 : decode b_Md_restore 136 = .ok (.aload_n 0, 1) := by decide +kernel
theorem d_Md_restore_137 : decode b_Md_restore 137 = .ok (.getfield 41, 3) := by decide +kernel
theorem d_Md_restore_140 : decode b_Md_restore 140 = .ok (.iload 8, 2) := by decide +kernel
theorem d_Md_restore_142 : decode b_Md_restore 142 = .ok (.bipush (8), 2) := by decide +kernel
theorem d_Md_restore_144 : decode b_Md_restore 144 = .ok (.imul, 1) := by decide +kernel
theorem d_Md_restore_145 : decode b_Md_restore 145 = .ok (.iload 5, 2) := by decide +kernel
theorem d_Md_restore_147 : decode b_Md_restore 147 = .ok (.iadd, 1) := by decide +kernel
theorem d_Md_restore_148 : decode b_Md_restore 148 = .ok (.iaload, 1) := by decide +kernel
theorem d_Md_restore_149 : decode b_Md_restore 149 = .ok (.istore 6, 2) := by decide +kernel
theorem d_Md_restore_151 : decode b_Md_restore 151 = .ok (.iconst 1, 1) := by decide +kernel
theorem d_Md_restore_152 : decode b_Md_restore 152 = .ok (.istore 7, 2) := by decide +kernel
theorem d_Md_restore_154 : decode b_Md_restore 154 = .ok (.iinc 8 (-1), 3) := by decide +kernel
theorem d_Md_restore_157 : decode b_Md_restore 157 = .ok (.goto (-48), 3) := by decide +kernel
theorem d_Md_restore_160 : decode b_Md_restore 160 = .ok (.iload 4, 2) := by decide +kernel
theorem d_Md_restore_162 : decode b_Md_restore 162 = .ok (.aload_n 0, 1) := by decide +kernel
theorem d_Md_restore_163 : decode b_Md_restore 163 = .ok (.iload 5, 2) := by decide +kernel
theorem d_Md_restore_165 : decode b_Md_restore 165 = .ok (.iload 6, 2) := by decide +kernel
theorem d_Md_restore_167 : decode b_Md_restore 167 = .ok (.iload_n 2, 1) := by decide +kernel
theorem d_Md_restore_168 : decode b_Md_restore 168 = .ok (.invokevirtual 118, 3) := by decide +kernel
theorem d_Md_restore_171 : decode b_Md_restore 171 = .ok (.iadd, 1) := by decide +kernel
theorem d_Md_restore_172 : decode b_Md_restore 172 = .ok (.istore 4, 2) := by decide +kernel
theorem d_Md_restore_174 : decode b_Md_restore 174 = .ok (.iinc 5 (1), 3) := by decide +kernel
theorem d_Md_restore_177 : decode b_Md_restore 177 = .ok (.goto (-92), 3) := by decide +kernel
theorem d_Md_restore_180 : decode b_Md_restore 180 = .ok (.aload_n 0, 1) := by decide +kernel
theorem d_Md_restore_181 : decode b_Md_restore 181 = .ok (.iload_n 2, 1) := by decide +kernel
theorem d_Md_restore_182 : decode b_Md_restore 182 = .ok (.putfield 48, 3) := by decide +kernel
theorem d_Md_restore_185 : decode b_Md_restore 185 = .ok (.iload 4, 2) := by decide +kernel
theorem d_Md_restore_187 : decode b_Md_restore 187 = .ok (.ireturn, 1) := by decide +kernel
theorem d_Md_commitRecord_0 : decode b_Md_commitRecord 0 = .ok (.iconst 0, 1) := by decide +kernel
theorem d_Md_commitRecord_1 : decode b_Md_commitRecord 1 = .ok (.istore_n 2, 1) := by decide +kernel
theorem d_Md_commitRecord_2 : decode b_Md_commitRecord 2 = .ok (.iconst 1, 1) := by decide +kernel
theorem d_Md_commitRecord_3 : decode b_Md_commitRecord 3 = .ok (.istore_n 3, 1) := by decide +kernel
theorem d_Md_commitRecord_4 : decode b_Md_commitRecord 4 = .ok (.iload_n 3, 1) := by decide +kernel
theorem d_Md_commitRecord_5 : decode b_Md_commitRecord 5 = .ok (.aload_n 0, 1) := by decide +kernel
theorem d_Md_commitRecord_6 : decode b_Md_commitRecord 6 = .ok (.getfield 57, 3) := by decide +kernel
theorem d_Md_commitRecord_9 : decode b_Md_commitRecord 9 = .ok (.if_icmp .gt (29), 3) := by decide +kernel
theorem d_Md_commitRecord_12 : decode b_Md_commitRecord 12 = .ok (.aload_n 0, 1) := by decide +kernel
theorem d_Md_commitRecord_13 : decode b_Md_commitRecord 13 = .ok (.getfield 7, 3) := by decide +kernel
theorem d_Md_commitRecord_16 : decode b_Md_commitRecord 16 = .ok (.iload_n 3, 1) := by decide +kernel
theorem d_Md_commitRecord_17 : decode b_Md_commitRecord 17 = .ok (.iaload, 1) := by decide +kernel
theorem d_Md_commitRecord_18 : decode b_Md_commitRecord 18 = .ok (.iconst (-1), 1) := by decide +kernel
theorem d_Md_commitRecord_19 : decode b_Md_commitRecord 19 = .ok (.if_icmp .ne (6), 3) := by decide +kernel
theorem d_Md_commitRecord_22 : decode b_Md_commitRecord 22 = .ok (.iinc 2 (1), 3) := by decide +kernel
theorem d_Md_commitRecord_25 : decode b_Md_commitRecord 25 = .ok (.iload_n 2, 1) := by decide +kernel
theorem d_Md_commitRecord_26 : decode b_Md_commitRecord 26 = .ok (.iload_n 1, 1) := by decide +kernel
theorem d_Md_commitRecord_27 : decode b_Md_commitRecord 27 = .ok (.if_icmp .ne (5), 3) := by decide +kernel
theorem d_Md_commitRecord_30 : decode b_Md_commitRecord 30 = .ok (.iload_n 3, 1) := by decide +kernel
theorem d_Md_commitRecord_31 : decode b_Md_commitRecord 31 = .ok (.ireturn, 1) := by decide +kernel
theorem d_Md_commitRecord_32 : decode b_Md_commitRecord 32 = .ok (.iinc 3 (1), 3) := by decide +kernel
theorem d_Md_commitRecord_35 : decode b_Md_commitRecord 35 = .ok (.goto (-31), 3) := by decide +kernel
theorem d_Md_commitRecord_38 : decode b_Md_commitRecord 38 = .ok (.iconst 0, 1) := by decide +kernel
theorem d_Md_commitRecord_39 : decode b_Md_commitRecord 39 = .ok (.ireturn, 1) := by decide +kernel
theorem d_Md_look_0 : decode b_Md_look 0 = .ok (.iload_n 1, 1) := by decide +kernel
theorem d_Md_look_1 : decode b_Md_look 1 = .ok (.bipush (32), 2) := by decide +kernel
theorem d_Md_look_3 : decode b_Md_look 3 = .ok (.invokestatic 80, 3) := by decide +kernel
theorem d_Md_look_6 : decode b_Md_look 6 = .ok (.ifCond .eq (22), 3) := by decide +kernel
theorem d_Md_look_9 : decode b_Md_look 9 = .ok (.aload_n 0, 1) := by decide +kernel
theorem d_Md_look_10 : decode b_Md_look 10 = .ok (.getfield 48, 3) := by decide +kernel
theorem d_Md_look_13 : decode b_Md_look 13 = .ok (.ifCond .lt (15), 3) := by decide +kernel
theorem d_Md_look_16 : decode b_Md_look 16 = .ok (.aload_n 0, 1) := by decide +kernel
theorem d_Md_look_17 : decode b_Md_look 17 = .ok (.aload_n 0, 1) := by decide +kernel
theorem d_Md_look_18 : decode b_Md_look 18 = .ok (.getfield 48, 3) := by decide +kernel
theorem d_Md_look_21 : decode b_Md_look 21 = .ok (.iload_n 1, 1) := by decide +kernel
theorem d_Md_look_22 : decode b_Md_look 22 = .ok (.invokevirtual 68, 3) := by decide +kernel
theorem d_Md_look_25 : decode b_Md_look 25 = .ok (.goto (6), 3) := by decide +kernel
theorem d_Md_look_28 : decode b_Md_look 28 = .ok (.ldc2_w 94, 3) := by decide +kernel
theorem d_Md_look_31 : decode b_Md_look 31 = .ok (.lreturn, 1) := by decide +kernel
theorem d_Md_page_0 : decode b_Md_page 0 = .ok (.iload_n 1, 1) := by decide +kernel
theorem d_Md_page_1 : decode b_Md_page 1 = .ok (.bipush (8), 2) := by decide +kernel
theorem d_Md_page_3 : decode b_Md_page 3 = .ok (.invokestatic 80, 3) := by decide +kernel
theorem d_Md_page_6 : decode b_Md_page 6 = .ok (.ifCond .eq (11), 3) := by decide +kernel
theorem d_Md_page_9 : decode b_Md_page 9 = .ok (.iload_n 2, 1) := by decide +kernel
theorem d_Md_page_10 : decode b_Md_page 10 = .ok (.iconst 4, 1) := by decide +kernel
theorem d_Md_page_11 : decode b_Md_page 11 = .ok (.invokestatic 80, 3) := by decide +kernel
theorem d_Md_page_14 : decode b_Md_page 14 = .ok (.ifCond .ne (5), 3) := by decide +kernel
theorem d_Md_page_17 : decode b_Md_page 17 = .ok (.iconst (-1), 1) := by decide +kernel
theorem d_Md_page_18 : decode b_Md_page 18 = .ok (.ireturn, 1) := by decide +kernel
theorem d_Md_page_19 : decode b_Md_page 19 = .ok (.iload_n 2, 1) := by decide +kernel
theorem d_Md_page_20 : decode b_Md_page 20 = .ok (.ifCond .ne (9), 3) := by decide +kernel
theorem d_Md_page_23 : decode b_Md_page 23 = .ok (.aload_n 0, 1) := by decide +kernel
theorem d_Md_page_24 : decode b_Md_page 24 = .ok (.iload_n 1, 1) := by decide +kernel
theorem d_Md_page_25 : decode b_Md_page 25 = .ok (.invokevirtual 96, 3) := by decide +kernel
theorem d_Md_page_28 : decode b_Md_page 28 = .ok (.ireturn, 1) := by decide +kernel
theorem d_Md_page_29 : decode b_Md_page 29 = .ok (.iload_n 2, 1) := by decide +kernel
theorem d_Md_page_30 : decode b_Md_page 30 = .ok (.iconst 1, 1) := by decide +kernel
theorem d_Md_page_31 : decode b_Md_page 31 = .ok (.if_icmp .ne (10), 3) := by decide +kernel
theorem d_Md_page_34 : decode b_Md_page 34 = .ok (.aload_n 0, 1) := by decide +kernel
theorem d_Md_page_35 : decode b_Md_page 35 = .ok (.getfield 23, 3) := by decide +kernel
theorem d_Md_page_38 : decode b_Md_page 38 = .ok (.iload_n 1, 1) := by decide +kernel
theorem d_Md_page_39 : decode b_Md_page 39 = .ok (.iaload, 1) := by decide +kernel
theorem d_Md_page_40 : decode b_Md_page 40 = .ok (.ireturn, 1) := by decide +kernel
theorem d_Md_page_41 : decode b_Md_page 41 = .ok (.iload_n 2, 1) := by decide +kernel
theorem d_Md_page_42 : decode b_Md_page 42 = .ok (.iconst 2, 1) := by decide +kernel
theorem d_Md_page_43 : decode b_Md_page 43 = .ok (.if_icmp .ne (18), 3) := by decide +kernel
theorem d_Md_page_46 : decode b_Md_page 46 = .ok (.aload_n 0, 1) := by decide +kernel
theorem d_Md_page_47 : decode b_Md_page 47 = .ok (.getfield 26, 3) := by decide +kernel
theorem d_Md_page_50 : decode b_Md_page 50 = .ok (.iload_n 1, 1) := by decide +kernel
theorem d_Md_page_51 : decode b_Md_page 51 = .ok (.baload, 1) := by decide +kernel
theorem d_Md_page_52 : decode b_Md_page 52 = .ok (.ifCond .eq (7), 3) := by decide +kernel
theorem d_Md_page_55 : decode b_Md_page 55 = .ok (.iconst 1, 1) := by decide +kernel
theorem d_Md_page_56 : decode b_Md_page 56 = .ok (.goto (4), 3) := by decide +kernel
theorem d_Md_page_59 : decode b_Md_page 59 = .ok (.iconst 0, 1) := by decide +kernel
theorem d_Md_page_60 : decode b_Md_page 60 = .ok (.ireturn, 1) := by decide +kernel
theorem d_Md_page_61 : decode b_Md_page 61 = .ok (.iconst 0, 1) := by decide +kernel
theorem d_Md_page_62 : decode b_Md_page 62 = .ok (.istore_n 3, 1) := by decide +kernel
theorem d_Md_page_63 : decode b_Md_page 63 = .ok (.iconst 1, 1) := by decide +kernel
theorem d_Md_page_64 : decode b_Md_page 64 = .ok (.istore 4, 2) := by decide +kernel
theorem d_Md_page_66 : decode b_Md_page 66 = .ok (.iload 4, 2) := by decide +kernel
theorem d_Md_page_68 : decode b_Md_page 68 = .ok (.aload_n 0, 1) := by decide +kernel
theorem d_Md_page_69 : decode b_Md_page 69 = .ok (.getfield 100, 3) := by decide +kernel
theorem d_Md_page_72 : decode b_Md_page 72 = .ok (.if_icmp .gt (37), 3) := by decide +kernel
theorem d_Md_page_75 : decode b_Md_page 75 = .ok (.aload_n 0, 1) := by decide +kernel
theorem d_Md_page_76 : decode b_Md_page 76 = .ok (.getfield 29, 3) := by decide +kernel
theorem d_Md_page_79 : decode b_Md_page 79 = .ok (.iload 4, 2) := by decide +kernel
theorem d_Md_page_81 : decode b_Md_page 81 = .ok (.baload, 1) := by decide +kernel
theorem d_Md_page_82 : decode b_Md_page 82 = .ok (.ifCond .eq (21), 3) := by decide +kernel
theorem d_Md_page_85 : decode b_Md_page 85 = .ok (.aload_n 0, 1) := by decide +kernel
theorem d_Md_page_86 : decode b_Md_page 86 = .ok (.getfield 41, 3) := by decide +kernel
theorem d_Md_page_89 : decode b_Md_page 89 = .ok (.iload 4, 2) := by decide +kernel
theorem d_Md_page_91 : decode b_Md_page 91 = .ok (.bipush (8), 2) := by decide +kernel
theorem d_Md_page_93 : decode b_Md_page 93 = .ok (.imul, 1) := by decide +kernel
theorem d_Md_page_94 : decode b_Md_page 94 = .ok (.iload_n 1, 1) := by decide +kernel
theorem d_Md_page_95 : decode b_Md_page 95 = .ok (.iadd, 1) := by decide +kernel
theorem d_Md_page_96 : decode b_Md_page 96 = .ok (.iaload, 1) := by decide +kernel
theorem d_Md_page_97 : decode b_Md_page 97 = .ok (.ifCond .lt (6), 3) := by decide +kernel
theorem d_Md_page_100 : decode b_Md_page 100 = .ok (.iinc 3 (1), 3) := by decide +kernel
theorem d_Md_page_103 : decode b_Md_page 103 = .ok (.iinc 4 (1), 3) := by decide +kernel
theorem d_Md_page_106 : decode b_Md_page 106 = .ok (.goto (-40), 3) := by decide +kernel
theorem d_Md_page_109 : decode b_Md_page 109 = .ok (.iload_n 3, 1) := by decide +kernel
theorem d_Md_page_110 : decode b_Md_page 110 = .ok (.ireturn, 1) := by decide +kernel
theorem d_Md_ofBackup_0 : decode b_Md_ofBackup 0 = .ok (.iload_n 1, 1) := by decide +kernel
theorem d_Md_ofBackup_1 : decode b_Md_ofBackup 1 = .ok (.iconst 1, 1) := by decide +kernel
theorem d_Md_ofBackup_2 : decode b_Md_ofBackup 2 = .ok (.if_icmp .lt (19), 3) := by decide +kernel
theorem d_Md_ofBackup_5 : decode b_Md_ofBackup 5 = .ok (.iload_n 1, 1) := by decide +kernel
theorem d_Md_ofBackup_6 : decode b_Md_ofBackup 6 = .ok (.aload_n 0, 1) := by decide +kernel
theorem d_Md_ofBackup_7 : decode b_Md_ofBackup 7 = .ok (.getfield 100, 3) := by decide +kernel
theorem d_Md_ofBackup_10 : decode b_Md_ofBackup 10 = .ok (.if_icmp .gt (11), 3) := by decide +kernel
theorem d_Md_ofBackup_13 : decode b_Md_ofBackup 13 = .ok (.iload_n 2, 1) := by decide +kernel
theorem d_Md_ofBackup_14 : decode b_Md_ofBackup 14 = .ok (.iconst 5, 1) := by decide +kernel
theorem d_Md_ofBackup_15 : decode b_Md_ofBackup 15 = .ok (.invokestatic 80, 3) := by decide +kernel
theorem d_Md_ofBackup_18 : decode b_Md_ofBackup 18 = .ok (.ifCond .ne (5), 3) := by decide +kernel
theorem d_Md_ofBackup_21 : decode b_Md_ofBackup 21 = .ok (.iconst (-1), 1) := by decide +kernel
theorem d_Md_ofBackup_22 : decode b_Md_ofBackup 22 = .ok (.ireturn, 1) := by decide +kernel
theorem d_Md_ofBackup_23 : decode b_Md_ofBackup 23 = .ok (.iload_n 2, 1) := by decide +kernel
theorem d_Md_ofBackup_24 : decode b_Md_ofBackup 24 = .ok (.ifCond .ne (18), 3) := by decide +kernel
theorem d_Md_ofBackup_27 : decode b_Md_ofBackup 27 = .ok (.aload_n 0, 1) := by decide +kernel
theorem d_Md_ofBackup_28 : decode b_Md_ofBackup 28 = .ok (.getfield 29, 3) := by decide +kernel
theorem d_Md_ofBackup_31 : decode b_Md_ofBackup 31 = .ok (.iload_n 1, 1) := by decide +kernel
theorem d_Md_ofBackup_32 : decode b_Md_ofBackup 32 = .ok (.baload, 1) := by decide +kernel
theorem d_Md_ofBackup_33 : decode b_Md_ofBackup 33 = .ok (.ifCond .eq (7), 3) := by decide +kernel
theorem d_Md_ofBackup_36 : decode b_Md_ofBackup 36 = .ok (.iconst 1, 1) := by decide +kernel
theorem d_Md_ofBackup_37 : decode b_Md_ofBackup 37 = .ok (.goto (4), 3) := by decide +kernel
theorem d_Md_ofBackup_40 : decode b_Md_ofBackup 40 = .ok (.iconst 0, 1) := by decide +kernel
theorem d_Md_ofBackup_41 : decode b_Md_ofBackup 41 = .ok (.ireturn, 1) := by decide +kernel
theorem d_Md_ofBackup_42 : decode b_Md_ofBackup 42 = .ok (.iload_n 2, 1) := by decide +kernel
theorem d_Md_ofBackup_43 : decode b_Md_ofBackup 43 = .ok (.iconst 1, 1) := by decide +kernel
theorem d_Md_ofBackup_44 : decode b_Md_ofBackup 44 = .ok (.if_icmp .ne (18), 3) := by decide +kernel
theorem d_Md_ofBackup_47 : decode b_Md_ofBackup 47 = .ok (.aload_n 0, 1) := by decide +kernel
theorem d_Md_ofBackup_48 : decode b_Md_ofBackup 48 = .ok (.getfield 32, 3) := by decide +kernel
theorem d_Md_ofBackup_51 : decode b_Md_ofBackup 51 = .ok (.iload_n 1, 1) := by decide +kernel
theorem d_Md_ofBackup_52 : decode b_Md_ofBackup 52 = .ok (.baload, 1) := by decide +kernel
theorem d_Md_ofBackup_53 : decode b_Md_ofBackup 53 = .ok (.ifCond .eq (7), 3) := by decide +kernel
theorem d_Md_ofBackup_56 : decode b_Md_ofBackup 56 = .ok (.iconst 1, 1) := by decide +kernel
theorem d_Md_ofBackup_57 : decode b_Md_ofBackup 57 = .ok (.goto (4), 3) := by decide +kernel
theorem d_Md_ofBackup_60 : decode b_Md_ofBackup 60 = .ok (.iconst 0, 1) := by decide +kernel
theorem d_Md_ofBackup_61 : decode b_Md_ofBackup 61 = .ok (.ireturn, 1) := by decide +kernel
theorem d_Md_ofBackup_62 : decode b_Md_ofBackup 62 = .ok (.iload_n 2, 1) := by decide +kernel
theorem d_Md_ofBackup_63 : decode b_Md_ofBackup 63 = .ok (.iconst 2, 1) := by decide +kernel
theorem d_Md_ofBackup_64 : decode b_Md_ofBackup 64 = .ok (.if_icmp .ne (10), 3) := by decide +kernel
theorem d_Md_ofBackup_67 : decode b_Md_ofBackup 67 = .ok (.aload_n 0, 1) := by decide +kernel
theorem d_Md_ofBackup_68 : decode b_Md_ofBackup 68 = .ok (.getfield 35, 3) := by decide +kernel
theorem d_Md_ofBackup_71 : decode b_Md_ofBackup 71 = .ok (.iload_n 1, 1) := by decide +kernel
theorem d_Md_ofBackup_72 : decode b_Md_ofBackup 72 = .ok (.iaload, 1) := by decide +kernel
theorem d_Md_ofBackup_73 : decode b_Md_ofBackup 73 = .ok (.ireturn, 1) := by decide +kernel
theorem d_Md_ofBackup_74 : decode b_Md_ofBackup 74 = .ok (.iload_n 2, 1) := by decide +kernel
theorem d_Md_ofBackup_75 : decode b_Md_ofBackup 75 = .ok (.iconst 3, 1) := by decide +kernel
theorem d_Md_ofBackup_76 : decode b_Md_ofBackup 76 = .ok (.if_icmp .ne (10), 3) := by decide +kernel
theorem d_Md_ofBackup_79 : decode b_Md_ofBackup 79 = .ok (.aload_n 0, 1) := by decide +kernel
theorem d_Md_ofBackup_80 : decode b_Md_ofBackup 80 = .ok (.getfield 38, 3) := by decide +kernel
theorem d_Md_ofBackup_83 : decode b_Md_ofBackup 83 = .ok (.iload_n 1, 1) := by decide +kernel
theorem d_Md_ofBackup_84 : decode b_Md_ofBackup 84 = .ok (.iaload, 1) := by decide +kernel
theorem d_Md_ofBackup_85 : decode b_Md_ofBackup 85 = .ok (.ireturn, 1) := by decide +kernel
theorem d_Md_ofBackup_86 : decode b_Md_ofBackup 86 = .ok (.iconst 0, 1) := by decide +kernel
theorem d_Md_ofBackup_87 : decode b_Md_ofBackup 87 = .ok (.istore_n 3, 1) := by decide +kernel
theorem d_Md_ofBackup_88 : decode b_Md_ofBackup 88 = .ok (.iconst 0, 1) := by decide +kernel
theorem d_Md_ofBackup_89 : decode b_Md_ofBackup 89 = .ok (.istore 4, 2) := by decide +kernel
theorem d_Md_ofBackup_91 : decode b_Md_ofBackup 91 = .ok (.iload 4, 2) := by decide +kernel
theorem d_Md_ofBackup_93 : decode b_Md_ofBackup 93 = .ok (.bipush (8), 2) := by decide +kernel
theorem d_Md_ofBackup_95 : decode b_Md_ofBackup 95 = .ok (.if_icmp .ge (27), 3) := by decide +kernel
theorem d_Md_ofBackup_98 : decode b_Md_ofBackup 98 = .ok (.aload_n 0, 1) := by decide +kernel
theorem d_Md_ofBackup_99 : decode b_Md_ofBackup 99 = .ok (.getfield 41, 3) := by decide +kernel
theorem d_Md_ofBackup_102 : decode b_Md_ofBackup 102 = .ok (.iload_n 1, 1) := by decide +kernel
theorem d_Md_ofBackup_103 : decode b_Md_ofBackup 103 = .ok (.bipush (8), 2) := by decide +kernel
theorem d_Md_ofBackup_105 : decode b_Md_ofBackup 105 = .ok (.imul, 1) := by decide +kernel
theorem d_Md_ofBackup_106 : decode b_Md_ofBackup 106 = .ok (.iload 4, 2) := by decide +kernel
theorem d_Md_ofBackup_108 : decode b_Md_ofBackup 108 = .ok (.iadd, 1) := by decide +kernel
theorem d_Md_ofBackup_109 : decode b_Md_ofBackup 109 = .ok (.iaload, 1) := by decide +kernel
theorem d_Md_ofBackup_110 : decode b_Md_ofBackup 110 = .ok (.ifCond .lt (6), 3) := by decide +kernel
theorem d_Md_ofBackup_113 : decode b_Md_ofBackup 113 = .ok (.iinc 3 (1), 3) := by decide +kernel
theorem d_Md_ofBackup_116 : decode b_Md_ofBackup 116 = .ok (.iinc 4 (1), 3) := by decide +kernel
theorem d_Md_ofBackup_119 : decode b_Md_ofBackup 119 = .ok (.goto (-28), 3) := by decide +kernel
theorem d_Md_ofBackup_122 : decode b_Md_ofBackup 122 = .ok (.iload_n 3, 1) := by decide +kernel
theorem d_Md_ofBackup_123 : decode b_Md_ofBackup 123 = .ok (.ireturn, 1) := by decide +kernel
theorem d_Md_count_0 : decode b_Md_count 0 = .ok (.iload_n 1, 1) := by decide +kernel
theorem d_Md_count_1 : decode b_Md_count 1 = .ok (.ifCond .ne (8), 3) := by decide +kernel
theorem d_Md_count_4 : decode b_Md_count 4 = .ok (.aload_n 0, 1) := by decide +kernel
theorem d_Md_count_5 : decode b_Md_count 5 = .ok (.getfield 57, 3) := by decide +kernel
theorem d_Md_count_8 : decode b_Md_count 8 = .ok (.ireturn, 1) := by decide +kernel
theorem d_Md_count_9 : decode b_Md_count 9 = .ok (.iload_n 1, 1) := by decide +kernel
theorem d_Md_count_10 : decode b_Md_count 10 = .ok (.iconst 1, 1) := by decide +kernel
theorem d_Md_count_11 : decode b_Md_count 11 = .ok (.if_icmp .ne (8), 3) := by decide +kernel
theorem d_Md_count_14 : decode b_Md_count 14 = .ok (.aload_n 0, 1) := by decide +kernel
theorem d_Md_count_15 : decode b_Md_count 15 = .ok (.invokevirtual 88, 3) := by decide +kernel
theorem d_Md_count_18 : decode b_Md_count 18 = .ok (.ireturn, 1) := by decide +kernel
theorem d_Md_count_19 : decode b_Md_count 19 = .ok (.iload_n 1, 1) := by decide +kernel
theorem d_Md_count_20 : decode b_Md_count 20 = .ok (.iconst 2, 1) := by decide +kernel
theorem d_Md_count_21 : decode b_Md_count 21 = .ok (.if_icmp .ne (8), 3) := by decide +kernel
theorem d_Md_count_24 : decode b_Md_count 24 = .ok (.aload_n 0, 1) := by decide +kernel
theorem d_Md_count_25 : decode b_Md_count 25 = .ok (.getfield 100, 3) := by decide +kernel
theorem d_Md_count_28 : decode b_Md_count 28 = .ok (.ireturn, 1) := by decide +kernel
theorem d_Md_count_29 : decode b_Md_count 29 = .ok (.iload_n 1, 1) := by decide +kernel
theorem d_Md_count_30 : decode b_Md_count 30 = .ok (.iconst 3, 1) := by decide +kernel
theorem d_Md_count_31 : decode b_Md_count 31 = .ok (.if_icmp .ne (13), 3) := by decide +kernel
theorem d_Md_count_34 : decode b_Md_count 34 = .ok (.aload_n 0, 1) := by decide +kernel
theorem d_Md_count_35 : decode b_Md_count 35 = .ok (.invokevirtual 128, 3) := by decide +kernel
theorem d_Md_count_38 : decode b_Md_count 38 = .ok (.aload_n 0, 1) := by decide +kernel
theorem d_Md_count_39 : decode b_Md_count 39 = .ok (.getfield 62, 3) := by decide +kernel
theorem d_Md_count_42 : decode b_Md_count 42 = .ok (.isub, 1) := by decide +kernel
theorem d_Md_count_43 : decode b_Md_count 43 = .ok (.ireturn, 1) := by decide +kernel
theorem d_Md_count_44 : decode b_Md_count 44 = .ok (.iload_n 1, 1) := by decide +kernel
theorem d_Md_count_45 : decode b_Md_count 45 = .ok (.iconst 4, 1) := by decide +kernel
theorem d_Md_count_46 : decode b_Md_count 46 = .ok (.if_icmp .ne (13), 3) := by decide +kernel
theorem d_Md_count_49 : decode b_Md_count 49 = .ok (.aload_n 0, 1) := by decide +kernel
theorem d_Md_count_50 : decode b_Md_count 50 = .ok (.getfield 62, 3) := by decide +kernel
theorem d_Md_count_53 : decode b_Md_count 53 = .ok (.aload_n 0, 1) := by decide +kernel
theorem d_Md_count_54 : decode b_Md_count 54 = .ok (.getfield 109, 3) := by decide +kernel
theorem d_Md_count_57 : decode b_Md_count 57 = .ok (.isub, 1) := by decide +kernel
theorem d_Md_count_58 : decode b_Md_count 58 = .ok (.ireturn, 1) := by decide +kernel
theorem d_Md_count_59 : decode b_Md_count 59 = .ok (.iload_n 1, 1) := by decide +kernel
theorem d_Md_count_60 : decode b_Md_count 60 = .ok (.iconst 5, 1) := by decide +kernel
theorem d_Md_count_61 : decode b_Md_count 61 = .ok (.if_icmp .ne (8), 3) := by decide +kernel
theorem d_Md_count_64 : decode b_Md_count 64 = .ok (.aload_n 0, 1) := by decide +kernel
theorem d_Md_count_65 : decode b_Md_count 65 = .ok (.invokevirtual 84, 3) := by decide +kernel
theorem d_Md_count_68 : decode b_Md_count 68 = .ok (.ireturn, 1) := by decide +kernel
theorem d_Md_count_69 : decode b_Md_count 69 = .ok (.iload_n 1, 1) := by decide +kernel
theorem d_Md_count_70 : decode b_Md_count 70 = .ok (.bipush (6), 2) := by decide +kernel
theorem d_Md_count_72 : decode b_Md_count 72 = .ok (.if_icmp .ne (16), 3) := by decide +kernel
theorem d_Md_count_75 : decode b_Md_count 75 = .ok (.aload_n 0, 1) := by decide +kernel
theorem d_Md_count_76 : decode b_Md_count 76 = .ok (.getfield 76, 3) := by decide +kernel
theorem d_Md_count_79 : decode b_Md_count 79 = .ok (.ifCond .eq (7), 3) := by decide +kernel
theorem d_Md_count_82 : decode b_Md_count 82 = .ok (.iconst 1, 1) := by decide +kernel
theorem d_Md_count_83 : decode b_Md_count 83 = .ok (.goto (4), 3) := by decide +kernel
theorem d_Md_count_86 : decode b_Md_count 86 = .ok (.iconst 0, 1) := by decide +kernel
theorem d_Md_count_87 : decode b_Md_count 87 = .ok (.ireturn, 1) := by decide +kernel
theorem d_Md_count_88 : decode b_Md_count 88 = .ok (.iload_n 1, 1) := by decide +kernel
theorem d_Md_count_89 : decode b_Md_count 89 = .ok (.bipush (7), 2) := by decide +kernel
theorem d_Md_count_91 : decode b_Md_count 91 = .ok (.if_icmp .ne (8), 3) := by decide +kernel
theorem d_Md_count_94 : decode b_Md_count 94 = .ok (.aload_n 0, 1) := by decide +kernel
theorem d_Md_count_95 : decode b_Md_count 95 = .ok (.getfield 44, 3) := by decide +kernel
theorem d_Md_count_98 : decode b_Md_count 98 = .ok (.ireturn, 1) := by decide +kernel
theorem d_Md_count_99 : decode b_Md_count 99 = .ok (.iload_n 1, 1) := by decide +kernel
theorem d_Md_count_100 : decode b_Md_count 100 = .ok (.bipush (8), 2) := by decide +kernel
theorem d_Md_count_102 : decode b_Md_count 102 = .ok (.if_icmp .ne (10), 3) := by decide +kernel
theorem d_Md_count_105 : decode b_Md_count 105 = .ok (.aload_n 0, 1) := by decide +kernel
theorem d_Md_count_106 : decode b_Md_count 106 = .ok (.getfield 65, 3) := by decide +kernel
theorem d_Md_count_109 : decode b_Md_count 109 = .ok (.goto (4), 3) := by decide +kernel
theorem d_Md_count_112 : decode b_Md_count 112 = .ok (.iconst (-1), 1) := by decide +kernel
theorem d_Md_count_113 : decode b_Md_count 113 = .ok (.ireturn, 1) := by decide +kernel
theorem d_Md_begun_0 : decode b_Md_begun 0 = .ok (.aload_n 0, 1) := by decide +kernel
theorem d_Md_begun_1 : decode b_Md_begun 1 = .ok (.getfield 57, 3) := by decide +kernel
theorem d_Md_begun_4 : decode b_Md_begun 4 = .ok (.aload_n 0, 1) := by decide +kernel
theorem d_Md_begun_5 : decode b_Md_begun 5 = .ok (.getfield 51, 3) := by decide +kernel
theorem d_Md_begun_8 : decode b_Md_begun 8 = .ok (.iadd, 1) := by decide +kernel
theorem d_Md_begun_9 : decode b_Md_begun 9 = .ok (.iconst 1, 1) := by decide +kernel
theorem d_Md_begun_10 : decode b_Md_begun 10 = .ok (.isub, 1) := by decide +kernel
theorem d_Md_begun_11 : decode b_Md_begun 11 = .ok (.aload_n 0, 1) := by decide +kernel
theorem d_Md_begun_12 : decode b_Md_begun 12 = .ok (.getfield 51, 3) := by decide +kernel
theorem d_Md_begun_15 : decode b_Md_begun 15 = .ok (.idiv, 1) := by decide +kernel
theorem d_Md_begun_16 : decode b_Md_begun 16 = .ok (.ireturn, 1) := by decide +kernel
end
section
theorem d_Lw_cell_0 : decode b_Lw_cell 0 = .ok (.iload_n 1, 1) := by decide +kernel
theorem d_Lw_cell_1 : decode b_Lw_cell 1 = .ok (.aload_n 0, 1) := by decide +kernel
theorem d_Lw_cell_2 : decode b_Lw_cell 2 = .ok (.arraylength, 1) := by decide +kernel
theorem d_Lw_cell_3 : decode b_Lw_cell 3 = .ok (.if_icmp .ge (9), 3) := by decide +kernel
theorem d_Lw_cell_6 : decode b_Lw_cell 6 = .ok (.aload_n 0, 1) := by decide +kernel
theorem d_Lw_cell_7 : decode b_Lw_cell 7 = .ok (.iload_n 1, 1) := by decide +kernel
theorem d_Lw_cell_8 : decode b_Lw_cell 8 = .ok (.iaload, 1) := by decide +kernel
theorem d_Lw_cell_9 : decode b_Lw_cell 9 = .ok (.goto (4), 3) := by decide +kernel
theorem d_Lw_cell_12 : decode b_Lw_cell 12 = .ok (.iconst 0, 1) := by decide +kernel
theorem d_Lw_cell_13 : decode b_Lw_cell 13 = .ok (.ireturn, 1) := by decide +kernel
theorem d_Lw_law_0 : decode code 0 = .ok (.new 7, 3) := by decide +kernel
theorem d_Lw_law_3 : decode code 3 = .ok (.dup, 1) := by decide +kernel
theorem d_Lw_law_4 : decode code 4 = .ok (.aload_n 0, 1) := by decide +kernel
theorem d_Lw_law_5 : decode code 5 = .ok (.iconst 0, 1) := by decide +kernel
theorem d_Lw_law_6 : decode code 6 = .ok (.invokestatic 9, 3) := by decide +kernel
theorem d_Lw_law_9 : decode code 9 = .ok (.aload_n 0, 1) := by decide +kernel
theorem d_Lw_law_10 : decode code 10 = .ok (.iconst 1, 1) := by decide +kernel
theorem d_Lw_law_11 : decode code 11 = .ok (.invokestatic 9, 3) := by decide +kernel
theorem d_Lw_law_14 : decode code 14 = .ok (.invokespecial 15, 3) := by decide +kernel
theorem d_Lw_law_17 : decode code 17 = .ok (.astore_n 1, 1) := by decide +kernel
theorem d_Lw_law_18 : decode code 18 = .ok (.new 18, 3) := by decide +kernel
theorem d_Lw_law_21 : decode code 21 = .ok (.dup, 1) := by decide +kernel
theorem d_Lw_law_22 : decode code 22 = .ok (.aload_n 0, 1) := by decide +kernel
theorem d_Lw_law_23 : decode code 23 = .ok (.iconst 0, 1) := by decide +kernel
theorem d_Lw_law_24 : decode code 24 = .ok (.invokestatic 9, 3) := by decide +kernel
theorem d_Lw_law_27 : decode code 27 = .ok (.aload_n 0, 1) := by decide +kernel
theorem d_Lw_law_28 : decode code 28 = .ok (.iconst 1, 1) := by decide +kernel
theorem d_Lw_law_29 : decode code 29 = .ok (.invokestatic 9, 3) := by decide +kernel
theorem d_Lw_law_32 : decode code 32 = .ok (.invokespecial 20, 3) := by decide +kernel
theorem d_Lw_law_35 : decode code 35 = .ok (.astore_n 2, 1) := by decide +kernel
theorem d_Lw_law_36 : decode code 36 = .ok (.iconst 2, 1) := by decide +kernel
theorem d_Lw_law_37 : decode code 37 = .ok (.istore_n 3, 1) := by decide +kernel
theorem d_Lw_law_38 : decode code 38 = .ok (.iload_n 3, 1) := by decide +kernel
theorem d_Lw_law_39 : decode code 39 = .ok (.aload_n 0, 1) := by decide +kernel
theorem d_Lw_law_40 : decode code 40 = .ok (.arraylength, 1) := by decide +kernel
theorem d_Lw_law_41 : decode code 41 = .ok (.iconst 4, 1) := by decide +kernel
theorem d_Lw_law_42 : decode code 42 = .ok (.isub, 1) := by decide +kernel
theorem d_Lw_law_43 : decode code 43 = .ok (.if_icmp .gt (487), 3) := by decide +kernel
theorem d_Lw_law_46 : decode code 46 = .ok (.aload_n 0, 1) := by decide +kernel
theorem d_Lw_law_47 : decode code 47 = .ok (.iload_n 3, 1) := by decide +kernel
theorem d_Lw_law_48 : decode code 48 = .ok (.iaload, 1) := by decide +kernel
theorem d_Lw_law_49 : decode code 49 = .ok (.bipush (15), 2) := by decide +kernel
theorem d_Lw_law_51 : decode code 51 = .ok (.iand, 1) := by decide +kernel
theorem d_Lw_law_52 : decode code 52 = .ok (.tableswitch (472) (0) (15) #[80, 93, 152, 165, 178, 202, 225, 238, 277, 300, 323, 336, 359, 383, 416, 449], 80) := by decide +kernel
theorem d_Lw_law_132 : decode code 132 = .ok (.aload_n 1, 1) := by decide +kernel
theorem d_Lw_law_133 : decode code 133 = .ok (.invokevirtual 21, 3) := by decide +kernel
theorem d_Lw_law_136 : decode code 136 = .ok (.aload_n 2, 1) := by decide +kernel
theorem d_Lw_law_137 : decode code 137 = .ok (.invokevirtual 25, 3) := by decide +kernel
theorem d_Lw_law_140 : decode code 140 = .ok (.if_icmp .eq (384), 3) := by decide +kernel
theorem d_Lw_law_143 : decode code 143 = .ok (.iconst 0, 1) := by decide +kernel
theorem d_Lw_law_144 : decode code 144 = .ok (.ireturn, 1) := by decide +kernel
theorem d_Lw_law_145 : decode code 145 = .ok (.aload_n 1, 1) := by decide +kernel
theorem d_Lw_law_146 : decode code 146 = .ok (.aload_n 0, 1) := by decide +kernel
theorem d_Lw_law_147 : decode code 147 = .ok (.iload_n 3, 1) := by decide +kernel
theorem d_Lw_law_148 : decode code 148 = .ok (.iconst 1, 1) := by decide +kernel
theorem d_Lw_law_149 : decode code 149 = .ok (.iadd, 1) := by decide +kernel
theorem d_Lw_law_150 : decode code 150 = .ok (.iaload, 1) := by decide +kernel
theorem d_Lw_law_151 : decode code 151 = .ok (.aload_n 0, 1) := by decide +kernel
theorem d_Lw_law_152 : decode code 152 = .ok (.iload_n 3, 1) := by decide +kernel
theorem d_Lw_law_153 : decode code 153 = .ok (.iconst 2, 1) := by decide +kernel
theorem d_Lw_law_154 : decode code 154 = .ok (.iadd, 1) := by decide +kernel
theorem d_Lw_law_155 : decode code 155 = .ok (.iaload, 1) := by decide +kernel
theorem d_Lw_law_156 : decode code 156 = .ok (.aload_n 0, 1) := by decide +kernel
theorem d_Lw_law_157 : decode code 157 = .ok (.iload_n 3, 1) := by decide +kernel
theorem d_Lw_law_158 : decode code 158 = .ok (.iconst 3, 1) := by decide +kernel
theorem d_Lw_law_159 : decode code 159 = .ok (.iadd, 1) := by decide +kernel
theorem d_Lw_law_160 : decode code 160 = .ok (.iaload, 1) := by decide +kernel
theorem d_Lw_law_161 : decode code 161 = .ok (.ifCond .eq (7), 3) := by decide +kernel
theorem d_Lw_law_164 : decode code 164 = .ok (.iconst 1, 1) := by decide +kernel
theorem d_Lw_law_165 : decode code 165 = .ok (.goto (4), 3) := by decide +kernel
theorem d_Lw_law_168 : decode code 168 = .ok (.iconst 0, 1) := by decide +kernel
theorem d_Lw_law_169 : decode code 169 = .ok (.invokevirtual 26, 3) := by decide +kernel
theorem d_Lw_law_172 : decode code 172 = .ok (.aload_n 2, 1) := by decide +kernel
theorem d_Lw_law_173 : decode code 173 = .ok (.aload_n 0, 1) := by decide +kernel
theorem d_Lw_law_174 : decode code 174 = .ok (.iload_n 3, 1) := by decide +kernel
theorem d_Lw_law_175 : decode code 175 = .ok (.iconst 1, 1) := by decide +kernel
theorem d_Lw_law_176 : decode code 176 = .ok (.iadd, 1) := by decide +kernel
theorem d_Lw_law_177 : decode code 177 = .ok (.iaload, 1) := by decide +kernel
theorem d_Lw_law_178 : decode code 178 = .ok (.aload_n 0, 1) := by decide +kernel
theorem d_Lw_law_179 : decode code 179 = .ok (.iload_n 3, 1) := by decide +kernel
theorem d_Lw_law_180 : decode code 180 = .ok (.iconst 2, 1) := by decide +kernel
theorem d_Lw_law_181 : decode code 181 = .ok (.iadd, 1) := by decide +kernel
theorem d_Lw_law_182 : decode code 182 = .ok (.iaload, 1) := by decide +kernel
theorem d_Lw_law_183 : decode code 183 = .ok (.aload_n 0, 1) := by decide +kernel
theorem d_Lw_law_184 : decode code 184 = .ok (.iload_n 3, 1) := by decide +kernel
theorem d_Lw_law_185 : decode code 185 = .ok (.iconst 3, 1) := by decide +kernel
theorem d_Lw_law_186 : decode code 186 = .ok (.iadd, 1) := by decide +kernel
theorem d_Lw_law_187 : decode code 187 = .ok (.iaload, 1) := by decide +kernel
theorem d_Lw_law_188 : decode code 188 = .ok (.ifCond .eq (7), 3) := by decide +kernel
theorem d_Lw_law_191 : decode code 191 = .ok (.iconst 1, 1) := by decide +kernel
theorem d_Lw_law_192 : decode code 192 = .ok (.goto (4), 3) := by decide +kernel
theorem d_Lw_law_195 : decode code 195 = .ok (.iconst 0, 1) := by decide +kernel
theorem d_Lw_law_196 : decode code 196 = .ok (.invokevirtual 30, 3) := by decide +kernel
theorem d_Lw_law_199 : decode code 199 = .ok (.if_icmp .eq (325), 3) := by decide +kernel
theorem d_Lw_law_202 : decode code 202 = .ok (.iconst 0, 1) := by decide +kernel
theorem d_Lw_law_203 : decode code 203 = .ok (.ireturn, 1) := by decide +kernel
theorem d_Lw_law_204 : decode code 204 = .ok (.aload_n 1, 1) := by decide +kernel
theorem d_Lw_law_205 : decode code 205 = .ok (.invokevirtual 31, 3) := by decide +kernel
theorem d_Lw_law_208 : decode code 208 = .ok (.aload_n 2, 1) := by decide +kernel
theorem d_Lw_law_209 : decode code 209 = .ok (.invokevirtual 34, 3) := by decide +kernel
theorem d_Lw_law_212 : decode code 212 = .ok (.if_icmp .eq (312), 3) := by decide +kernel
theorem d_Lw_law_215 : decode code 215 = .ok (.iconst 0, 1) := by decide +kernel
theorem d_Lw_law_216 : decode code 216 = .ok (.ireturn, 1) := by decide +kernel
theorem d_Lw_law_217 : decode code 217 = .ok (.aload_n 1, 1) := by decide +kernel
theorem d_Lw_law_218 : decode code 218 = .ok (.invokevirtual 35, 3) := by decide +kernel
theorem d_Lw_law_221 : decode code 221 = .ok (.aload_n 2, 1) := by decide +kernel
theorem d_Lw_law_222 : decode code 222 = .ok (.invokevirtual 38, 3) := by decide +kernel
theorem d_Lw_law_225 : decode code 225 = .ok (.if_icmp .eq (299), 3) := by decide +kernel
theorem d_Lw_law_228 : decode code 228 = .ok (.iconst 0, 1) := by decide +kernel
theorem d_Lw_law_229 : decode code 229 = .ok (.ireturn, 1) := by decide +kernel
theorem d_Lw_law_230 : decode code 230 = .ok (.aload_n 1, 1) := by decide +kernel
theorem d_Lw_law_231 : decode code 231 = .ok (.aload_n 0, 1) := by decide +kernel
theorem d_Lw_law_232 : decode code 232 = .ok (.iload_n 3, 1) := by decide +kernel
theorem d_Lw_law_233 : decode code 233 = .ok (.iconst 1, 1) := by decide +kernel
theorem d_Lw_law_234 : decode code 234 = .ok (.iadd, 1) := by decide +kernel
theorem d_Lw_law_235 : decode code 235 = .ok (.iaload, 1) := by decide +kernel
theorem d_Lw_law_236 : decode code 236 = .ok (.invokevirtual 39, 3) := by decide +kernel
theorem d_Lw_law_239 : decode code 239 = .ok (.aload_n 2, 1) := by decide +kernel
theorem d_Lw_law_240 : decode code 240 = .ok (.aload_n 0, 1) := by decide +kernel
theorem d_Lw_law_241 : decode code 241 = .ok (.iload_n 3, 1) := by decide +kernel
theorem d_Lw_law_242 : decode code 242 = .ok (.iconst 1, 1) := by decide +kernel
theorem d_Lw_law_243 : decode code 243 = .ok (.iadd, 1) := by decide +kernel
theorem d_Lw_law_244 : decode code 244 = .ok (.iaload, 1) := by decide +kernel
theorem d_Lw_law_245 : decode code 245 = .ok (.invokevirtual 43, 3) := by decide +kernel
theorem d_Lw_law_248 : decode code 248 = .ok (.lcmp, 1) := by decide +kernel
theorem d_Lw_law_249 : decode code 249 = .ok (.ifCond .eq (275), 3) := by decide +kernel
theorem d_Lw_law_252 : decode code 252 = .ok (.iconst 0, 1) := by decide +kernel
theorem d_Lw_law_253 : decode code 253 = .ok (.ireturn, 1) := by decide +kernel
theorem d_Lw_law_254 : decode code 254 = .ok (.aload_n 1, 1) := by decide +kernel
theorem d_Lw_law_255 : decode code 255 = .ok (.aload_n 0, 1) := by decide +kernel
theorem d_Lw_law_256 : decode code 256 = .ok (.iload_n 3, 1) := by decide +kernel
theorem d_Lw_law_257 : decode code 257 = .ok (.iconst 1, 1) := by decide +kernel
theorem d_Lw_law_258 : decode code 258 = .ok (.iadd, 1) := by decide +kernel
theorem d_Lw_law_259 : decode code 259 = .ok (.iaload, 1) := by decide +kernel
theorem d_Lw_law_260 : decode code 260 = .ok (.invokevirtual 44, 3) := by decide +kernel
theorem d_Lw_law_263 : decode code 263 = .ok (.aload_n 2, 1) := by decide +kernel
theorem d_Lw_law_264 : decode code 264 = .ok (.aload_n 0, 1) := by decide +kernel
theorem d_Lw_law_265 : decode code 265 = .ok (.iload_n 3, 1) := by decide +kernel
theorem d_Lw_law_266 : decode code 266 = .ok (.iconst 1, 1) := by decide +kernel
theorem d_Lw_law_267 : decode code 267 = .ok (.iadd, 1) := by decide +kernel
theorem d_Lw_law_268 : decode code 268 = .ok (.iaload, 1) := by decide +kernel
theorem d_Lw_law_269 : decode code 269 = .ok (.invokevirtual 48, 3) := by decide +kernel
theorem d_Lw_law_272 : decode code 272 = .ok (.if_icmp .eq (252), 3) := by decide +kernel
theorem d_Lw_law_275 : decode code 275 = .ok (.iconst 0, 1) := by decide +kernel
theorem d_Lw_law_276 : decode code 276 = .ok (.ireturn, 1) := by decide +kernel
theorem d_Lw_law_277 : decode code 277 = .ok (.aload_n 1, 1) := by decide +kernel
theorem d_Lw_law_278 : decode code 278 = .ok (.invokevirtual 49, 3) := by decide +kernel
theorem d_Lw_law_281 : decode code 281 = .ok (.aload_n 2, 1) := by decide +kernel
theorem d_Lw_law_282 : decode code 282 = .ok (.invokevirtual 52, 3) := by decide +kernel
theorem d_Lw_law_285 : decode code 285 = .ok (.if_icmp .eq (239), 3) := by decide +kernel
theorem d_Lw_law_288 : decode code 288 = .ok (.iconst 0, 1) := by decide +kernel
theorem d_Lw_law_289 : decode code 289 = .ok (.ireturn, 1) := by decide +kernel
theorem d_Lw_law_290 : decode code 290 = .ok (.aload_n 1, 1) := by decide +kernel
theorem d_Lw_law_291 : decode code 291 = .ok (.aload_n 0, 1) := by decide +kernel
theorem d_Lw_law_292 : decode code 292 = .ok (.iload_n 3, 1) := by decide +kernel
theorem d_Lw_law_293 : decode code 293 = .ok (.iconst 1, 1) := by decide +kernel
theorem d_Lw_law_294 : decode code 294 = .ok (.iadd, 1) := by decide +kernel
theorem d_Lw_law_295 : decode code 295 = .ok (.iaload, 1) := by decide +kernel
theorem d_Lw_law_296 : decode code 296 = .ok (.ifCond .eq (7), 3) := by decide +kernel
theorem d_Lw_law_299 : decode code 299 = .ok (.iconst 1, 1) := by decide +kernel
theorem d_Lw_law_300 : decode code 300 = .ok (.goto (4), 3) := by decide +kernel
theorem d_Lw_law_303 : decode code 303 = .ok (.iconst 0, 1) := by decide +kernel
theorem d_Lw_law_304 : decode code 304 = .ok (.invokevirtual 53, 3) := by decide +kernel
theorem d_Lw_law_307 : decode code 307 = .ok (.aload_n 2, 1) := by decide +kernel
theorem d_Lw_law_308 : decode code 308 = .ok (.aload_n 0, 1) := by decide +kernel
theorem d_Lw_law_309 : decode code 309 = .ok (.iload_n 3, 1) := by decide +kernel
theorem d_Lw_law_310 : decode code 310 = .ok (.iconst 1, 1) := by decide +kernel
theorem d_Lw_law_311 : decode code 311 = .ok (.iadd, 1) := by decide +kernel
theorem d_Lw_law_312 : decode code 312 = .ok (.iaload, 1) := by decide +kernel
theorem d_Lw_law_313 : decode code 313 = .ok (.ifCond .eq (7), 3) := by decide +kernel
theorem d_Lw_law_316 : decode code 316 = .ok (.iconst 1, 1) := by decide +kernel
theorem d_Lw_law_317 : decode code 317 = .ok (.goto (4), 3) := by decide +kernel
theorem d_Lw_law_320 : decode code 320 = .ok (.iconst 0, 1) := by decide +kernel
theorem d_Lw_law_321 : decode code 321 = .ok (.invokevirtual 57, 3) := by decide +kernel
theorem d_Lw_law_324 : decode code 324 = .ok (.if_icmp .eq (200), 3) := by decide +kernel
theorem d_Lw_law_327 : decode code 327 = .ok (.iconst 0, 1) := by decide +kernel
theorem d_Lw_law_328 : decode code 328 = .ok (.ireturn, 1) := by decide +kernel
theorem d_Lw_law_329 : decode code 329 = .ok (.aload_n 1, 1) := by decide +kernel
theorem d_Lw_law_330 : decode code 330 = .ok (.aload_n 0, 1) := by decide +kernel
theorem d_Lw_law_331 : decode code 331 = .ok (.iload_n 3, 1) := by decide +kernel
theorem d_Lw_law_332 : decode code 332 = .ok (.iconst 1, 1) := by decide +kernel
theorem d_Lw_law_333 : decode code 333 = .ok (.iadd, 1) := by decide +kernel
theorem d_Lw_law_334 : decode code 334 = .ok (.iaload, 1) := by decide +kernel
theorem d_Lw_law_335 : decode code 335 = .ok (.invokevirtual 58, 3) := by decide +kernel
theorem d_Lw_law_338 : decode code 338 = .ok (.aload_n 2, 1) := by decide +kernel
theorem d_Lw_law_339 : decode code 339 = .ok (.aload_n 0, 1) := by decide +kernel
theorem d_Lw_law_340 : decode code 340 = .ok (.iload_n 3, 1) := by decide +kernel
theorem d_Lw_law_341 : decode code 341 = .ok (.iconst 1, 1) := by decide +kernel
theorem d_Lw_law_342 : decode code 342 = .ok (.iadd, 1) := by decide +kernel
theorem d_Lw_law_343 : decode code 343 = .ok (.iaload, 1) := by decide +kernel
theorem d_Lw_law_344 : decode code 344 = .ok (.invokevirtual 61, 3) := by decide +kernel
theorem d_Lw_law_347 : decode code 347 = .ok (.if_icmp .eq (177), 3) := by decide +kernel
theorem d_Lw_law_350 : decode code 350 = .ok (.iconst 0, 1) := by decide +kernel
theorem d_Lw_law_351 : decode code 351 = .ok (.ireturn, 1) := by decide +kernel
theorem d_Lw_law_352 : decode code 352 = .ok (.aload_n 1, 1) := by decide +kernel
theorem d_Lw_law_353 : decode code 353 = .ok (.aload_n 0, 1) := by decide +kernel
theorem d_Lw_law_354 : decode code 354 = .ok (.iload_n 3, 1) := by decide +kernel
theorem d_Lw_law_355 : decode code 355 = .ok (.iconst 1, 1) := by decide +kernel
theorem d_Lw_law_356 : decode code 356 = .ok (.iadd, 1) := by decide +kernel
theorem d_Lw_law_357 : decode code 357 = .ok (.iaload, 1) := by decide +kernel
theorem d_Lw_law_358 : decode code 358 = .ok (.invokevirtual 62, 3) := by decide +kernel
theorem d_Lw_law_361 : decode code 361 = .ok (.aload_n 2, 1) := by decide +kernel
theorem d_Lw_law_362 : decode code 362 = .ok (.aload_n 0, 1) := by decide +kernel
theorem d_Lw_law_363 : decode code 363 = .ok (.iload_n 3, 1) := by decide +kernel
theorem d_Lw_law_364 : decode code 364 = .ok (.iconst 1, 1) := by decide +kernel
theorem d_Lw_law_365 : decode code 365 = .ok (.iadd, 1) := by decide +kernel
theorem d_Lw_law_366 : decode code 366 = .ok (.iaload, 1) := by decide +kernel
theorem d_Lw_law_367 : decode code 367 = .ok (.invokevirtual 65, 3) := by decide +kernel
theorem d_Lw_law_370 : decode code 370 = .ok (.if_icmp .eq (154), 3) := by decide +kernel
theorem d_Lw_law_373 : decode code 373 = .ok (.iconst 0, 1) := by decide +kernel
theorem d_Lw_law_374 : decode code 374 = .ok (.ireturn, 1) := by decide +kernel
theorem d_Lw_law_375 : decode code 375 = .ok (.aload_n 1, 1) := by decide +kernel
theorem d_Lw_law_376 : decode code 376 = .ok (.invokevirtual 66, 3) := by decide +kernel
theorem d_Lw_law_379 : decode code 379 = .ok (.aload_n 2, 1) := by decide +kernel
theorem d_Lw_law_380 : decode code 380 = .ok (.invokevirtual 69, 3) := by decide +kernel
theorem d_Lw_law_383 : decode code 383 = .ok (.if_icmp .eq (141), 3) := by decide +kernel
theorem d_Lw_law_386 : decode code 386 = .ok (.iconst 0, 1) := by decide +kernel
theorem d_Lw_law_387 : decode code 387 = .ok (.ireturn, 1) := by decide +kernel
theorem d_Lw_law_388 : decode code 388 = .ok (.aload_n 1, 1) := by decide +kernel
theorem d_Lw_law_389 : decode code 389 = .ok (.aload_n 0, 1) := by decide +kernel
theorem d_Lw_law_390 : decode code 390 = .ok (.iload_n 3, 1) := by decide +kernel
theorem d_Lw_law_391 : decode code 391 = .ok (.iconst 1, 1) := by decide +kernel
theorem d_Lw_law_392 : decode code 392 = .ok (.iadd, 1) := by decide +kernel
theorem d_Lw_law_393 : decode code 393 = .ok (.iaload, 1) := by decide +kernel
theorem d_Lw_law_394 : decode code 394 = .ok (.invokevirtual 70, 3) := by decide +kernel
theorem d_Lw_law_397 : decode code 397 = .ok (.aload_n 2, 1) := by decide +kernel
theorem d_Lw_law_398 : decode code 398 = .ok (.aload_n 0, 1) := by decide +kernel
theorem d_Lw_law_399 : decode code 399 = .ok (.iload_n 3, 1) := by decide +kernel
theorem d_Lw_law_400 : decode code 400 = .ok (.iconst 1, 1) := by decide +kernel
theorem d_Lw_law_401 : decode code 401 = .ok (.iadd, 1) := by decide +kernel
theorem d_Lw_law_402 : decode code 402 = .ok (.iaload, 1) := by decide +kernel
theorem d_Lw_law_403 : decode code 403 = .ok (.invokevirtual 73, 3) := by decide +kernel
theorem d_Lw_law_406 : decode code 406 = .ok (.if_icmp .eq (118), 3) := by decide +kernel
theorem d_Lw_law_409 : decode code 409 = .ok (.iconst 0, 1) := by decide +kernel
theorem d_Lw_law_410 : decode code 410 = .ok (.ireturn, 1) := by decide +kernel
theorem d_Lw_law_411 : decode code 411 = .ok (.aload_n 1, 1) := by decide +kernel
theorem d_Lw_law_412 : decode code 412 = .ok (.aload_n 0, 1) := by decide +kernel
theorem d_Lw_law_413 : decode code 413 = .ok (.iload_n 3, 1) := by decide +kernel
theorem d_Lw_law_414 : decode code 414 = .ok (.iconst 1, 1) := by decide +kernel
theorem d_Lw_law_415 : decode code 415 = .ok (.iadd, 1) := by decide +kernel
theorem d_Lw_law_416 : decode code 416 = .ok (.iaload, 1) := by decide +kernel
theorem d_Lw_law_417 : decode code 417 = .ok (.invokevirtual 74, 3) := by decide +kernel
theorem d_Lw_law_420 : decode code 420 = .ok (.aload_n 2, 1) := by decide +kernel
theorem d_Lw_law_421 : decode code 421 = .ok (.aload_n 0, 1) := by decide +kernel
theorem d_Lw_law_422 : decode code 422 = .ok (.iload_n 3, 1) := by decide +kernel
theorem d_Lw_law_423 : decode code 423 = .ok (.iconst 1, 1) := by decide +kernel
theorem d_Lw_law_424 : decode code 424 = .ok (.iadd, 1) := by decide +kernel
theorem d_Lw_law_425 : decode code 425 = .ok (.iaload, 1) := by decide +kernel
theorem d_Lw_law_426 : decode code 426 = .ok (.invokevirtual 77, 3) := by decide +kernel
theorem d_Lw_law_429 : decode code 429 = .ok (.lcmp, 1) := by decide +kernel
theorem d_Lw_law_430 : decode code 430 = .ok (.ifCond .eq (94), 3) := by decide +kernel
theorem d_Lw_law_433 : decode code 433 = .ok (.iconst 0, 1) := by decide +kernel
theorem d_Lw_law_434 : decode code 434 = .ok (.ireturn, 1) := by decide +kernel
theorem d_Lw_law_435 : decode code 435 = .ok (.aload_n 1, 1) := by decide +kernel
theorem d_Lw_law_436 : decode code 436 = .ok (.aload_n 0, 1) := by decide +kernel
theorem d_Lw_law_437 : decode code 437 = .ok (.iload_n 3, 1) := by decide +kernel
theorem d_Lw_law_438 : decode code 438 = .ok (.iconst 1, 1) := by decide +kernel
theorem d_Lw_law_439 : decode code 439 = .ok (.iadd, 1) := by decide +kernel
theorem d_Lw_law_440 : decode code 440 = .ok (.iaload, 1) := by decide +kernel
theorem d_Lw_law_441 : decode code 441 = .ok (.aload_n 0, 1) := by decide +kernel
theorem d_Lw_law_442 : decode code 442 = .ok (.iload_n 3, 1) := by decide +kernel
theorem d_Lw_law_443 : decode code 443 = .ok (.iconst 2, 1) := by decide +kernel
theorem d_Lw_law_444 : decode code 444 = .ok (.iadd, 1) := by decide +kernel
theorem d_Lw_law_445 : decode code 445 = .ok (.iaload, 1) := by decide +kernel
theorem d_Lw_law_446 : decode code 446 = .ok (.invokevirtual 78, 3) := by decide +kernel
theorem d_Lw_law_449 : decode code 449 = .ok (.aload_n 2, 1) := by decide +kernel
theorem d_Lw_law_450 : decode code 450 = .ok (.aload_n 0, 1) := by decide +kernel
theorem d_Lw_law_451 : decode code 451 = .ok (.iload_n 3, 1) := by decide +kernel
theorem d_Lw_law_452 : decode code 452 = .ok (.iconst 1, 1) := by decide +kernel
theorem d_Lw_law_453 : decode code 453 = .ok (.iadd, 1) := by decide +kernel
theorem d_Lw_law_454 : decode code 454 = .ok (.iaload, 1) := by decide +kernel
theorem d_Lw_law_455 : decode code 455 = .ok (.aload_n 0, 1) := by decide +kernel
theorem d_Lw_law_456 : decode code 456 = .ok (.iload_n 3, 1) := by decide +kernel
theorem d_Lw_law_457 : decode code 457 = .ok (.iconst 2, 1) := by decide +kernel
theorem d_Lw_law_458 : decode code 458 = .ok (.iadd, 1) := by decide +kernel
theorem d_Lw_law_459 : decode code 459 = .ok (.iaload, 1) := by decide +kernel
theorem d_Lw_law_460 : decode code 460 = .ok (.invokevirtual 82, 3) := by decide +kernel
theorem d_Lw_law_463 : decode code 463 = .ok (.if_icmp .eq (61), 3) := by decide +kernel
theorem d_Lw_law_466 : decode code 466 = .ok (.iconst 0, 1) := by decide +kernel
theorem d_Lw_law_467 : decode code 467 = .ok (.ireturn, 1) := by decide +kernel
theorem d_Lw_law_468 : decode code 468 = .ok (.aload_n 1, 1) := by decide +kernel
theorem d_Lw_law_469 : decode code 469 = .ok (.aload_n 0, 1) := by decide +kernel
theorem d_Lw_law_470 : decode code 470 = .ok (.iload_n 3, 1) := by decide +kernel
theorem d_Lw_law_471 : decode code 471 = .ok (.iconst 1, 1) := by decide +kernel
theorem d_Lw_law_472 : decode code 472 = .ok (.iadd, 1) := by decide +kernel
theorem d_Lw_law_473 : decode code 473 = .ok (.iaload, 1) := by decide +kernel
theorem d_Lw_law_474 : decode code 474 = .ok (.aload_n 0, 1) := by decide +kernel
theorem d_Lw_law_475 : decode code 475 = .ok (.iload_n 3, 1) := by decide +kernel
theorem d_Lw_law_476 : decode code 476 = .ok (.iconst 2, 1) := by decide +kernel
theorem d_Lw_law_477 : decode code 477 = .ok (.iadd, 1) := by decide +kernel
theorem d_Lw_law_478 : decode code 478 = .ok (.iaload, 1) := by decide +kernel
theorem d_Lw_law_479 : decode code 479 = .ok (.invokevirtual 83, 3) := by decide +kernel
theorem d_Lw_law_482 : decode code 482 = .ok (.aload_n 2, 1) := by decide +kernel
theorem d_Lw_law_483 : decode code 483 = .ok (.aload_n 0, 1) := by decide +kernel
theorem d_Lw_law_484 : decode code 484 = .ok (.iload_n 3, 1) := by decide +kernel
theorem d_Lw_law_485 : decode code 485 = .ok (.iconst 1, 1) := by decide +kernel
theorem d_Lw_law_486 : decode code 486 = .ok (.iadd, 1) := by decide +kernel
theorem d_Lw_law_487 : decode code 487 = .ok (.iaload, 1) := by decide +kernel
theorem d_Lw_law_488 : decode code 488 = .ok (.aload_n 0, 1) := by decide +kernel
theorem d_Lw_law_489 : decode code 489 = .ok (.iload_n 3, 1) := by decide +kernel
theorem d_Lw_law_490 : decode code 490 = .ok (.iconst 2, 1) := by decide +kernel
theorem d_Lw_law_491 : decode code 491 = .ok (.iadd, 1) := by decide +kernel
theorem d_Lw_law_492 : decode code 492 = .ok (.iaload, 1) := by decide +kernel
theorem d_Lw_law_493 : decode code 493 = .ok (.invokevirtual 86, 3) := by decide +kernel
theorem d_Lw_law_496 : decode code 496 = .ok (.if_icmp .eq (28), 3) := by decide +kernel
theorem d_Lw_law_499 : decode code 499 = .ok (.iconst 0, 1) := by decide +kernel
theorem d_Lw_law_500 : decode code 500 = .ok (.ireturn, 1) := by decide +kernel
theorem d_Lw_law_501 : decode code 501 = .ok (.aload_n 1, 1) := by decide +kernel
theorem d_Lw_law_502 : decode code 502 = .ok (.aload_n 0, 1) := by decide +kernel
theorem d_Lw_law_503 : decode code 503 = .ok (.iload_n 3, 1) := by decide +kernel
theorem d_Lw_law_504 : decode code 504 = .ok (.iconst 1, 1) := by decide +kernel
theorem d_Lw_law_505 : decode code 505 = .ok (.iadd, 1) := by decide +kernel
theorem d_Lw_law_506 : decode code 506 = .ok (.iaload, 1) := by decide +kernel
theorem d_Lw_law_507 : decode code 507 = .ok (.invokevirtual 87, 3) := by decide +kernel
theorem d_Lw_law_510 : decode code 510 = .ok (.aload_n 2, 1) := by decide +kernel
theorem d_Lw_law_511 : decode code 511 = .ok (.aload_n 0, 1) := by decide +kernel
theorem d_Lw_law_512 : decode code 512 = .ok (.iload_n 3, 1) := by decide +kernel
theorem d_Lw_law_513 : decode code 513 = .ok (.iconst 1, 1) := by decide +kernel
theorem d_Lw_law_514 : decode code 514 = .ok (.iadd, 1) := by decide +kernel
theorem d_Lw_law_515 : decode code 515 = .ok (.iaload, 1) := by decide +kernel
theorem d_Lw_law_516 : decode code 516 = .ok (.invokevirtual 90, 3) := by decide +kernel
theorem d_Lw_law_519 : decode code 519 = .ok (.if_icmp .eq (5), 3) := by decide +kernel
theorem d_Lw_law_522 : decode code 522 = .ok (.iconst 0, 1) := by decide +kernel
theorem d_Lw_law_523 : decode code 523 = .ok (.ireturn, 1) := by decide +kernel
theorem d_Lw_law_524 : decode code 524 = .ok (.iinc 3 (4), 3) := by decide +kernel
theorem d_Lw_law_527 : decode code 527 = .ok (.goto (-489), 3) := by decide +kernel
theorem d_Lw_law_530 : decode code 530 = .ok (.iconst 1, 1) := by decide +kernel
theorem d_Lw_law_531 : decode code 531 = .ok (.ireturn, 1) := by decide +kernel
end
section
/-! words of mathematics for the states -/
def zfill {α : Type} (f : Nat → α) (x : α) (n : Nat) : Nat → α := fun j => if j < n then x else f j
theorem zfill_0 {α : Type} (f : Nat → α) (x : α) : zfill f x 0 = f := by
  funext j
  simp [zfill]
theorem zfill_s {α : Type} (f : Nat → α) (x : α) (i : Nat) : va_up (zfill f x i) i x = zfill f x (i + 1) := by
  funext j
  simp only [va_up, zfill]
  by_cases h : j = i
  · subst h; simp
  · by_cases h2 : j < i
    · simp [h, h2, Nat.lt_succ_of_lt h2]
    · have h3 : ¬ j < i + 1 := by omega
      simp [h, h2, h3]
/-- a number that names one of n things -/
def isIn (x : Int32) (n : Nat) : Bool := decide (¬ x < 0) && decide (¬ nI n ≤ x)
def kN (x : Int32) : Nat := x.toNatClampNeg
theorem isIn_of {x : Int32} {n : Nat} (hn : n < 2 ^ 31) (h : isIn x n = true) : x = nI (kN x) ∧ kN x < n := by
  simp only [isIn, Bool.and_eq_true, decide_eq_true_eq] at h
  rcases pk_ix x hn with q | q | ⟨j, hj, rfl⟩
  · exact absurd q h.1
  · exact absurd q h.2
  · have e : kN (nI j) = j := nI_clamp (by omega)
    rw [e]
    exact ⟨rfl, hj⟩
theorem isIn_nI {k n : Nat} (hn : n < 2 ^ 31) (h : k < n) : isIn (nI k) n = true := by
  simp only [isIn, Bool.and_eq_true, decide_eq_true_eq]
  exact ⟨nI_pos (by omega), fun q => by have := (nI_leI (by omega) (by omega)).mp q; omega⟩
theorem kN_nI {k : Nat} (h : k < 2 ^ 31) : kN (nI k) = k := nI_clamp h
theorem isIn_f1 {x : Int32} {n : Nat} (h : x < 0) : isIn x n = false := by simp [isIn, h]
theorem isIn_f2 {x : Int32} {n : Nat} (h : nI n ≤ x) : isIn x n = false := by simp [isIn, h]
theorem isIn_t {x : Int32} {n : Nat} (h : ¬ x < 0) (h2 : ¬ nI n ≤ x) : isIn x n = true := by simp [isIn, h, h2]
/-- how many CHANGES there are up to a record, that lie above their page's number -/
def zchg (ks : Nat → Int32) (nm : Nat → Nat) : Nat → Nat
  | 0 => 0
  | n + 1 => zchg ks nm n + (if isIn (ks (n + 1)) 32 = true ∧ nm (kN (ks (n + 1)) / 4) < n + 1 then 1 else 0)
theorem zchg_le (ks : Nat → Int32) (nm : Nat → Nat) : ∀ n, zchg ks nm n ≤ n
  | 0 => Nat.le_refl _
  | n + 1 => by
    have := zchg_le ks nm n
    simp only [zchg]
    split <;> omega
/-- the table as the CHANGES up to a record say -/
def ztab (ks : Nat → Int32) (cs : Nat → Int64) (f : Nat → Int64) : Nat → Nat → Int64
  | 0 => f
  | n + 1 => if isIn (ks (n + 1)) 32 = true then va_up (ztab ks cs f n) (kN (ks (n + 1))) (cs (n + 1)) else ztab ks cs f n
/-- how many COMMITS there are up to a record -/
def zcom (ks : Nat → Int32) : Nat → Nat
  | 0 => 0
  | n + 1 => zcom ks n + (if ks (n + 1) = -1 then 1 else 0)
/-- the log behind d steps of an UNDO: keys, contents, table, pages' numbers -/
def zuK (ks : Nat → Int32) (tk : Nat → Nat) (L ch : Nat) : Nat → Nat → Int32
  | 0 => ks
  | d + 1 => va_up (zuK ks tk L ch d) (L + d + 1) (nI (tk (ch - (d + 1))))
def zuC (cs : Nat → Int64) (tr : Nat → Int64) (L ch : Nat) : Nat → Nat → Int64
  | 0 => cs
  | d + 1 => va_up (zuC cs tr L ch d) (L + d + 1) (tr (ch - (d + 1)))
def zuT (tb : Nat → Int64) (tk : Nat → Nat) (tr : Nat → Int64) (ch : Nat) : Nat → Nat → Int64
  | 0 => tb
  | d + 1 => va_up (zuT tb tk tr ch d) (tk (ch - (d + 1))) (tr (ch - (d + 1)))
def zuP (pn : Nat → Nat) (tk : Nat → Nat) (L ch : Nat) : Nat → Nat → Nat
  | 0 => pn
  | d + 1 => va_up (zuP pn tk L ch d) (tk (ch - (d + 1)) / 4) (L + d + 1)
/-- and its end -/
def zuL (L ch : Nat) : Nat := if ch = 0 then L else L + ch + 1
def zuKe (ks : Nat → Int32) (tk : Nat → Nat) (L ch : Nat) : Nat → Int32 := if ch = 0 then ks else va_up (zuK ks tk L ch ch) (L + ch + 1) (-2)
def zuCe (cs : Nat → Int64) (tr : Nat → Int64) (L ch : Nat) : Nat → Int64 := if ch = 0 then cs else va_up (zuC cs tr L ch ch) (L + ch + 1) 1000000000000
theorem zcom_le (ks : Nat → Int32) : ∀ n, zcom ks n ≤ n
  | 0 => Nat.le_refl _
  | n + 1 => by
    have := zcom_le ks n
    simp only [zcom]
    split <;> omega
theorem zm1 (x : Int32) : x + Int32.ofInt (-1) = x - 1 := by
  rw [Int32.sub_eq_add_neg]
  rfl
set_option maxHeartbeats 4000000 in
set_option maxRecDepth 100000 in
/-- Arrays.fill(int[], int) -/
theorem c_Ar_fill_2I (l : Launch) (dC : Nat → ClassId) (dI : Nat → Nat → Nat) (cT : Nat → ClassId) (sz : Nat) (h0 : Nat) (n : Nat) (f : Nat → Int32) (x : Int32) (hn : n < 2 ^ 30) : Met l y_Ar_fill_2I w_Ar_fill_2I ({ frames := 0, cells := 0, slots := 0, locals := 0 } : Room) (zPre (dC, dI) vwCl (zT cT) [.ref h0, .int x] ([(h0, .inl (cT 0, n, .inl f))]) sz) (zQ (dC, dI) vwCl (S := Unit) (fun zu => True) (fun zu => none) (fun zu => [(h0, .inl (cT 0, n, .inl (zfill f x n)))]) (va_A ([(h0, .inl (cT 0, n, .inl f))]) sz)) 0 0 (va_A ([(h0, .inl (cT 0, n, .inl f))]) sz) := by
  refine Met.ofW (cc := b_Ar_fill_2I) (maxL := 4) (ret := none) (by decide) rfl ?_
  intro p e s m args below meth c s₁ B hml hv
  obtain ⟨rfl, hsz, hP, hK, hD0, hE⟩ := hv
  have hx := B.exec
  have hb := B.bytes
  have hr := B.returns
  have hts := fun w h => atoms_spec (ws := w_Ar_fill_2I) B.pre w (List.mem_cons_of_mem _ h)
  have hown : s.vm.findClass R_Ar = some m.cls := findClass_of_methodNamed B.named
  have hlocks := B.notSynchronized
  subst hsz
  have hD := hD0.self (sz := s.heap.size)
  generalize hAe : va_A ([(h0, .inl (cT 0, n, .inl f))]) s.heap.size = A at hD ⊢
  have hA : ∀ q : Nat, s.heap.size ≤ q → A q := fun q h => by rw [← hAe]; exact Or.inr h
  have hS : va_S A s.heap s.heap [] := va_S.rf
  have hl := lv_entry ([.ref h0, .int x]) (n := 4) (Nat.le_of_ble_eq_true rfl)
  rw [lg_entry_eq]
  generalize (lg_sl ([.ref h0, .int x]) ++ List.replicate (4 - (lg_sl ([.ref h0, .int x])).length) Slot.unset).toArray = ls at hl ⊢
  have hl : lv_has ls 4 [(0, .ref h0), (1, .int x)] := hl
  refine lv_iconst (v := (nI 0)) hx hb d_Ar_fill_2I_0 (by decide) ?_
  refine lv_istore_n (lv' := [(2, .int (nI 0)), (0, .ref h0), (1, .int x)]) hx hb d_Ar_fill_2I_1 rfl hl (by decide) rfl (fun ls hl => ?_)
  refine lv_aload_n hx hb d_Ar_fill_2I_2 rfl (lv_at hl 1 rfl) ?_
  refine va_alen (v := nI n) hx hb hK hP 0 0 rfl rfl rfl d_Ar_fill_2I_3 ?_
  refine lv_istore_n (lv' := [(3, .int (nI n)), (2, .int (nI 0)), (0, .ref h0), (1, .int x)]) hx hb d_Ar_fill_2I_4 rfl hl (by decide) rfl (fun ls hl => ?_)
  have loop_5 : ∀ (fu : Nat) (i : Nat) (g : Nat → Int32), n - i < fu → (i ≤ n) → (g = zfill f x i) → ∀ (H : Heap) (locs : List Loc), va_P (dC, dI) vwCl ([(h0, .inl (cT 0, n, .inl g))]) H → va_D A ([(h0, .inl (cT 0, n, .inl g))]) → va_S A s.heap H locs → ∀ (ls : Array Slot), lv_has ls 4 [(0, .ref h0), (1, .int x), (2, .int (nI i)), (3, .int (nI n))] → W p l e (headSpec w_Ar_fill_2I ({ frames := 0, cells := 0, slots := 0, locals := 0 } : Room)).room s m ([.ref h0, .int x] : List Value).toArray below meth c H locs 0 0 (MQ below (zQ (dC, dI) vwCl (S := Unit) (fun zu => True) (fun zu => none) (fun zu => [(h0, .inl (cT 0, n, .inl (zfill f x n)))]) A) ([.ref h0, .int x] : List Value).toArray s 0 0 A) (F0 m 5 ls []) := by
    intro fu
    induction fu with
    | zero => intro _ _ hm; exact absurd hm (Nat.not_lt_zero _)
    | succ fu ih =>
      intro i g hm h1 h2 H locs hP hD hS ls hl
      refine lv_iload_n hx hb d_Ar_fill_2I_5 rfl (lv_at hl 2 rfl) ?_
      refine lv_iload_n hx hb d_Ar_fill_2I_6 rfl (lv_at hl 3 rfl) ?_
      refine zn_icmp_ge (tgt := 20) hx hb (a := i) (b := n) (by omega) (by omega) d_Ar_fill_2I_7 (by decide) (fun c_7 => ?_) (fun c_7 => ?_)
      · have hP9 := hP.sub (ws' := [(h0, .inl (cT 0, n, .inl g))]) [0] rfl
        have hD9 := hD.sub (ws' := [(h0, .inl (cT 0, n, .inl g))]) [0] (by decide) rfl
        have hg : g = zfill f x n := by rw [h2, show i = n by omega]
        rw [hg] at hP9 hD9
        exact W.vret hx hb hr (fun t ht hW => ⟨⟨(), trivial, rfl, by rw [ht]; exact hP9, hD9⟩, hS.F ht⟩) hS.2.2 d_Ar_fill_2I_20
      · refine lv_aload_n hx hb d_Ar_fill_2I_10 rfl (lv_at hl 0 rfl) ?_
        refine lv_iload_n hx hb d_Ar_fill_2I_11 rfl (lv_at hl 2 rfl) ?_
        refine lv_iload_n hx hb d_Ar_fill_2I_12 rfl (lv_at hl 1 rfl) ?_
        refine zn_iast hx hb hK hP hD hS 0 0 rfl rfl (i := i) (x := x) (by omega) (by omega) d_Ar_fill_2I_13 (fun H locs hP hD hS => ?_)
        have hP : va_P (dC, dI) vwCl ([(h0, .inl (cT 0, n, .inl (va_up g i x)))]) H := hP
        have hD : va_D A ([(h0, .inl (cT 0, n, .inl (va_up g i x)))]) := hD
        refine lv_iinc (v := (nI (i + 1))) (lv' := [(2, .int (nI (i + 1))), (0, .ref h0), (1, .int x), (3, .int (nI n))]) hx hb d_Ar_fill_2I_14 hl (k := 2) rfl (nI_1 _) (by decide) rfl (fun ls hl => ?_)
        refine lv_goto (tgt := 5) hx hb d_Ar_fill_2I_17 (by decide) ?_
        exact ih (i + 1) (va_up g i x) (by omega) (by first | omega | assumption) (by rw [h2, zfill_s]) H locs (hP.sub [0] rfl) (hD.sub [0] (by decide) rfl) hS ls (lv_sub hl [1, 2, 0, 3] rfl)
  exact loop_5 (n - 0 + 1) 0 f (by omega) (by first | omega | assumption) (by rw [zfill_0]) s.heap [] (hP.sub [0] rfl) (hD.sub [0] (by decide) rfl) hS ls (lv_sub hl [2, 3, 1, 0] rfl)
set_option maxHeartbeats 4000000 in
set_option maxRecDepth 100000 in
/-- Arrays.fill(long[], long) -/
theorem c_Ar_fill_2J (l : Launch) (dC : Nat → ClassId) (dI : Nat → Nat → Nat) (cT : Nat → ClassId) (sz : Nat) (h0 : Nat) (n : Nat) (f : Nat → Int64) (x : Int64) (hn : n < 2 ^ 30) : Met l y_Ar_fill_2J w_Ar_fill_2J ({ frames := 0, cells := 0, slots := 0, locals := 0 } : Room) (zPre (dC, dI) vwCl (zT cT) [.ref h0, .long x] ([(h0, .inl (cT 1, n, .inr (.inl f)))]) sz) (zQ (dC, dI) vwCl (S := Unit) (fun zu => True) (fun zu => none) (fun zu => [(h0, .inl (cT 1, n, .inr (.inl (zfill f x n))))]) (va_A ([(h0, .inl (cT 1, n, .inr (.inl f)))]) sz)) 0 0 (va_A ([(h0, .inl (cT 1, n, .inr (.inl f)))]) sz) := by
  refine Met.ofW (cc := b_Ar_fill_2J) (maxL := 5) (ret := none) (by decide) rfl ?_
  intro p e s m args below meth c s₁ B hml hv
  obtain ⟨rfl, hsz, hP, hK, hD0, hE⟩ := hv
  have hx := B.exec
  have hb := B.bytes
  have hr := B.returns
  have hts := fun w h => atoms_spec (ws := w_Ar_fill_2J) B.pre w (List.mem_cons_of_mem _ h)
  have hown : s.vm.findClass R_Ar = some m.cls := findClass_of_methodNamed B.named
  have hlocks := B.notSynchronized
  subst hsz
  have hD := hD0.self (sz := s.heap.size)
  generalize hAe : va_A ([(h0, .inl (cT 1, n, .inr (.inl f)))]) s.heap.size = A at hD ⊢
  have hA : ∀ q : Nat, s.heap.size ≤ q → A q := fun q h => by rw [← hAe]; exact Or.inr h
  have hS : va_S A s.heap s.heap [] := va_S.rf
  have hl := lv_entry ([.ref h0, .long x]) (n := 5) (Nat.le_of_ble_eq_true rfl)
  rw [lg_entry_eq]
  generalize (lg_sl ([.ref h0, .long x]) ++ List.replicate (5 - (lg_sl ([.ref h0, .long x])).length) Slot.unset).toArray = ls at hl ⊢
  have hl : lv_has ls 5 [(0, .ref h0), (1, .long x)] := hl
  refine lv_iconst (v := (nI 0)) hx hb d_Ar_fill_2J_0 (by decide) ?_
  refine lv_istore_n (lv' := [(3, .int (nI 0)), (0, .ref h0), (1, .long x)]) hx hb d_Ar_fill_2J_1 rfl hl (by decide) rfl (fun ls hl => ?_)
  refine lv_aload_n hx hb d_Ar_fill_2J_2 rfl (lv_at hl 1 rfl) ?_
  refine va_alen (v := nI n) hx hb hK hP 0 1 rfl rfl rfl d_Ar_fill_2J_3 ?_
  refine lv_istore (lv' := [(4, .int (nI n)), (3, .int (nI 0)), (0, .ref h0), (1, .long x)]) hx hb d_Ar_fill_2J_4 hl (by decide) rfl (fun ls hl => ?_)
  have loop_6 : ∀ (fu : Nat) (i : Nat) (g : Nat → Int64), n - i < fu → (i ≤ n) → (g = zfill f x i) → ∀ (H : Heap) (locs : List Loc), va_P (dC, dI) vwCl ([(h0, .inl (cT 1, n, .inr (.inl g)))]) H → va_D A ([(h0, .inl (cT 1, n, .inr (.inl g)))]) → va_S A s.heap H locs → ∀ (ls : Array Slot), lv_has ls 5 [(0, .ref h0), (1, .long x), (3, .int (nI i)), (4, .int (nI n))] → W p l e (headSpec w_Ar_fill_2J ({ frames := 0, cells := 0, slots := 0, locals := 0 } : Room)).room s m ([.ref h0, .long x] : List Value).toArray below meth c H locs 0 0 (MQ below (zQ (dC, dI) vwCl (S := Unit) (fun zu => True) (fun zu => none) (fun zu => [(h0, .inl (cT 1, n, .inr (.inl (zfill f x n))))]) A) ([.ref h0, .long x] : List Value).toArray s 0 0 A) (F0 m 6 ls []) := by
    intro fu
    induction fu with
    | zero => intro _ _ hm; exact absurd hm (Nat.not_lt_zero _)
    | succ fu ih =>
      intro i g hm h1 h2 H locs hP hD hS ls hl
      refine lv_iload_n hx hb d_Ar_fill_2J_6 rfl (lv_at hl 2 rfl) ?_
      refine lv_iload hx hb d_Ar_fill_2J_7 (lv_at hl 3 rfl) ?_
      refine zn_icmp_ge (tgt := 22) hx hb (a := i) (b := n) (by omega) (by omega) d_Ar_fill_2J_9 (by decide) (fun c_9 => ?_) (fun c_9 => ?_)
      · have hP9 := hP.sub (ws' := [(h0, .inl (cT 1, n, .inr (.inl g)))]) [0] rfl
        have hD9 := hD.sub (ws' := [(h0, .inl (cT 1, n, .inr (.inl g)))]) [0] (by decide) rfl
        have hg : g = zfill f x n := by rw [h2, show i = n by omega]
        rw [hg] at hP9 hD9
        exact W.vret hx hb hr (fun t ht hW => ⟨⟨(), trivial, rfl, by rw [ht]; exact hP9, hD9⟩, hS.F ht⟩) hS.2.2 d_Ar_fill_2J_22
      · refine lv_aload_n hx hb d_Ar_fill_2J_12 rfl (lv_at hl 0 rfl) ?_
        refine lv_iload_n hx hb d_Ar_fill_2J_13 rfl (lv_at hl 2 rfl) ?_
        refine lv_lload_n hx hb d_Ar_fill_2J_14 rfl (lv_at hl 1 rfl) ?_
        refine zn_last hx hb hK hP hD hS 0 1 rfl rfl (i := i) (x := x) (by omega) (by omega) d_Ar_fill_2J_15 (fun H locs hP hD hS => ?_)
        have hP : va_P (dC, dI) vwCl ([(h0, .inl (cT 1, n, .inr (.inl (va_up g i x))))]) H := hP
        have hD : va_D A ([(h0, .inl (cT 1, n, .inr (.inl (va_up g i x))))]) := hD
        refine lv_iinc (v := (nI (i + 1))) (lv' := [(3, .int (nI (i + 1))), (0, .ref h0), (1, .long x), (4, .int (nI n))]) hx hb d_Ar_fill_2J_16 hl (k := 2) rfl (nI_1 _) (by decide) rfl (fun ls hl => ?_)
        refine lv_goto (tgt := 6) hx hb d_Ar_fill_2J_19 (by decide) ?_
        exact ih (i + 1) (va_up g i x) (by omega) (by first | omega | assumption) (by rw [h2, zfill_s]) H locs (hP.sub [0] rfl) (hD.sub [0] (by decide) rfl) hS ls (lv_sub hl [1, 2, 0, 3] rfl)
  exact loop_6 (n - 0 + 1) 0 f (by omega) (by first | omega | assumption) (by rw [zfill_0]) s.heap [] (hP.sub [0] rfl) (hD.sub [0] (by decide) rfl) hS ls (lv_sub hl [2, 3, 1, 0] rfl)
set_option maxHeartbeats 4000000 in
set_option maxRecDepth 100000 in
theorem c_Lg_latest (l : Launch) (dC : Nat → ClassId) (dI : Nat → Nat → Nat) (cT : Nat → ClassId) (h0 : Nat) (lS : Nat) (aK : Nat) (aC : Nat) (aT : Nat) (aP : Nat) (lL : Nat) (lC : Nat) (lA : Nat) (lP : Nat) : Met l y_Lg_latest w_Lg_latest ({ frames := 0, cells := 0, slots := 0, locals := 0 } : Room) (zPreR (dC, dI) vwCl (zT cT) [.ref h0] ([(h0, .inr (1, [.int (nI lS), .ref aK, .ref aC, .ref aT, .ref aP, .int (nI lL), .int (nI lC), .int (nI lA), .int (nI lP)]))])) (k2_QcV (.int (nI lL))) 0 0 (fun _ => False) := by
  refine Met.ofW (cc := b_Lg_latest) (maxL := 1) (ret := (some .int)) (by decide) rfl ?_
  intro p e s m args below meth c s₁ B hml hv
  obtain ⟨rfl, hP, hK, hE⟩ := hv
  have hx := B.exec
  have hb := B.bytes
  have hr := B.returns
  have hts := fun w h => atoms_spec (ws := w_Lg_latest) B.pre w (List.mem_cons_of_mem _ h)
  have hown : s.vm.findClass R_Lg = some m.cls := findClass_of_methodNamed B.named
  have hlocks := B.notSynchronized
  have hl := lv_entry ([.ref h0]) (n := 1) (Nat.le_of_ble_eq_true rfl)
  rw [lg_entry_eq]
  generalize (lg_sl ([.ref h0]) ++ List.replicate (1 - (lg_sl ([.ref h0])).length) Slot.unset).toArray = ls at hl ⊢
  have hl : lv_has ls 1 [(0, .ref h0)] := hl
  refine lv_aload_n hx hb d_Lg_latest_0 rfl (lv_at hl 0 rfl) ?_
  refine va_get (D := (dC, dI)) (ci := 1) (v := .int (nI lL)) (C := R_Lg) (T := F_Lg) (N := 9) hx hb hts i_Lg hown hK hP 0 rfl rfl 5 (by decide) (hts _ wd_81) (fun _ h9 => h9) rfl d_Lg_latest_1 ?_
  exact W.iret hx hb hr (fun t ht hW => ⟨rfl, ht⟩) (fun q h => by cases h) d_Lg_latest_4
set_option maxHeartbeats 4000000 in
set_option maxRecDepth 100000 in
theorem c_Lg_commits (l : Launch) (dC : Nat → ClassId) (dI : Nat → Nat → Nat) (cT : Nat → ClassId) (h0 : Nat) (lS : Nat) (aK : Nat) (aC : Nat) (aT : Nat) (aP : Nat) (lL : Nat) (lC : Nat) (lA : Nat) (lP : Nat) : Met l y_Lg_commits w_Lg_commits ({ frames := 0, cells := 0, slots := 0, locals := 0 } : Room) (zPreR (dC, dI) vwCl (zT cT) [.ref h0] ([(h0, .inr (1, [.int (nI lS), .ref aK, .ref aC, .ref aT, .ref aP, .int (nI lL), .int (nI lC), .int (nI lA), .int (nI lP)]))])) (k2_QcV (.int (nI lC))) 0 0 (fun _ => False) := by
  refine Met.ofW (cc := b_Lg_commits) (maxL := 1) (ret := (some .int)) (by decide) rfl ?_
  intro p e s m args below meth c s₁ B hml hv
  obtain ⟨rfl, hP, hK, hE⟩ := hv
  have hx := B.exec
  have hb := B.bytes
  have hr := B.returns
  have hts := fun w h => atoms_spec (ws := w_Lg_commits) B.pre w (List.mem_cons_of_mem _ h)
  have hown : s.vm.findClass R_Lg = some m.cls := findClass_of_methodNamed B.named
  have hlocks := B.notSynchronized
  have hl := lv_entry ([.ref h0]) (n := 1) (Nat.le_of_ble_eq_true rfl)
  rw [lg_entry_eq]
  generalize (lg_sl ([.ref h0]) ++ List.replicate (1 - (lg_sl ([.ref h0])).length) Slot.unset).toArray = ls at hl ⊢
  have hl : lv_has ls 1 [(0, .ref h0)] := hl
  refine lv_aload_n hx hb d_Lg_commits_0 rfl (lv_at hl 0 rfl) ?_
  refine va_get (D := (dC, dI)) (ci := 1) (v := .int (nI lC)) (C := R_Lg) (T := F_Lg) (N := 9) hx hb hts i_Lg hown hK hP 0 rfl rfl 6 (by decide) (hts _ wd_82) (fun _ h9 => h9) rfl d_Lg_commits_1 ?_
  exact W.iret hx hb hr (fun t ht hW => ⟨rfl, ht⟩) (fun q h => by cases h) d_Lg_commits_4
set_option maxHeartbeats 4000000 in
set_option maxRecDepth 100000 in
theorem c_Lg_archived (l : Launch) (dC : Nat → ClassId) (dI : Nat → Nat → Nat) (cT : Nat → ClassId) (h0 : Nat) (lS : Nat) (aK : Nat) (aC : Nat) (aT : Nat) (aP : Nat) (lL : Nat) (lC : Nat) (lA : Nat) (lP : Nat) : Met l y_Lg_archived w_Lg_archived ({ frames := 0, cells := 0, slots := 0, locals := 0 } : Room) (zPreR (dC, dI) vwCl (zT cT) [.ref h0] ([(h0, .inr (1, [.int (nI lS), .ref aK, .ref aC, .ref aT, .ref aP, .int (nI lL), .int (nI lC), .int (nI lA), .int (nI lP)]))])) (k2_QcV (.int (nI lA))) 0 0 (fun _ => False) := by
  refine Met.ofW (cc := b_Lg_archived) (maxL := 1) (ret := (some .int)) (by decide) rfl ?_
  intro p e s m args below meth c s₁ B hml hv
  obtain ⟨rfl, hP, hK, hE⟩ := hv
  have hx := B.exec
  have hb := B.bytes
  have hr := B.returns
  have hts := fun w h => atoms_spec (ws := w_Lg_archived) B.pre w (List.mem_cons_of_mem _ h)
  have hown : s.vm.findClass R_Lg = some m.cls := findClass_of_methodNamed B.named
  have hlocks := B.notSynchronized
  have hl := lv_entry ([.ref h0]) (n := 1) (Nat.le_of_ble_eq_true rfl)
  rw [lg_entry_eq]
  generalize (lg_sl ([.ref h0]) ++ List.replicate (1 - (lg_sl ([.ref h0])).length) Slot.unset).toArray = ls at hl ⊢
  have hl : lv_has ls 1 [(0, .ref h0)] := hl
  refine lv_aload_n hx hb d_Lg_archived_0 rfl (lv_at hl 0 rfl) ?_
  refine va_get (D := (dC, dI)) (ci := 1) (v := .int (nI lA)) (C := R_Lg) (T := F_Lg) (N := 9) hx hb hts i_Lg hown hK hP 0 rfl rfl 7 (by decide) (hts _ wd_83) (fun _ h9 => h9) rfl d_Lg_archived_1 ?_
  exact W.iret hx hb hr (fun t ht hW => ⟨rfl, ht⟩) (fun q h => by cases h) d_Lg_archived_4
set_option maxHeartbeats 4000000 in
set_option maxRecDepth 100000 in
theorem c_Lg_purged (l : Launch) (dC : Nat → ClassId) (dI : Nat → Nat → Nat) (cT : Nat → ClassId) (h0 : Nat) (lS : Nat) (aK : Nat) (aC : Nat) (aT : Nat) (aP : Nat) (lL : Nat) (lC : Nat) (lA : Nat) (lP : Nat) : Met l y_Lg_purged w_Lg_purged ({ frames := 0, cells := 0, slots := 0, locals := 0 } : Room) (zPreR (dC, dI) vwCl (zT cT) [.ref h0] ([(h0, .inr (1, [.int (nI lS), .ref aK, .ref aC, .ref aT, .ref aP, .int (nI lL), .int (nI lC), .int (nI lA), .int (nI lP)]))])) (k2_QcV (.int (nI lP))) 0 0 (fun _ => False) := by
  refine Met.ofW (cc := b_Lg_purged) (maxL := 1) (ret := (some .int)) (by decide) rfl ?_
  intro p e s m args below meth c s₁ B hml hv
  obtain ⟨rfl, hP, hK, hE⟩ := hv
  have hx := B.exec
  have hb := B.bytes
  have hr := B.returns
  have hts := fun w h => atoms_spec (ws := w_Lg_purged) B.pre w (List.mem_cons_of_mem _ h)
  have hown : s.vm.findClass R_Lg = some m.cls := findClass_of_methodNamed B.named
  have hlocks := B.notSynchronized
  have hl := lv_entry ([.ref h0]) (n := 1) (Nat.le_of_ble_eq_true rfl)
  rw [lg_entry_eq]
  generalize (lg_sl ([.ref h0]) ++ List.replicate (1 - (lg_sl ([.ref h0])).length) Slot.unset).toArray = ls at hl ⊢
  have hl : lv_has ls 1 [(0, .ref h0)] := hl
  refine lv_aload_n hx hb d_Lg_purged_0 rfl (lv_at hl 0 rfl) ?_
  refine va_get (D := (dC, dI)) (ci := 1) (v := .int (nI lP)) (C := R_Lg) (T := F_Lg) (N := 9) hx hb hts i_Lg hown hK hP 0 rfl rfl 8 (by decide) (hts _ wd_84) (fun _ h9 => h9) rfl d_Lg_purged_1 ?_
  exact W.iret hx hb hr (fun t ht hW => ⟨rfl, ht⟩) (fun q h => by cases h) d_Lg_purged_4
set_option maxHeartbeats 4000000 in
set_option maxRecDepth 100000 in
theorem c_Lg_contentOf (l : Launch) (dC : Nat → ClassId) (dI : Nat → Nat → Nat) (cT : Nat → ClassId) (h0 : Nat) (lS : Nat) (aK : Nat) (aC : Nat) (aT : Nat) (aP : Nat) (lL : Nat) (lC : Nat) (lA : Nat) (lP : Nat) (k : Nat) (tb : Nat → Int64) (hk : k < 32) : Met l y_Lg_contentOf w_Lg_contentOf ({ frames := 0, cells := 0, slots := 0, locals := 0 } : Room) (zPreR (dC, dI) vwCl (zT cT) [.ref h0, .int (nI k)] ([(h0, .inr (1, [.int (nI lS), .ref aK, .ref aC, .ref aT, .ref aP, .int (nI lL), .int (nI lC), .int (nI lA), .int (nI lP)])), (aT, .inl (cT 1, 32, .inr (.inl tb)))])) (k2_QcV (.long (tb k))) 0 0 (fun _ => False) := by
  refine Met.ofW (cc := b_Lg_contentOf) (maxL := 2) (ret := (some .long)) (by decide) rfl ?_
  intro p e s m args below meth c s₁ B hml hv
  obtain ⟨rfl, hP, hK, hE⟩ := hv
  have hx := B.exec
  have hb := B.bytes
  have hr := B.returns
  have hts := fun w h => atoms_spec (ws := w_Lg_contentOf) B.pre w (List.mem_cons_of_mem _ h)
  have hown : s.vm.findClass R_Lg = some m.cls := findClass_of_methodNamed B.named
  have hlocks := B.notSynchronized
  have hl := lv_entry ([.ref h0, .int (nI k)]) (n := 2) (Nat.le_of_ble_eq_true rfl)
  rw [lg_entry_eq]
  generalize (lg_sl ([.ref h0, .int (nI k)]) ++ List.replicate (2 - (lg_sl ([.ref h0, .int (nI k)])).length) Slot.unset).toArray = ls at hl ⊢
  have hl : lv_has ls 2 [(0, .ref h0), (1, .int (nI k))] := hl
  refine lv_aload_n hx hb d_Lg_contentOf_0 rfl (lv_at hl 0 rfl) ?_
  refine va_get (D := (dC, dI)) (ci := 1) (v := .ref aT) (C := R_Lg) (T := F_Lg) (N := 9) hx hb hts i_Lg hown hK hP 0 rfl rfl 3 (by decide) (hts _ wd_79) (fun _ h9 => h9) rfl d_Lg_contentOf_1 ?_
  refine lv_iload_n hx hb d_Lg_contentOf_4 rfl (lv_at hl 1 rfl) ?_
  refine zn_lald hx hb hK hP 1 1 rfl rfl (i := k) (by omega) (by omega) d_Lg_contentOf_5 ?_
  exact W.lret hx hb hr (fun t ht hW => ⟨rfl, ht⟩) (fun q h => by cases h) d_Lg_contentOf_6
set_option maxHeartbeats 4000000 in
set_option maxRecDepth 100000 in
theorem c_Lg_numberOfPage (l : Launch) (dC : Nat → ClassId) (dI : Nat → Nat → Nat) (cT : Nat → ClassId) (h0 : Nat) (lS : Nat) (aK : Nat) (aC : Nat) (aT : Nat) (aP : Nat) (lL : Nat) (lC : Nat) (lA : Nat) (lP : Nat) (k : Nat) (pn : Nat → Nat) (hk : k < 8) : Met l y_Lg_numberOfPage w_Lg_numberOfPage ({ frames := 0, cells := 0, slots := 0, locals := 0 } : Room) (zPreR (dC, dI) vwCl (zT cT) [.ref h0, .int (nI k)] ([(h0, .inr (1, [.int (nI lS), .ref aK, .ref aC, .ref aT, .ref aP, .int (nI lL), .int (nI lC), .int (nI lA), .int (nI lP)])), (aP, .inl (cT 0, 8, .inl (fun j => nI (pn j))))])) (k2_QcV (.int (nI (pn k)))) 0 0 (fun _ => False) := by
  refine Met.ofW (cc := b_Lg_numberOfPage) (maxL := 2) (ret := (some .int)) (by decide) rfl ?_
  intro p e s m args below meth c s₁ B hml hv
  obtain ⟨rfl, hP, hK, hE⟩ := hv
  have hx := B.exec
  have hb := B.bytes
  have hr := B.returns
  have hts := fun w h => atoms_spec (ws := w_Lg_numberOfPage) B.pre w (List.mem_cons_of_mem _ h)
  have hown : s.vm.findClass R_Lg = some m.cls := findClass_of_methodNamed B.named
  have hlocks := B.notSynchronized
  have hl := lv_entry ([.ref h0, .int (nI k)]) (n := 2) (Nat.le_of_ble_eq_true rfl)
  rw [lg_entry_eq]
  generalize (lg_sl ([.ref h0, .int (nI k)]) ++ List.replicate (2 - (lg_sl ([.ref h0, .int (nI k)])).length) Slot.unset).toArray = ls at hl ⊢
  have hl : lv_has ls 2 [(0, .ref h0), (1, .int (nI k))] := hl
  refine lv_aload_n hx hb d_Lg_numberOfPage_0 rfl (lv_at hl 0 rfl) ?_
  refine va_get (D := (dC, dI)) (ci := 1) (v := .ref aP) (C := R_Lg) (T := F_Lg) (N := 9) hx hb hts i_Lg hown hK hP 0 rfl rfl 4 (by decide) (hts _ wd_80) (fun _ h9 => h9) rfl d_Lg_numberOfPage_1 ?_
  refine lv_iload_n hx hb d_Lg_numberOfPage_4 rfl (lv_at hl 1 rfl) ?_
  refine zn_iald hx hb hK hP 1 0 rfl rfl (i := k) (by omega) (by omega) d_Lg_numberOfPage_5 ?_
  exact W.iret hx hb hr (fun t ht hW => ⟨rfl, ht⟩) (fun q h => by cases h) d_Lg_numberOfPage_6
set_option maxHeartbeats 4000000 in
set_option maxRecDepth 100000 in
theorem c_Lg_left (l : Launch) (dC : Nat → ClassId) (dI : Nat → Nat → Nat) (cT : Nat → ClassId) (h0 : Nat) (lS : Nat) (aK : Nat) (aC : Nat) (aT : Nat) (aP : Nat) (lL : Nat) (lC : Nat) (lA : Nat) (lP : Nat) (hm : (lA + 4) * lS < 2 ^ 31) (hl0 : lL ≤ min ((lA + 4) * lS) 800) : Met l y_Lg_left w_Lg_left ({ frames := 1, cells := 0, slots := 0, locals := 21 } : Room) (zPreR (dC, dI) vwCl (zT cT) [.ref h0] ([(h0, .inr (1, [.int (nI lS), .ref aK, .ref aC, .ref aT, .ref aP, .int (nI lL), .int (nI lC), .int (nI lA), .int (nI lP)]))])) (k2_QcV (.int (nI (min ((lA + 4) * lS) 800 - lL)))) 0 0 (fun _ => False) := by
  refine Met.ofW (cc := b_Lg_left) (maxL := 1) (ret := (some .int)) (by decide) rfl ?_
  intro p e s m args below meth c s₁ B hml hv
  obtain ⟨rfl, hP, hK, hE⟩ := hv
  have hx := B.exec
  have hb := B.bytes
  have hr := B.returns
  have hts := fun w h => atoms_spec (ws := w_Lg_left) B.pre w (List.mem_cons_of_mem _ h)
  have hown : s.vm.findClass R_Lg = some m.cls := findClass_of_methodNamed B.named
  have hlocks := B.notSynchronized
  have hl := lv_entry ([.ref h0]) (n := 1) (Nat.le_of_ble_eq_true rfl)
  rw [lg_entry_eq]
  generalize (lg_sl ([.ref h0]) ++ List.replicate (1 - (lg_sl ([.ref h0])).length) Slot.unset).toArray = ls at hl ⊢
  have hl : lv_has ls 1 [(0, .ref h0)] := hl
  refine lv_aload_n hx hb d_Lg_left_0 rfl (lv_at hl 0 rfl) ?_
  refine va_get (D := (dC, dI)) (ci := 1) (v := .int (nI lA)) (C := R_Lg) (T := F_Lg) (N := 9) hx hb hts i_Lg hown hK hP 0 rfl rfl 7 (by decide) (hts _ wd_83) (fun _ h9 => h9) rfl d_Lg_left_1 ?_
  refine lv_iconst (v := (nI 4)) hx hb d_Lg_left_4 (by decide) ?_
  refine zn_iadd hx hb d_Lg_left_5 ?_
  refine lv_aload_n hx hb d_Lg_left_6 rfl (lv_at hl 0 rfl) ?_
  refine va_get (D := (dC, dI)) (ci := 1) (v := .int (nI lS)) (C := R_Lg) (T := F_Lg) (N := 9) hx hb hts i_Lg hown hK hP 0 rfl rfl 0 (by decide) (hts _ wd_76) (fun _ h9 => h9) rfl d_Lg_left_7 ?_
  refine zn_imul hx hb d_Lg_left_10 ?_
  refine lv_sipush (v := (nI 800)) hx hb d_Lg_left_11 (by decide) ?_
  refine zn_mmin hx hb (by rw [hml]; exact hl.1.symm) hown (hts _ wd_205) (hts _ wd_63) (hts _ wd_5) (hts _ wd_64) (Nat.le_of_ble_eq_true rfl) (Nat.le_of_ble_eq_true rfl) (Nat.le_of_ble_eq_true rfl) (Nat.le_of_ble_eq_true rfl) (a := (lA + 4) * lS) (b := 800) (by omega) (by omega) d_Lg_left_14 ?_
  refine lv_aload_n hx hb d_Lg_left_17 rfl (lv_at hl 0 rfl) ?_
  refine va_get (D := (dC, dI)) (ci := 1) (v := .int (nI lL)) (C := R_Lg) (T := F_Lg) (N := 9) hx hb hts i_Lg hown hK hP 0 rfl rfl 5 (by decide) (hts _ wd_81) (fun _ h9 => h9) rfl d_Lg_left_18 ?_
  refine zn_isub hx hb (by omega) d_Lg_left_21 ?_
  exact W.iret hx hb hr (fun t ht hW => ⟨rfl, ht⟩) (fun q h => by cases h) d_Lg_left_22
set_option maxHeartbeats 4000000 in
set_option maxRecDepth 100000 in
theorem c_Lg_online (l : Launch) (dC : Nat → ClassId) (dI : Nat → Nat → Nat) (cT : Nat → ClassId) (h0 : Nat) (lS : Nat) (aK : Nat) (aC : Nat) (aT : Nat) (aP : Nat) (lL : Nat) (lC : Nat) (lA : Nat) (lP : Nat) (h0s : 0 < lS) (hs : lS ≤ 8) (hL : lL ≤ 800) (hA0 : lA ≤ (lL + lS - 1) / lS) (hA1 : (lL + lS - 1) / lS < 2 ^ 31) : Met l y_Lg_online w_Lg_online ({ frames := 0, cells := 0, slots := 0, locals := 0 } : Room) (zPreR (dC, dI) vwCl (zT cT) [.ref h0] ([(h0, .inr (1, [.int (nI lS), .ref aK, .ref aC, .ref aT, .ref aP, .int (nI lL), .int (nI lC), .int (nI lA), .int (nI lP)]))])) (k2_QcV (.int (nI ((lL + lS - 1) / lS - lA)))) 0 0 (fun _ => False) := by
  refine Met.ofW (cc := b_Lg_online) (maxL := 2) (ret := (some .int)) (by decide) rfl ?_
  intro p e s m args below meth c s₁ B hml hv
  obtain ⟨rfl, hP, hK, hE⟩ := hv
  have hx := B.exec
  have hb := B.bytes
  have hr := B.returns
  have hts := fun w h => atoms_spec (ws := w_Lg_online) B.pre w (List.mem_cons_of_mem _ h)
  have hown : s.vm.findClass R_Lg = some m.cls := findClass_of_methodNamed B.named
  have hlocks := B.notSynchronized
  have hl := lv_entry ([.ref h0]) (n := 2) (Nat.le_of_ble_eq_true rfl)
  rw [lg_entry_eq]
  generalize (lg_sl ([.ref h0]) ++ List.replicate (2 - (lg_sl ([.ref h0])).length) Slot.unset).toArray = ls at hl ⊢
  have hl : lv_has ls 2 [(0, .ref h0)] := hl
  refine lv_aload_n hx hb d_Lg_online_0 rfl (lv_at hl 0 rfl) ?_
  refine va_get (D := (dC, dI)) (ci := 1) (v := .int (nI lL)) (C := R_Lg) (T := F_Lg) (N := 9) hx hb hts i_Lg hown hK hP 0 rfl rfl 5 (by decide) (hts _ wd_81) (fun _ h9 => h9) rfl d_Lg_online_1 ?_
  refine lv_aload_n hx hb d_Lg_online_4 rfl (lv_at hl 0 rfl) ?_
  refine va_get (D := (dC, dI)) (ci := 1) (v := .int (nI lS)) (C := R_Lg) (T := F_Lg) (N := 9) hx hb hts i_Lg hown hK hP 0 rfl rfl 0 (by decide) (hts _ wd_76) (fun _ h9 => h9) rfl d_Lg_online_5 ?_
  refine zn_iadd hx hb d_Lg_online_8 ?_
  refine lv_iconst (v := (nI 1)) hx hb d_Lg_online_9 (by decide) ?_
  refine zn_isub hx hb (by omega) d_Lg_online_10 ?_
  refine lv_aload_n hx hb d_Lg_online_11 rfl (lv_at hl 0 rfl) ?_
  refine va_get (D := (dC, dI)) (ci := 1) (v := .int (nI lS)) (C := R_Lg) (T := F_Lg) (N := 9) hx hb hts i_Lg hown hK hP 0 rfl rfl 0 (by decide) (hts _ wd_76) (fun _ h9 => h9) rfl d_Lg_online_12 ?_
  refine zn_idiv hx hb (by omega) (by omega) (by omega) d_Lg_online_15 ?_
  refine lv_istore_n (lv' := [(1, .int (nI (((lL + lS) - 1) / lS))), (0, .ref h0)]) hx hb d_Lg_online_16 rfl hl (by decide) rfl (fun ls hl => ?_)
  refine lv_iload_n hx hb d_Lg_online_17 rfl (lv_at hl 0 rfl) ?_
  refine lv_aload_n hx hb d_Lg_online_18 rfl (lv_at hl 1 rfl) ?_
  refine va_get (D := (dC, dI)) (ci := 1) (v := .int (nI lA)) (C := R_Lg) (T := F_Lg) (N := 9) hx hb hts i_Lg hown hK hP 0 rfl rfl 7 (by decide) (hts _ wd_83) (fun _ h9 => h9) rfl d_Lg_online_19 ?_
  refine zn_isub hx hb (by omega) d_Lg_online_22 ?_
  exact W.iret hx hb hr (fun t ht hW => ⟨rfl, ht⟩) (fun q h => by cases h) d_Lg_online_23
set_option maxHeartbeats 4000000 in
set_option maxRecDepth 100000 in
theorem c_Lg_addRecord (l : Launch) (dC : Nat → ClassId) (dI : Nat → Nat → Nat) (cT : Nat → ClassId) (sz : Nat) (h0 : Nat) (lS : Nat) (aK : Nat) (aC : Nat) (aT : Nat) (aP : Nat) (lL : Nat) (lC : Nat) (lA : Nat) (lP : Nat) (key : Int32) (ct : Int64) (ks : Nat → Int32) (cs : Nat → Int64) (hL : lL < 800) : Met l y_Lg_addRecord w_Lg_addRecord ({ frames := 0, cells := 0, slots := 0, locals := 0 } : Room) (zPre (dC, dI) vwCl (zT cT) [.ref h0, .int key, .long ct] ([(h0, .inr (1, [.int (nI lS), .ref aK, .ref aC, .ref aT, .ref aP, .int (nI lL), .int (nI lC), .int (nI lA), .int (nI lP)])), (aK, .inl (cT 0, 801, .inl ks)), (aC, .inl (cT 1, 801, .inr (.inl cs)))]) sz) (zQ (dC, dI) vwCl (S := Unit) (fun zu => True) (fun zu => none) (fun zu => [(h0, .inr (1, [.int (nI lS), .ref aK, .ref aC, .ref aT, .ref aP, .int (nI (lL + 1)), .int (nI lC), .int (nI lA), .int (nI lP)])), (aK, .inl (cT 0, 801, .inl (va_up ks (lL + 1) key))), (aC, .inl (cT 1, 801, .inr (.inl (va_up cs (lL + 1) ct))))]) (va_A ([(h0, .inr (1, [.int (nI lS), .ref aK, .ref aC, .ref aT, .ref aP, .int (nI lL), .int (nI lC), .int (nI lA), .int (nI lP)])), (aK, .inl (cT 0, 801, .inl ks)), (aC, .inl (cT 1, 801, .inr (.inl cs)))]) sz)) 0 0 (va_A ([(h0, .inr (1, [.int (nI lS), .ref aK, .ref aC, .ref aT, .ref aP, .int (nI lL), .int (nI lC), .int (nI lA), .int (nI lP)])), (aK, .inl (cT 0, 801, .inl ks)), (aC, .inl (cT 1, 801, .inr (.inl cs)))]) sz) := by
  refine Met.ofW (cc := b_Lg_addRecord) (maxL := 4) (ret := none) (by decide) rfl ?_
  intro p e s m args below meth c s₁ B hml hv
  obtain ⟨rfl, hsz, hP, hK, hD0, hE⟩ := hv
  have hx := B.exec
  have hb := B.bytes
  have hr := B.returns
  have hts := fun w h => atoms_spec (ws := w_Lg_addRecord) B.pre w (List.mem_cons_of_mem _ h)
  have hown : s.vm.findClass R_Lg = some m.cls := findClass_of_methodNamed B.named
  have hlocks := B.notSynchronized
  subst hsz
  have hD := hD0.self (sz := s.heap.size)
  generalize hAe : va_A ([(h0, .inr (1, [.int (nI lS), .ref aK, .ref aC, .ref aT, .ref aP, .int (nI lL), .int (nI lC), .int (nI lA), .int (nI lP)])), (aK, .inl (cT 0, 801, .inl ks)), (aC, .inl (cT 1, 801, .inr (.inl cs)))]) s.heap.size = A at hD ⊢
  have hA : ∀ q : Nat, s.heap.size ≤ q → A q := fun q h => by rw [← hAe]; exact Or.inr h
  have hS : va_S A s.heap s.heap [] := va_S.rf
  have hl := lv_entry ([.ref h0, .int key, .long ct]) (n := 4) (Nat.le_of_ble_eq_true rfl)
  rw [lg_entry_eq]
  generalize (lg_sl ([.ref h0, .int key, .long ct]) ++ List.replicate (4 - (lg_sl ([.ref h0, .int key, .long ct])).length) Slot.unset).toArray = ls at hl ⊢
  have hl : lv_has ls 4 [(0, .ref h0), (1, .int key), (2, .long ct)] := hl
  refine lv_aload_n hx hb d_Lg_addRecord_0 rfl (lv_at hl 0 rfl) ?_
  refine lv_dup hx hb d_Lg_addRecord_1 rfl ?_
  refine va_get (D := (dC, dI)) (ci := 1) (v := .int (nI lL)) (C := R_Lg) (T := F_Lg) (N := 9) hx hb hts i_Lg hown hK hP 0 rfl rfl 5 (by decide) (hts _ wd_81) (fun _ h9 => h9) rfl d_Lg_addRecord_2 ?_
  refine lv_iconst (v := (nI 1)) hx hb d_Lg_addRecord_5 (by decide) ?_
  refine zn_iadd hx hb d_Lg_addRecord_6 ?_
  refine va_put (D := (dC, dI)) (ci := 1) (v := .int (nI (lL + 1))) (ty := .int) (C := R_Lg) (T := F_Lg) (N := 9) hx hb hts i_Lg t_Lg t_Lg_ok n_Lg hown hK hP hD hS 0 rfl rfl 5 (by decide) (hts _ wd_81) (fun _ h9 => h9) rfl (by decide +kernel) rfl rfl (Nat.le_of_ble_eq_true rfl) d_Lg_addRecord_7 (fun H locs hP hD hS => ?_)
  have hP : va_P (dC, dI) vwCl ([(h0, .inr (1, [.int (nI lS), .ref aK, .ref aC, .ref aT, .ref aP, .int (nI (lL + 1)), .int (nI lC), .int (nI lA), .int (nI lP)])), (aK, .inl (cT 0, 801, .inl ks)), (aC, .inl (cT 1, 801, .inr (.inl cs)))]) H := hP
  have hD : va_D A ([(h0, .inr (1, [.int (nI lS), .ref aK, .ref aC, .ref aT, .ref aP, .int (nI (lL + 1)), .int (nI lC), .int (nI lA), .int (nI lP)])), (aK, .inl (cT 0, 801, .inl ks)), (aC, .inl (cT 1, 801, .inr (.inl cs)))]) := hD
  refine lv_aload_n hx hb d_Lg_addRecord_10 rfl (lv_at hl 0 rfl) ?_
  refine va_get (D := (dC, dI)) (ci := 1) (v := .ref aK) (C := R_Lg) (T := F_Lg) (N := 9) hx hb hts i_Lg hown hK hP 0 rfl rfl 1 (by decide) (hts _ wd_77) (fun _ h9 => h9) rfl d_Lg_addRecord_11 ?_
  refine lv_aload_n hx hb d_Lg_addRecord_14 rfl (lv_at hl 0 rfl) ?_
  refine va_get (D := (dC, dI)) (ci := 1) (v := .int (nI (lL + 1))) (C := R_Lg) (T := F_Lg) (N := 9) hx hb hts i_Lg hown hK hP 0 rfl rfl 5 (by decide) (hts _ wd_81) (fun _ h9 => h9) rfl d_Lg_addRecord_15 ?_
  refine lv_iload_n hx hb d_Lg_addRecord_18 rfl (lv_at hl 1 rfl) ?_
  refine zn_iast hx hb hK hP hD hS 1 0 rfl rfl (i := lL + 1) (x := key) (by omega) (by omega) d_Lg_addRecord_19 (fun H locs hP hD hS => ?_)
  have hP : va_P (dC, dI) vwCl ([(h0, .inr (1, [.int (nI lS), .ref aK, .ref aC, .ref aT, .ref aP, .int (nI (lL + 1)), .int (nI lC), .int (nI lA), .int (nI lP)])), (aK, .inl (cT 0, 801, .inl (va_up ks (lL + 1) key))), (aC, .inl (cT 1, 801, .inr (.inl cs)))]) H := hP
  have hD : va_D A ([(h0, .inr (1, [.int (nI lS), .ref aK, .ref aC, .ref aT, .ref aP, .int (nI (lL + 1)), .int (nI lC), .int (nI lA), .int (nI lP)])), (aK, .inl (cT 0, 801, .inl (va_up ks (lL + 1) key))), (aC, .inl (cT 1, 801, .inr (.inl cs)))]) := hD
  refine lv_aload_n hx hb d_Lg_addRecord_20 rfl (lv_at hl 0 rfl) ?_
  refine va_get (D := (dC, dI)) (ci := 1) (v := .ref aC) (C := R_Lg) (T := F_Lg) (N := 9) hx hb hts i_Lg hown hK hP 0 rfl rfl 2 (by decide) (hts _ wd_78) (fun _ h9 => h9) rfl d_Lg_addRecord_21 ?_
  refine lv_aload_n hx hb d_Lg_addRecord_24 rfl (lv_at hl 0 rfl) ?_
  refine va_get (D := (dC, dI)) (ci := 1) (v := .int (nI (lL + 1))) (C := R_Lg) (T := F_Lg) (N := 9) hx hb hts i_Lg hown hK hP 0 rfl rfl 5 (by decide) (hts _ wd_81) (fun _ h9 => h9) rfl d_Lg_addRecord_25 ?_
  refine lv_lload_n hx hb d_Lg_addRecord_28 rfl (lv_at hl 2 rfl) ?_
  refine zn_last hx hb hK hP hD hS 2 1 rfl rfl (i := lL + 1) (x := ct) (by omega) (by omega) d_Lg_addRecord_29 (fun H locs hP hD hS => ?_)
  have hP : va_P (dC, dI) vwCl ([(h0, .inr (1, [.int (nI lS), .ref aK, .ref aC, .ref aT, .ref aP, .int (nI (lL + 1)), .int (nI lC), .int (nI lA), .int (nI lP)])), (aK, .inl (cT 0, 801, .inl (va_up ks (lL + 1) key))), (aC, .inl (cT 1, 801, .inr (.inl (va_up cs (lL + 1) ct))))]) H := hP
  have hD : va_D A ([(h0, .inr (1, [.int (nI lS), .ref aK, .ref aC, .ref aT, .ref aP, .int (nI (lL + 1)), .int (nI lC), .int (nI lA), .int (nI lP)])), (aK, .inl (cT 0, 801, .inl (va_up ks (lL + 1) key))), (aC, .inl (cT 1, 801, .inr (.inl (va_up cs (lL + 1) ct))))]) := hD
  have hP9 := hP.sub (ws' := [(h0, .inr (1, [.int (nI lS), .ref aK, .ref aC, .ref aT, .ref aP, .int (nI (lL + 1)), .int (nI lC), .int (nI lA), .int (nI lP)])), (aK, .inl (cT 0, 801, .inl (va_up ks (lL + 1) key))), (aC, .inl (cT 1, 801, .inr (.inl (va_up cs (lL + 1) ct))))]) [0, 1, 2] rfl
  have hD9 := hD.sub (ws' := [(h0, .inr (1, [.int (nI lS), .ref aK, .ref aC, .ref aT, .ref aP, .int (nI (lL + 1)), .int (nI lC), .int (nI lA), .int (nI lP)])), (aK, .inl (cT 0, 801, .inl (va_up ks (lL + 1) key))), (aC, .inl (cT 1, 801, .inr (.inl (va_up cs (lL + 1) ct))))]) [0, 1, 2] (by decide) rfl
  exact W.vret hx hb hr (fun t ht hW => ⟨⟨(), trivial, rfl, by rw [ht]; exact hP9, hD9⟩, hS.F ht⟩) hS.2.2 d_Lg_addRecord_30
set_option maxHeartbeats 4000000 in
set_option maxRecDepth 100000 in
theorem c_Lg_addChange (l : Launch) (dC : Nat → ClassId) (dI : Nat → Nat → Nat) (cT : Nat → ClassId) (sz : Nat) (h0 : Nat) (lS : Nat) (aK : Nat) (aC : Nat) (aT : Nat) (aP : Nat) (lL : Nat) (lC : Nat) (lA : Nat) (lP : Nat) (k : Nat) (ct : Int64) (ks : Nat → Int32) (cs : Nat → Int64) (tb : Nat → Int64) (pn : Nat → Nat) (hL : lL < 800) (hk : k < 32) : Met l y_Lg_addChange w_Lg_addChange ({ frames := 1, cells := 0, slots := 0, locals := 23 } : Room) (zPre (dC, dI) vwCl (zT cT) [.ref h0, .int (nI k), .long ct] ([(h0, .inr (1, [.int (nI lS), .ref aK, .ref aC, .ref aT, .ref aP, .int (nI lL), .int (nI lC), .int (nI lA), .int (nI lP)])), (aK, .inl (cT 0, 801, .inl ks)), (aC, .inl (cT 1, 801, .inr (.inl cs))), (aT, .inl (cT 1, 32, .inr (.inl tb))), (aP, .inl (cT 0, 8, .inl (fun j => nI (pn j))))]) sz) (zQ (dC, dI) vwCl (S := Unit) (fun zu => True) (fun zu => some (.int (nI (lL + 1)))) (fun zu => [(h0, .inr (1, [.int (nI lS), .ref aK, .ref aC, .ref aT, .ref aP, .int (nI (lL + 1)), .int (nI lC), .int (nI lA), .int (nI lP)])), (aK, .inl (cT 0, 801, .inl (va_up ks (lL + 1) (nI k)))), (aC, .inl (cT 1, 801, .inr (.inl (va_up cs (lL + 1) ct)))), (aT, .inl (cT 1, 32, .inr (.inl (va_up tb k ct)))), (aP, .inl (cT 0, 8, .inl (fun j => nI ((va_up pn (k / 4) (lL + 1)) j))))]) (va_A ([(h0, .inr (1, [.int (nI lS), .ref aK, .ref aC, .ref aT, .ref aP, .int (nI lL), .int (nI lC), .int (nI lA), .int (nI lP)])), (aK, .inl (cT 0, 801, .inl ks)), (aC, .inl (cT 1, 801, .inr (.inl cs))), (aT, .inl (cT 1, 32, .inr (.inl tb))), (aP, .inl (cT 0, 8, .inl (fun j => nI (pn j))))]) sz)) 0 0 (va_A ([(h0, .inr (1, [.int (nI lS), .ref aK, .ref aC, .ref aT, .ref aP, .int (nI lL), .int (nI lC), .int (nI lA), .int (nI lP)])), (aK, .inl (cT 0, 801, .inl ks)), (aC, .inl (cT 1, 801, .inr (.inl cs))), (aT, .inl (cT 1, 32, .inr (.inl tb))), (aP, .inl (cT 0, 8, .inl (fun j => nI (pn j))))]) sz) := by
  refine Met.ofW (cc := b_Lg_addChange) (maxL := 4) (ret := (some .int)) (by decide) rfl ?_
  intro p e s m args below meth c s₁ B hml hv
  obtain ⟨rfl, hsz, hP, hK, hD0, hE⟩ := hv
  have hx := B.exec
  have hb := B.bytes
  have hr := B.returns
  have hts := fun w h => atoms_spec (ws := w_Lg_addChange) B.pre w (List.mem_cons_of_mem _ h)
  have hown : s.vm.findClass R_Lg = some m.cls := findClass_of_methodNamed B.named
  have hlocks := B.notSynchronized
  subst hsz
  have hD := hD0.self (sz := s.heap.size)
  generalize hAe : va_A ([(h0, .inr (1, [.int (nI lS), .ref aK, .ref aC, .ref aT, .ref aP, .int (nI lL), .int (nI lC), .int (nI lA), .int (nI lP)])), (aK, .inl (cT 0, 801, .inl ks)), (aC, .inl (cT 1, 801, .inr (.inl cs))), (aT, .inl (cT 1, 32, .inr (.inl tb))), (aP, .inl (cT 0, 8, .inl (fun j => nI (pn j))))]) s.heap.size = A at hD ⊢
  have hA : ∀ q : Nat, s.heap.size ≤ q → A q := fun q h => by rw [← hAe]; exact Or.inr h
  have hS : va_S A s.heap s.heap [] := va_S.rf
  have hl := lv_entry ([.ref h0, .int (nI k), .long ct]) (n := 4) (Nat.le_of_ble_eq_true rfl)
  rw [lg_entry_eq]
  generalize (lg_sl ([.ref h0, .int (nI k), .long ct]) ++ List.replicate (4 - (lg_sl ([.ref h0, .int (nI k), .long ct])).length) Slot.unset).toArray = ls at hl ⊢
  have hl : lv_has ls 4 [(0, .ref h0), (1, .int (nI k)), (2, .long ct)] := hl
  refine lv_aload_n hx hb d_Lg_addChange_0 rfl (lv_at hl 0 rfl) ?_
  refine lv_iload_n hx hb d_Lg_addChange_1 rfl (lv_at hl 1 rfl) ?_
  refine lv_lload_n hx hb d_Lg_addChange_2 rfl (lv_at hl 2 rfl) ?_
  refine zw_Q (X := [(h0, .inr (1, [.int (nI lS), .ref aK, .ref aC, .ref aT, .ref aP, .int (nI lL), .int (nI lC), .int (nI lA), .int (nI lP)])), (aK, .inl (cT 0, 801, .inl ks)), (aC, .inl (cT 1, 801, .inr (.inl cs))), (aT, .inl (cT 1, 32, .inr (.inl tb))), (aP, .inl (cT 0, 8, .inl (fun j => nI (pn j))))]) (pl := []) (va_runV (As := [.int (nI k), .long ct]) (rest := []) ⟨hx, hb, hml, hown, hts⟩ (c_Lg_addRecord l dC dI cT s.heap.size h0 lS aK aC aT aP lL lC lA lP (nI k) ct ks cs (by first | omega | assumption)) (cwV 2 hts (zgV wd_219 wd_221 wp_0 wd_4 wd_222) rfl rfl rfl (by decide +kernel) ⟨Nat.le_of_ble_eq_true rfl, Nat.le_of_ble_eq_true rfl⟩) ⟨zPre_blind, va_recv hK hP (ci := 1) (q0 := 0) rfl rfl, zp_Q (X := [(h0, .inr (1, [.int (nI lS), .ref aK, .ref aC, .ref aT, .ref aP, .int (nI lL), .int (nI lC), .int (nI lA), .int (nI lP)])), (aK, .inl (cT 0, 801, .inl ks)), (aC, .inl (cT 1, 801, .inr (.inl cs))), (aT, .inl (cT 1, 32, .inr (.inl tb))), (aP, .inl (cT 0, 8, .inl (fun j => nI (pn j))))]) (pl := []) hK hE hP hD [0, 1, 2] (by decide) rfl⟩ rfl rfl hl.1 rfl (lv_room (Nat.le_of_ble_eq_true rfl)) d_Lg_addChange_3 ⟨Nat.le_of_ble_eq_true rfl, Nat.le_of_ble_eq_true rfl⟩) hP hD hS hA [0, 1, 2] [3, 4] rfl (wr := [(aT, .inl (cT 1, 32, .inr (.inl tb))), (aP, .inl (cT 0, 8, .inl (fun j => nI (pn j))))]) rfl (by decide) (by decide) (fun zu => []) (fun _ => rfl) (fun zu H locs hφ hP hD hS => ?_)
  have hP : va_P (dC, dI) vwCl ([(aT, .inl (cT 1, 32, .inr (.inl tb))), (aP, .inl (cT 0, 8, .inl (fun j => nI (pn j)))), (h0, .inr (1, [.int (nI lS), .ref aK, .ref aC, .ref aT, .ref aP, .int (nI (lL + 1)), .int (nI lC), .int (nI lA), .int (nI lP)])), (aK, .inl (cT 0, 801, .inl (va_up ks (lL + 1) (nI k)))), (aC, .inl (cT 1, 801, .inr (.inl (va_up cs (lL + 1) ct))))]) H := hP
  have hD : va_D A ([(aT, .inl (cT 1, 32, .inr (.inl tb))), (aP, .inl (cT 0, 8, .inl (fun j => nI (pn j)))), (h0, .inr (1, [.int (nI lS), .ref aK, .ref aC, .ref aT, .ref aP, .int (nI (lL + 1)), .int (nI lC), .int (nI lA), .int (nI lP)])), (aK, .inl (cT 0, 801, .inl (va_up ks (lL + 1) (nI k)))), (aC, .inl (cT 1, 801, .inr (.inl (va_up cs (lL + 1) ct))))]) := hD
  refine lv_aload_n hx hb d_Lg_addChange_6 rfl (lv_at hl 0 rfl) ?_
  refine va_get (D := (dC, dI)) (ci := 1) (v := .ref aT) (C := R_Lg) (T := F_Lg) (N := 9) hx hb hts i_Lg hown hK hP 2 rfl rfl 3 (by decide) (hts _ wd_79) (fun _ h9 => h9) rfl d_Lg_addChange_7 ?_
  refine lv_iload_n hx hb d_Lg_addChange_10 rfl (lv_at hl 1 rfl) ?_
  refine lv_lload_n hx hb d_Lg_addChange_11 rfl (lv_at hl 2 rfl) ?_
  refine zn_last hx hb hK hP hD hS 0 1 rfl rfl (i := k) (x := ct) (by omega) (by omega) d_Lg_addChange_12 (fun H locs hP hD hS => ?_)
  have hP : va_P (dC, dI) vwCl ([(aT, .inl (cT 1, 32, .inr (.inl (va_up tb k ct)))), (aP, .inl (cT 0, 8, .inl (fun j => nI (pn j)))), (h0, .inr (1, [.int (nI lS), .ref aK, .ref aC, .ref aT, .ref aP, .int (nI (lL + 1)), .int (nI lC), .int (nI lA), .int (nI lP)])), (aK, .inl (cT 0, 801, .inl (va_up ks (lL + 1) (nI k)))), (aC, .inl (cT 1, 801, .inr (.inl (va_up cs (lL + 1) ct))))]) H := hP
  have hD : va_D A ([(aT, .inl (cT 1, 32, .inr (.inl (va_up tb k ct)))), (aP, .inl (cT 0, 8, .inl (fun j => nI (pn j)))), (h0, .inr (1, [.int (nI lS), .ref aK, .ref aC, .ref aT, .ref aP, .int (nI (lL + 1)), .int (nI lC), .int (nI lA), .int (nI lP)])), (aK, .inl (cT 0, 801, .inl (va_up ks (lL + 1) (nI k)))), (aC, .inl (cT 1, 801, .inr (.inl (va_up cs (lL + 1) ct))))]) := hD
  refine lv_aload_n hx hb d_Lg_addChange_13 rfl (lv_at hl 0 rfl) ?_
  refine va_get (D := (dC, dI)) (ci := 1) (v := .ref aP) (C := R_Lg) (T := F_Lg) (N := 9) hx hb hts i_Lg hown hK hP 2 rfl rfl 4 (by decide) (hts _ wd_80) (fun _ h9 => h9) rfl d_Lg_addChange_14 ?_
  refine lv_iload_n hx hb d_Lg_addChange_17 rfl (lv_at hl 1 rfl) ?_
  refine lv_iconst (v := (nI 4)) hx hb d_Lg_addChange_18 (by decide) ?_
  refine zn_idiv hx hb (by omega) (by omega) (by omega) d_Lg_addChange_19 ?_
  refine lv_aload_n hx hb d_Lg_addChange_20 rfl (lv_at hl 0 rfl) ?_
  refine va_get (D := (dC, dI)) (ci := 1) (v := .int (nI (lL + 1))) (C := R_Lg) (T := F_Lg) (N := 9) hx hb hts i_Lg hown hK hP 2 rfl rfl 5 (by decide) (hts _ wd_81) (fun _ h9 => h9) rfl d_Lg_addChange_21 ?_
  refine zn_iastN hx hb hK hP hD hS 1 0 rfl rfl (i := k / 4) (x := lL + 1) (by omega) (by omega) d_Lg_addChange_24 (fun H locs hP hD hS => ?_)
  have hP : va_P (dC, dI) vwCl ([(aT, .inl (cT 1, 32, .inr (.inl (va_up tb k ct)))), (aP, .inl (cT 0, 8, .inl (fun j => nI ((va_up pn (k / 4) (lL + 1)) j)))), (h0, .inr (1, [.int (nI lS), .ref aK, .ref aC, .ref aT, .ref aP, .int (nI (lL + 1)), .int (nI lC), .int (nI lA), .int (nI lP)])), (aK, .inl (cT 0, 801, .inl (va_up ks (lL + 1) (nI k)))), (aC, .inl (cT 1, 801, .inr (.inl (va_up cs (lL + 1) ct))))]) H := hP
  have hD : va_D A ([(aT, .inl (cT 1, 32, .inr (.inl (va_up tb k ct)))), (aP, .inl (cT 0, 8, .inl (fun j => nI ((va_up pn (k / 4) (lL + 1)) j)))), (h0, .inr (1, [.int (nI lS), .ref aK, .ref aC, .ref aT, .ref aP, .int (nI (lL + 1)), .int (nI lC), .int (nI lA), .int (nI lP)])), (aK, .inl (cT 0, 801, .inl (va_up ks (lL + 1) (nI k)))), (aC, .inl (cT 1, 801, .inr (.inl (va_up cs (lL + 1) ct))))]) := hD
  refine lv_aload_n hx hb d_Lg_addChange_25 rfl (lv_at hl 0 rfl) ?_
  refine va_get (D := (dC, dI)) (ci := 1) (v := .int (nI (lL + 1))) (C := R_Lg) (T := F_Lg) (N := 9) hx hb hts i_Lg hown hK hP 2 rfl rfl 5 (by decide) (hts _ wd_81) (fun _ h9 => h9) rfl d_Lg_addChange_26 ?_
  have hP9 := hP.sub (ws' := [(h0, .inr (1, [.int (nI lS), .ref aK, .ref aC, .ref aT, .ref aP, .int (nI (lL + 1)), .int (nI lC), .int (nI lA), .int (nI lP)])), (aK, .inl (cT 0, 801, .inl (va_up ks (lL + 1) (nI k)))), (aC, .inl (cT 1, 801, .inr (.inl (va_up cs (lL + 1) ct)))), (aT, .inl (cT 1, 32, .inr (.inl (va_up tb k ct)))), (aP, .inl (cT 0, 8, .inl (fun j => nI ((va_up pn (k / 4) (lL + 1)) j))))]) [2, 3, 4, 0, 1] rfl
  have hD9 := hD.sub (ws' := [(h0, .inr (1, [.int (nI lS), .ref aK, .ref aC, .ref aT, .ref aP, .int (nI (lL + 1)), .int (nI lC), .int (nI lA), .int (nI lP)])), (aK, .inl (cT 0, 801, .inl (va_up ks (lL + 1) (nI k)))), (aC, .inl (cT 1, 801, .inr (.inl (va_up cs (lL + 1) ct)))), (aT, .inl (cT 1, 32, .inr (.inl (va_up tb k ct)))), (aP, .inl (cT 0, 8, .inl (fun j => nI ((va_up pn (k / 4) (lL + 1)) j))))]) [2, 3, 4, 0, 1] (by decide) rfl
  exact W.iret hx hb hr (fun t ht hW => ⟨⟨(), trivial, rfl, by rw [ht]; exact hP9, hD9⟩, hS.F ht⟩) hS.2.2 d_Lg_addChange_29
set_option maxHeartbeats 4000000 in
set_option maxRecDepth 100000 in
theorem c_Lg_addCommit (l : Launch) (dC : Nat → ClassId) (dI : Nat → Nat → Nat) (cT : Nat → ClassId) (sz : Nat) (h0 : Nat) (lS : Nat) (aK : Nat) (aC : Nat) (aT : Nat) (aP : Nat) (lL : Nat) (lC : Nat) (lA : Nat) (lP : Nat) (ks : Nat → Int32) (cs : Nat → Int64) (hL : lL < 800) (hC : lC < 2 ^ 30) : Met l y_Lg_addCommit w_Lg_addCommit ({ frames := 1, cells := 0, slots := 0, locals := 23 } : Room) (zPre (dC, dI) vwCl (zT cT) [.ref h0] ([(h0, .inr (1, [.int (nI lS), .ref aK, .ref aC, .ref aT, .ref aP, .int (nI lL), .int (nI lC), .int (nI lA), .int (nI lP)])), (aK, .inl (cT 0, 801, .inl ks)), (aC, .inl (cT 1, 801, .inr (.inl cs)))]) sz) (zQ (dC, dI) vwCl (S := Unit) (fun zu => True) (fun zu => some (.int (nI (lC + 1)))) (fun zu => [(h0, .inr (1, [.int (nI lS), .ref aK, .ref aC, .ref aT, .ref aP, .int (nI (lL + 1)), .int (nI (lC + 1)), .int (nI lA), .int (nI lP)])), (aK, .inl (cT 0, 801, .inl (va_up ks (lL + 1) (-1)))), (aC, .inl (cT 1, 801, .inr (.inl (va_up cs (lL + 1) 1000000000000))))]) (va_A ([(h0, .inr (1, [.int (nI lS), .ref aK, .ref aC, .ref aT, .ref aP, .int (nI lL), .int (nI lC), .int (nI lA), .int (nI lP)])), (aK, .inl (cT 0, 801, .inl ks)), (aC, .inl (cT 1, 801, .inr (.inl cs)))]) sz)) 0 0 (va_A ([(h0, .inr (1, [.int (nI lS), .ref aK, .ref aC, .ref aT, .ref aP, .int (nI lL), .int (nI lC), .int (nI lA), .int (nI lP)])), (aK, .inl (cT 0, 801, .inl ks)), (aC, .inl (cT 1, 801, .inr (.inl cs)))]) sz) := by
  refine Met.ofW (cc := b_Lg_addCommit) (maxL := 1) (ret := (some .int)) (by decide) rfl ?_
  intro p e s m args below meth c s₁ B hml hv
  obtain ⟨rfl, hsz, hP, hK, hD0, hE⟩ := hv
  have hx := B.exec
  have hb := B.bytes
  have hr := B.returns
  have hts := fun w h => atoms_spec (ws := w_Lg_addCommit) B.pre w (List.mem_cons_of_mem _ h)
  have hown : s.vm.findClass R_Lg = some m.cls := findClass_of_methodNamed B.named
  have hlocks := B.notSynchronized
  subst hsz
  have hD := hD0.self (sz := s.heap.size)
  generalize hAe : va_A ([(h0, .inr (1, [.int (nI lS), .ref aK, .ref aC, .ref aT, .ref aP, .int (nI lL), .int (nI lC), .int (nI lA), .int (nI lP)])), (aK, .inl (cT 0, 801, .inl ks)), (aC, .inl (cT 1, 801, .inr (.inl cs)))]) s.heap.size = A at hD ⊢
  have hA : ∀ q : Nat, s.heap.size ≤ q → A q := fun q h => by rw [← hAe]; exact Or.inr h
  have hS : va_S A s.heap s.heap [] := va_S.rf
  have hl := lv_entry ([.ref h0]) (n := 1) (Nat.le_of_ble_eq_true rfl)
  rw [lg_entry_eq]
  generalize (lg_sl ([.ref h0]) ++ List.replicate (1 - (lg_sl ([.ref h0])).length) Slot.unset).toArray = ls at hl ⊢
  have hl : lv_has ls 1 [(0, .ref h0)] := hl
  refine lv_aload_n hx hb d_Lg_addCommit_0 rfl (lv_at hl 0 rfl) ?_
  refine lv_iconst (v := (-1)) hx hb d_Lg_addCommit_1 (by decide) ?_
  refine lv_ldc2 (v := 1000000000000) hx hb hown (hts _ wd_72) d_Lg_addCommit_2 ?_
  refine zw_Q (X := [(h0, .inr (1, [.int (nI lS), .ref aK, .ref aC, .ref aT, .ref aP, .int (nI lL), .int (nI lC), .int (nI lA), .int (nI lP)])), (aK, .inl (cT 0, 801, .inl ks)), (aC, .inl (cT 1, 801, .inr (.inl cs)))]) (pl := []) (va_runV (As := [.int (-1), .long 1000000000000]) (rest := []) ⟨hx, hb, hml, hown, hts⟩ (c_Lg_addRecord l dC dI cT s.heap.size h0 lS aK aC aT aP lL lC lA lP (-1) 1000000000000 ks cs (by first | omega | assumption)) (cwV 2 hts (zgV wd_219 wd_221 wp_0 wd_4 wd_222) rfl rfl rfl (by decide +kernel) ⟨Nat.le_of_ble_eq_true rfl, Nat.le_of_ble_eq_true rfl⟩) ⟨zPre_blind, va_recv hK hP (ci := 1) (q0 := 0) rfl rfl, zp_Q (X := [(h0, .inr (1, [.int (nI lS), .ref aK, .ref aC, .ref aT, .ref aP, .int (nI lL), .int (nI lC), .int (nI lA), .int (nI lP)])), (aK, .inl (cT 0, 801, .inl ks)), (aC, .inl (cT 1, 801, .inr (.inl cs)))]) (pl := []) hK hE hP hD [0, 1, 2] (by decide) rfl⟩ rfl rfl hl.1 rfl (lv_room (Nat.le_of_ble_eq_true rfl)) d_Lg_addCommit_5 ⟨Nat.le_of_ble_eq_true rfl, Nat.le_of_ble_eq_true rfl⟩) hP hD hS hA [0, 1, 2] [] rfl (wr := []) rfl (by decide) (by decide) (fun zu => []) (fun _ => rfl) (fun zu H locs hφ hP hD hS => ?_)
  have hP : va_P (dC, dI) vwCl ([(h0, .inr (1, [.int (nI lS), .ref aK, .ref aC, .ref aT, .ref aP, .int (nI (lL + 1)), .int (nI lC), .int (nI lA), .int (nI lP)])), (aK, .inl (cT 0, 801, .inl (va_up ks (lL + 1) (-1)))), (aC, .inl (cT 1, 801, .inr (.inl (va_up cs (lL + 1) 1000000000000))))]) H := hP
  have hD : va_D A ([(h0, .inr (1, [.int (nI lS), .ref aK, .ref aC, .ref aT, .ref aP, .int (nI (lL + 1)), .int (nI lC), .int (nI lA), .int (nI lP)])), (aK, .inl (cT 0, 801, .inl (va_up ks (lL + 1) (-1)))), (aC, .inl (cT 1, 801, .inr (.inl (va_up cs (lL + 1) 1000000000000))))]) := hD
  refine lv_aload_n hx hb d_Lg_addCommit_8 rfl (lv_at hl 0 rfl) ?_
  refine lv_dup hx hb d_Lg_addCommit_9 rfl ?_
  refine va_get (D := (dC, dI)) (ci := 1) (v := .int (nI lC)) (C := R_Lg) (T := F_Lg) (N := 9) hx hb hts i_Lg hown hK hP 0 rfl rfl 6 (by decide) (hts _ wd_82) (fun _ h9 => h9) rfl d_Lg_addCommit_10 ?_
  refine lv_iconst (v := (nI 1)) hx hb d_Lg_addCommit_13 (by decide) ?_
  refine zn_iadd hx hb d_Lg_addCommit_14 ?_
  refine va_put (D := (dC, dI)) (ci := 1) (v := .int (nI (lC + 1))) (ty := .int) (C := R_Lg) (T := F_Lg) (N := 9) hx hb hts i_Lg t_Lg t_Lg_ok n_Lg hown hK hP hD hS 0 rfl rfl 6 (by decide) (hts _ wd_82) (fun _ h9 => h9) rfl (by decide +kernel) rfl rfl (Nat.le_of_ble_eq_true rfl) d_Lg_addCommit_15 (fun H locs hP hD hS => ?_)
  have hP : va_P (dC, dI) vwCl ([(h0, .inr (1, [.int (nI lS), .ref aK, .ref aC, .ref aT, .ref aP, .int (nI (lL + 1)), .int (nI (lC + 1)), .int (nI lA), .int (nI lP)])), (aK, .inl (cT 0, 801, .inl (va_up ks (lL + 1) (-1)))), (aC, .inl (cT 1, 801, .inr (.inl (va_up cs (lL + 1) 1000000000000))))]) H := hP
  have hD : va_D A ([(h0, .inr (1, [.int (nI lS), .ref aK, .ref aC, .ref aT, .ref aP, .int (nI (lL + 1)), .int (nI (lC + 1)), .int (nI lA), .int (nI lP)])), (aK, .inl (cT 0, 801, .inl (va_up ks (lL + 1) (-1)))), (aC, .inl (cT 1, 801, .inr (.inl (va_up cs (lL + 1) 1000000000000))))]) := hD
  refine lv_aload_n hx hb d_Lg_addCommit_18 rfl (lv_at hl 0 rfl) ?_
  refine va_get (D := (dC, dI)) (ci := 1) (v := .int (nI (lC + 1))) (C := R_Lg) (T := F_Lg) (N := 9) hx hb hts i_Lg hown hK hP 0 rfl rfl 6 (by decide) (hts _ wd_82) (fun _ h9 => h9) rfl d_Lg_addCommit_19 ?_
  have hP9 := hP.sub (ws' := [(h0, .inr (1, [.int (nI lS), .ref aK, .ref aC, .ref aT, .ref aP, .int (nI (lL + 1)), .int (nI (lC + 1)), .int (nI lA), .int (nI lP)])), (aK, .inl (cT 0, 801, .inl (va_up ks (lL + 1) (-1)))), (aC, .inl (cT 1, 801, .inr (.inl (va_up cs (lL + 1) 1000000000000))))]) [0, 1, 2] rfl
  have hD9 := hD.sub (ws' := [(h0, .inr (1, [.int (nI lS), .ref aK, .ref aC, .ref aT, .ref aP, .int (nI (lL + 1)), .int (nI (lC + 1)), .int (nI lA), .int (nI lP)])), (aK, .inl (cT 0, 801, .inl (va_up ks (lL + 1) (-1)))), (aC, .inl (cT 1, 801, .inr (.inl (va_up cs (lL + 1) 1000000000000))))]) [0, 1, 2] (by decide) rfl
  exact W.iret hx hb hr (fun t ht hW => ⟨⟨(), trivial, rfl, by rw [ht]; exact hP9, hD9⟩, hS.F ht⟩) hS.2.2 d_Lg_addCommit_22
set_option maxHeartbeats 4000000 in
set_option maxRecDepth 100000 in
theorem c_Lg_addEnd (l : Launch) (dC : Nat → ClassId) (dI : Nat → Nat → Nat) (cT : Nat → ClassId) (sz : Nat) (h0 : Nat) (lS : Nat) (aK : Nat) (aC : Nat) (aT : Nat) (aP : Nat) (lL : Nat) (lC : Nat) (lA : Nat) (lP : Nat) (ks : Nat → Int32) (cs : Nat → Int64) (hL : lL < 800) : Met l y_Lg_addEnd w_Lg_addEnd ({ frames := 1, cells := 0, slots := 0, locals := 23 } : Room) (zPre (dC, dI) vwCl (zT cT) [.ref h0] ([(h0, .inr (1, [.int (nI lS), .ref aK, .ref aC, .ref aT, .ref aP, .int (nI lL), .int (nI lC), .int (nI lA), .int (nI lP)])), (aK, .inl (cT 0, 801, .inl ks)), (aC, .inl (cT 1, 801, .inr (.inl cs)))]) sz) (zQ (dC, dI) vwCl (S := Unit) (fun zu => True) (fun zu => none) (fun zu => [(h0, .inr (1, [.int (nI lS), .ref aK, .ref aC, .ref aT, .ref aP, .int (nI (lL + 1)), .int (nI lC), .int (nI lA), .int (nI lP)])), (aK, .inl (cT 0, 801, .inl (va_up ks (lL + 1) (-2)))), (aC, .inl (cT 1, 801, .inr (.inl (va_up cs (lL + 1) 1000000000000))))]) (va_A ([(h0, .inr (1, [.int (nI lS), .ref aK, .ref aC, .ref aT, .ref aP, .int (nI lL), .int (nI lC), .int (nI lA), .int (nI lP)])), (aK, .inl (cT 0, 801, .inl ks)), (aC, .inl (cT 1, 801, .inr (.inl cs)))]) sz)) 0 0 (va_A ([(h0, .inr (1, [.int (nI lS), .ref aK, .ref aC, .ref aT, .ref aP, .int (nI lL), .int (nI lC), .int (nI lA), .int (nI lP)])), (aK, .inl (cT 0, 801, .inl ks)), (aC, .inl (cT 1, 801, .inr (.inl cs)))]) sz) := by
  refine Met.ofW (cc := b_Lg_addEnd) (maxL := 1) (ret := none) (by decide) rfl ?_
  intro p e s m args below meth c s₁ B hml hv
  obtain ⟨rfl, hsz, hP, hK, hD0, hE⟩ := hv
  have hx := B.exec
  have hb := B.bytes
  have hr := B.returns
  have hts := fun w h => atoms_spec (ws := w_Lg_addEnd) B.pre w (List.mem_cons_of_mem _ h)
  have hown : s.vm.findClass R_Lg = some m.cls := findClass_of_methodNamed B.named
  have hlocks := B.notSynchronized
  subst hsz
  have hD := hD0.self (sz := s.heap.size)
  generalize hAe : va_A ([(h0, .inr (1, [.int (nI lS), .ref aK, .ref aC, .ref aT, .ref aP, .int (nI lL), .int (nI lC), .int (nI lA), .int (nI lP)])), (aK, .inl (cT 0, 801, .inl ks)), (aC, .inl (cT 1, 801, .inr (.inl cs)))]) s.heap.size = A at hD ⊢
  have hA : ∀ q : Nat, s.heap.size ≤ q → A q := fun q h => by rw [← hAe]; exact Or.inr h
  have hS : va_S A s.heap s.heap [] := va_S.rf
  have hl := lv_entry ([.ref h0]) (n := 1) (Nat.le_of_ble_eq_true rfl)
  rw [lg_entry_eq]
  generalize (lg_sl ([.ref h0]) ++ List.replicate (1 - (lg_sl ([.ref h0])).length) Slot.unset).toArray = ls at hl ⊢
  have hl : lv_has ls 1 [(0, .ref h0)] := hl
  refine lv_aload_n hx hb d_Lg_addEnd_0 rfl (lv_at hl 0 rfl) ?_
  refine lv_bipush (v := (-2)) hx hb d_Lg_addEnd_1 (by decide) ?_
  refine lv_ldc2 (v := 1000000000000) hx hb hown (hts _ wd_72) d_Lg_addEnd_3 ?_
  refine zw_Q (X := [(h0, .inr (1, [.int (nI lS), .ref aK, .ref aC, .ref aT, .ref aP, .int (nI lL), .int (nI lC), .int (nI lA), .int (nI lP)])), (aK, .inl (cT 0, 801, .inl ks)), (aC, .inl (cT 1, 801, .inr (.inl cs)))]) (pl := []) (va_runV (As := [.int (-2), .long 1000000000000]) (rest := []) ⟨hx, hb, hml, hown, hts⟩ (c_Lg_addRecord l dC dI cT s.heap.size h0 lS aK aC aT aP lL lC lA lP (-2) 1000000000000 ks cs (by first | omega | assumption)) (cwV 2 hts (zgV wd_219 wd_221 wp_0 wd_4 wd_222) rfl rfl rfl (by decide +kernel) ⟨Nat.le_of_ble_eq_true rfl, Nat.le_of_ble_eq_true rfl⟩) ⟨zPre_blind, va_recv hK hP (ci := 1) (q0 := 0) rfl rfl, zp_Q (X := [(h0, .inr (1, [.int (nI lS), .ref aK, .ref aC, .ref aT, .ref aP, .int (nI lL), .int (nI lC), .int (nI lA), .int (nI lP)])), (aK, .inl (cT 0, 801, .inl ks)), (aC, .inl (cT 1, 801, .inr (.inl cs)))]) (pl := []) hK hE hP hD [0, 1, 2] (by decide) rfl⟩ rfl rfl hl.1 rfl (lv_room (Nat.le_of_ble_eq_true rfl)) d_Lg_addEnd_6 ⟨Nat.le_of_ble_eq_true rfl, Nat.le_of_ble_eq_true rfl⟩) hP hD hS hA [0, 1, 2] [] rfl (wr := []) rfl (by decide) (by decide) (fun zu => []) (fun _ => rfl) (fun zu H locs hφ hP hD hS => ?_)
  have hP : va_P (dC, dI) vwCl ([(h0, .inr (1, [.int (nI lS), .ref aK, .ref aC, .ref aT, .ref aP, .int (nI (lL + 1)), .int (nI lC), .int (nI lA), .int (nI lP)])), (aK, .inl (cT 0, 801, .inl (va_up ks (lL + 1) (-2)))), (aC, .inl (cT 1, 801, .inr (.inl (va_up cs (lL + 1) 1000000000000))))]) H := hP
  have hD : va_D A ([(h0, .inr (1, [.int (nI lS), .ref aK, .ref aC, .ref aT, .ref aP, .int (nI (lL + 1)), .int (nI lC), .int (nI lA), .int (nI lP)])), (aK, .inl (cT 0, 801, .inl (va_up ks (lL + 1) (-2)))), (aC, .inl (cT 1, 801, .inr (.inl (va_up cs (lL + 1) 1000000000000))))]) := hD
  have hP9 := hP.sub (ws' := [(h0, .inr (1, [.int (nI lS), .ref aK, .ref aC, .ref aT, .ref aP, .int (nI (lL + 1)), .int (nI lC), .int (nI lA), .int (nI lP)])), (aK, .inl (cT 0, 801, .inl (va_up ks (lL + 1) (-2)))), (aC, .inl (cT 1, 801, .inr (.inl (va_up cs (lL + 1) 1000000000000))))]) [0, 1, 2] rfl
  have hD9 := hD.sub (ws' := [(h0, .inr (1, [.int (nI lS), .ref aK, .ref aC, .ref aT, .ref aP, .int (nI (lL + 1)), .int (nI lC), .int (nI lA), .int (nI lP)])), (aK, .inl (cT 0, 801, .inl (va_up ks (lL + 1) (-2)))), (aC, .inl (cT 1, 801, .inr (.inl (va_up cs (lL + 1) 1000000000000))))]) [0, 1, 2] (by decide) rfl
  exact W.vret hx hb hr (fun t ht hW => ⟨⟨(), trivial, rfl, by rw [ht]; exact hP9, hD9⟩, hS.F ht⟩) hS.2.2 d_Lg_addEnd_9
set_option maxHeartbeats 4000000 in
set_option maxRecDepth 100000 in
theorem c_Pr_isKey (l : Launch) (dC : Nat → ClassId) (dI : Nat → Nat → Nat) (cT : Nat → ClassId) (x : Int32) : Met l y_Pr_isKey w_Pr_isKey ({ frames := 0, cells := 0, slots := 0, locals := 0 } : Room) (zPreR (dC, dI) vwCl (zT cT) [.int x] ([])) (k2_QcV (.int (zb (isIn x 32)))) 0 0 (fun _ => False) := by
  refine Met.ofW (cc := b_Pr_isKey) (maxL := 1) (ret := (some .boolean)) (by decide) rfl ?_
  intro p e s m args below meth c s₁ B hml hv
  obtain ⟨rfl, hP, hK, hE⟩ := hv
  have hx := B.exec
  have hb := B.bytes
  have hr := B.returns
  have hts := fun w h => atoms_spec (ws := w_Pr_isKey) B.pre w (List.mem_cons_of_mem _ h)
  have hown : s.vm.findClass R_Pr = some m.cls := findClass_of_methodNamed B.named
  have hlocks := B.notSynchronized
  have hl := lv_entry ([.int x]) (n := 1) (Nat.le_of_ble_eq_true rfl)
  rw [lg_entry_eq]
  generalize (lg_sl ([.int x]) ++ List.replicate (1 - (lg_sl ([.int x])).length) Slot.unset).toArray = ls at hl ⊢
  have hl : lv_has ls 1 [(0, .int x)] := hl
  refine lv_iload_n hx hb d_Pr_isKey_0 rfl (lv_at hl 0 rfl) ?_
  refine lv_if_lt (tgt := 14) hx hb d_Pr_isKey_1 (by decide) (fun c_1 => ?_) (fun c_1 => ?_)
  · refine lv_iconst (v := (nI 0)) hx hb d_Pr_isKey_14 (by decide) ?_
    refine W.eq (g2 := F0 m 15 ls [.int (zb false)]) rfl ?_
    exact W.zret hx hb hr (zb_narrow _) (fun t ht hW => ⟨by rw [isIn_f1 c_1], ht⟩) (fun q h => by cases h) d_Pr_isKey_15
  · refine lv_iload_n hx hb d_Pr_isKey_4 rfl (lv_at hl 0 rfl) ?_
    refine lv_bipush (v := (nI 32)) hx hb d_Pr_isKey_5 (by decide) ?_
    refine lv_icmp_ge (tgt := 14) hx hb d_Pr_isKey_7 (by decide) (fun c_7 => ?_) (fun c_7 => ?_)
    · refine lv_iconst (v := (nI 0)) hx hb d_Pr_isKey_14 (by decide) ?_
      refine W.eq (g2 := F0 m 15 ls [.int (zb false)]) rfl ?_
      exact W.zret hx hb hr (zb_narrow _) (fun t ht hW => ⟨by rw [isIn_f2 c_7], ht⟩) (fun q h => by cases h) d_Pr_isKey_15
    · refine lv_iconst (v := (nI 1)) hx hb d_Pr_isKey_10 (by decide) ?_
      refine lv_goto (tgt := 15) hx hb d_Pr_isKey_11 (by decide) ?_
      refine W.eq (g2 := F0 m 15 ls [.int (zb true)]) rfl ?_
      exact W.zret hx hb hr (zb_narrow _) (fun t ht hW => ⟨by rw [isIn_t c_1 c_7], ht⟩) (fun q h => by cases h) d_Pr_isKey_15
set_option maxHeartbeats 4000000 in
set_option maxRecDepth 100000 in
theorem c_Pr_isPage (l : Launch) (dC : Nat → ClassId) (dI : Nat → Nat → Nat) (cT : Nat → ClassId) (x : Int32) : Met l y_Pr_isPage w_Pr_isPage ({ frames := 0, cells := 0, slots := 0, locals := 0 } : Room) (zPreR (dC, dI) vwCl (zT cT) [.int x] ([])) (k2_QcV (.int (zb (isIn x 8)))) 0 0 (fun _ => False) := by
  refine Met.ofW (cc := b_Pr_isPage) (maxL := 1) (ret := (some .boolean)) (by decide) rfl ?_
  intro p e s m args below meth c s₁ B hml hv
  obtain ⟨rfl, hP, hK, hE⟩ := hv
  have hx := B.exec
  have hb := B.bytes
  have hr := B.returns
  have hts := fun w h => atoms_spec (ws := w_Pr_isPage) B.pre w (List.mem_cons_of_mem _ h)
  have hown : s.vm.findClass R_Pr = some m.cls := findClass_of_methodNamed B.named
  have hlocks := B.notSynchronized
  have hl := lv_entry ([.int x]) (n := 1) (Nat.le_of_ble_eq_true rfl)
  rw [lg_entry_eq]
  generalize (lg_sl ([.int x]) ++ List.replicate (1 - (lg_sl ([.int x])).length) Slot.unset).toArray = ls at hl ⊢
  have hl : lv_has ls 1 [(0, .int x)] := hl
  refine lv_iload_n hx hb d_Pr_isPage_0 rfl (lv_at hl 0 rfl) ?_
  refine lv_if_lt (tgt := 14) hx hb d_Pr_isPage_1 (by decide) (fun c_1 => ?_) (fun c_1 => ?_)
  · refine lv_iconst (v := (nI 0)) hx hb d_Pr_isPage_14 (by decide) ?_
    refine W.eq (g2 := F0 m 15 ls [.int (zb false)]) rfl ?_
    exact W.zret hx hb hr (zb_narrow _) (fun t ht hW => ⟨by rw [isIn_f1 c_1], ht⟩) (fun q h => by cases h) d_Pr_isPage_15
  · refine lv_iload_n hx hb d_Pr_isPage_4 rfl (lv_at hl 0 rfl) ?_
    refine lv_bipush (v := (nI 8)) hx hb d_Pr_isPage_5 (by decide) ?_
    refine lv_icmp_ge (tgt := 14) hx hb d_Pr_isPage_7 (by decide) (fun c_7 => ?_) (fun c_7 => ?_)
    · refine lv_iconst (v := (nI 0)) hx hb d_Pr_isPage_14 (by decide) ?_
      refine W.eq (g2 := F0 m 15 ls [.int (zb false)]) rfl ?_
      exact W.zret hx hb hr (zb_narrow _) (fun t ht hW => ⟨by rw [isIn_f2 c_7], ht⟩) (fun q h => by cases h) d_Pr_isPage_15
    · refine lv_iconst (v := (nI 1)) hx hb d_Pr_isPage_10 (by decide) ?_
      refine lv_goto (tgt := 15) hx hb d_Pr_isPage_11 (by decide) ?_
      refine W.eq (g2 := F0 m 15 ls [.int (zb true)]) rfl ?_
      exact W.zret hx hb hr (zb_narrow _) (fun t ht hW => ⟨by rw [isIn_t c_1 c_7], ht⟩) (fun q h => by cases h) d_Pr_isPage_15
set_option maxHeartbeats 4000000 in
set_option maxRecDepth 100000 in
theorem c_Lg_archiveOldest_no (l : Launch) (dC : Nat → ClassId) (dI : Nat → Nat → Nat) (cT : Nat → ClassId) (sz : Nat) (h0 : Nat) (lS : Nat) (aK : Nat) (aC : Nat) (aT : Nat) (aP : Nat) (lL : Nat) (lC : Nat) (lA : Nat) (lP : Nat) (hm : (lA + 1) * lS < 2 ^ 31) (hL : lL ≤ 800) (hno : lL < (lA + 1) * lS) : Met l y_Lg_archiveOldest w_Lg_archiveOldest ({ frames := 0, cells := 0, slots := 0, locals := 0 } : Room) (zPre (dC, dI) vwCl (zT cT) [.ref h0] ([(h0, .inr (1, [.int (nI lS), .ref aK, .ref aC, .ref aT, .ref aP, .int (nI lL), .int (nI lC), .int (nI lA), .int (nI lP)]))]) sz) (zQ (dC, dI) vwCl (S := Unit) (fun zu => True) (fun zu => some (.int (-1))) (fun zu => [(h0, .inr (1, [.int (nI lS), .ref aK, .ref aC, .ref aT, .ref aP, .int (nI lL), .int (nI lC), .int (nI lA), .int (nI lP)]))]) (va_A ([(h0, .inr (1, [.int (nI lS), .ref aK, .ref aC, .ref aT, .ref aP, .int (nI lL), .int (nI lC), .int (nI lA), .int (nI lP)]))]) sz)) 0 0 (va_A ([(h0, .inr (1, [.int (nI lS), .ref aK, .ref aC, .ref aT, .ref aP, .int (nI lL), .int (nI lC), .int (nI lA), .int (nI lP)]))]) sz) := by
  refine Met.ofW (cc := b_Lg_archiveOldest) (maxL := 1) (ret := (some .int)) (by decide) rfl ?_
  intro p e s m args below meth c s₁ B hml hv
  obtain ⟨rfl, hsz, hP, hK, hD0, hE⟩ := hv
  have hx := B.exec
  have hb := B.bytes
  have hr := B.returns
  have hts := fun w h => atoms_spec (ws := w_Lg_archiveOldest) B.pre w (List.mem_cons_of_mem _ h)
  have hown : s.vm.findClass R_Lg = some m.cls := findClass_of_methodNamed B.named
  have hlocks := B.notSynchronized
  subst hsz
  have hD := hD0.self (sz := s.heap.size)
  generalize hAe : va_A ([(h0, .inr (1, [.int (nI lS), .ref aK, .ref aC, .ref aT, .ref aP, .int (nI lL), .int (nI lC), .int (nI lA), .int (nI lP)]))]) s.heap.size = A at hD ⊢
  have hA : ∀ q : Nat, s.heap.size ≤ q → A q := fun q h => by rw [← hAe]; exact Or.inr h
  have hS : va_S A s.heap s.heap [] := va_S.rf
  have hl := lv_entry ([.ref h0]) (n := 1) (Nat.le_of_ble_eq_true rfl)
  rw [lg_entry_eq]
  generalize (lg_sl ([.ref h0]) ++ List.replicate (1 - (lg_sl ([.ref h0])).length) Slot.unset).toArray = ls at hl ⊢
  have hl : lv_has ls 1 [(0, .ref h0)] := hl
  refine lv_aload_n hx hb d_Lg_archiveOldest_0 rfl (lv_at hl 0 rfl) ?_
  refine va_get (D := (dC, dI)) (ci := 1) (v := .int (nI lL)) (C := R_Lg) (T := F_Lg) (N := 9) hx hb hts i_Lg hown hK hP 0 rfl rfl 5 (by decide) (hts _ wd_81) (fun _ h9 => h9) rfl d_Lg_archiveOldest_1 ?_
  refine lv_aload_n hx hb d_Lg_archiveOldest_4 rfl (lv_at hl 0 rfl) ?_
  refine va_get (D := (dC, dI)) (ci := 1) (v := .int (nI lA)) (C := R_Lg) (T := F_Lg) (N := 9) hx hb hts i_Lg hown hK hP 0 rfl rfl 7 (by decide) (hts _ wd_83) (fun _ h9 => h9) rfl d_Lg_archiveOldest_5 ?_
  refine lv_iconst (v := (nI 1)) hx hb d_Lg_archiveOldest_8 (by decide) ?_
  refine zn_iadd hx hb d_Lg_archiveOldest_9 ?_
  refine lv_aload_n hx hb d_Lg_archiveOldest_10 rfl (lv_at hl 0 rfl) ?_
  refine va_get (D := (dC, dI)) (ci := 1) (v := .int (nI lS)) (C := R_Lg) (T := F_Lg) (N := 9) hx hb hts i_Lg hown hK hP 0 rfl rfl 0 (by decide) (hts _ wd_76) (fun _ h9 => h9) rfl d_Lg_archiveOldest_11 ?_
  refine zn_imul hx hb d_Lg_archiveOldest_14 ?_
  refine zn_icmp_ge (tgt := 20) hx hb (a := lL) (b := (lA + 1) * lS) (by omega) (by omega) d_Lg_archiveOldest_15 (by decide) (fun c_15 => absurd c_15 (by omega)) (fun c_15 => ?_)
  refine lv_iconst (v := (-1)) hx hb d_Lg_archiveOldest_18 (by decide) ?_
  have hP9 := hP.sub (ws' := [(h0, .inr (1, [.int (nI lS), .ref aK, .ref aC, .ref aT, .ref aP, .int (nI lL), .int (nI lC), .int (nI lA), .int (nI lP)]))]) [0] rfl
  have hD9 := hD.sub (ws' := [(h0, .inr (1, [.int (nI lS), .ref aK, .ref aC, .ref aT, .ref aP, .int (nI lL), .int (nI lC), .int (nI lA), .int (nI lP)]))]) [0] (by decide) rfl
  exact W.iret hx hb hr (fun t ht hW => ⟨⟨(), trivial, rfl, by rw [ht]; exact hP9, hD9⟩, hS.F ht⟩) hS.2.2 d_Lg_archiveOldest_19
set_option maxHeartbeats 4000000 in
set_option maxRecDepth 100000 in
theorem c_Lg_archiveOldest_yes (l : Launch) (dC : Nat → ClassId) (dI : Nat → Nat → Nat) (cT : Nat → ClassId) (sz : Nat) (h0 : Nat) (lS : Nat) (aK : Nat) (aC : Nat) (aT : Nat) (aP : Nat) (lL : Nat) (lC : Nat) (lA : Nat) (lP : Nat) (hm : (lA + 1) * lS < 2 ^ 31) (hL : lL ≤ 800) (hyes : (lA + 1) * lS ≤ lL) (hA : lA < 2 ^ 30) : Met l y_Lg_archiveOldest w_Lg_archiveOldest ({ frames := 0, cells := 0, slots := 0, locals := 0 } : Room) (zPre (dC, dI) vwCl (zT cT) [.ref h0] ([(h0, .inr (1, [.int (nI lS), .ref aK, .ref aC, .ref aT, .ref aP, .int (nI lL), .int (nI lC), .int (nI lA), .int (nI lP)]))]) sz) (zQ (dC, dI) vwCl (S := Unit) (fun zu => True) (fun zu => some (.int (nI (lA + 1)))) (fun zu => [(h0, .inr (1, [.int (nI lS), .ref aK, .ref aC, .ref aT, .ref aP, .int (nI lL), .int (nI lC), .int (nI (lA + 1)), .int (nI lP)]))]) (va_A ([(h0, .inr (1, [.int (nI lS), .ref aK, .ref aC, .ref aT, .ref aP, .int (nI lL), .int (nI lC), .int (nI lA), .int (nI lP)]))]) sz)) 0 0 (va_A ([(h0, .inr (1, [.int (nI lS), .ref aK, .ref aC, .ref aT, .ref aP, .int (nI lL), .int (nI lC), .int (nI lA), .int (nI lP)]))]) sz) := by
  refine Met.ofW (cc := b_Lg_archiveOldest) (maxL := 1) (ret := (some .int)) (by decide) rfl ?_
  intro p e s m args below meth c s₁ B hml hv
  obtain ⟨rfl, hsz, hP, hK, hD0, hE⟩ := hv
  have hx := B.exec
  have hb := B.bytes
  have hr := B.returns
  have hts := fun w h => atoms_spec (ws := w_Lg_archiveOldest) B.pre w (List.mem_cons_of_mem _ h)
  have hown : s.vm.findClass R_Lg = some m.cls := findClass_of_methodNamed B.named
  have hlocks := B.notSynchronized
  subst hsz
  have hD := hD0.self (sz := s.heap.size)
  generalize hAe : va_A ([(h0, .inr (1, [.int (nI lS), .ref aK, .ref aC, .ref aT, .ref aP, .int (nI lL), .int (nI lC), .int (nI lA), .int (nI lP)]))]) s.heap.size = A at hD ⊢
  have hA : ∀ q : Nat, s.heap.size ≤ q → A q := fun q h => by rw [← hAe]; exact Or.inr h
  have hS : va_S A s.heap s.heap [] := va_S.rf
  have hl := lv_entry ([.ref h0]) (n := 1) (Nat.le_of_ble_eq_true rfl)
  rw [lg_entry_eq]
  generalize (lg_sl ([.ref h0]) ++ List.replicate (1 - (lg_sl ([.ref h0])).length) Slot.unset).toArray = ls at hl ⊢
  have hl : lv_has ls 1 [(0, .ref h0)] := hl
  refine lv_aload_n hx hb d_Lg_archiveOldest_0 rfl (lv_at hl 0 rfl) ?_
  refine va_get (D := (dC, dI)) (ci := 1) (v := .int (nI lL)) (C := R_Lg) (T := F_Lg) (N := 9) hx hb hts i_Lg hown hK hP 0 rfl rfl 5 (by decide) (hts _ wd_81) (fun _ h9 => h9) rfl d_Lg_archiveOldest_1 ?_
  refine lv_aload_n hx hb d_Lg_archiveOldest_4 rfl (lv_at hl 0 rfl) ?_
  refine va_get (D := (dC, dI)) (ci := 1) (v := .int (nI lA)) (C := R_Lg) (T := F_Lg) (N := 9) hx hb hts i_Lg hown hK hP 0 rfl rfl 7 (by decide) (hts _ wd_83) (fun _ h9 => h9) rfl d_Lg_archiveOldest_5 ?_
  refine lv_iconst (v := (nI 1)) hx hb d_Lg_archiveOldest_8 (by decide) ?_
  refine zn_iadd hx hb d_Lg_archiveOldest_9 ?_
  refine lv_aload_n hx hb d_Lg_archiveOldest_10 rfl (lv_at hl 0 rfl) ?_
  refine va_get (D := (dC, dI)) (ci := 1) (v := .int (nI lS)) (C := R_Lg) (T := F_Lg) (N := 9) hx hb hts i_Lg hown hK hP 0 rfl rfl 0 (by decide) (hts _ wd_76) (fun _ h9 => h9) rfl d_Lg_archiveOldest_11 ?_
  refine zn_imul hx hb d_Lg_archiveOldest_14 ?_
  refine zn_icmp_ge (tgt := 20) hx hb (a := lL) (b := (lA + 1) * lS) (by omega) (by omega) d_Lg_archiveOldest_15 (by decide) (fun c_15 => ?_) (fun c_15 => absurd c_15 (by omega))
  refine lv_aload_n hx hb d_Lg_archiveOldest_20 rfl (lv_at hl 0 rfl) ?_
  refine lv_dup hx hb d_Lg_archiveOldest_21 rfl ?_
  refine va_get (D := (dC, dI)) (ci := 1) (v := .int (nI lA)) (C := R_Lg) (T := F_Lg) (N := 9) hx hb hts i_Lg hown hK hP 0 rfl rfl 7 (by decide) (hts _ wd_83) (fun _ h9 => h9) rfl d_Lg_archiveOldest_22 ?_
  refine lv_iconst (v := (nI 1)) hx hb d_Lg_archiveOldest_25 (by decide) ?_
  refine zn_iadd hx hb d_Lg_archiveOldest_26 ?_
  refine va_put (D := (dC, dI)) (ci := 1) (v := .int (nI (lA + 1))) (ty := .int) (C := R_Lg) (T := F_Lg) (N := 9) hx hb hts i_Lg t_Lg t_Lg_ok n_Lg hown hK hP hD hS 0 rfl rfl 7 (by decide) (hts _ wd_83) (fun _ h9 => h9) rfl (by decide +kernel) rfl rfl (Nat.le_of_ble_eq_true rfl) d_Lg_archiveOldest_27 (fun H locs hP hD hS => ?_)
  have hP : va_P (dC, dI) vwCl ([(h0, .inr (1, [.int (nI lS), .ref aK, .ref aC, .ref aT, .ref aP, .int (nI lL), .int (nI lC), .int (nI (lA + 1)), .int (nI lP)]))]) H := hP
  have hD : va_D A ([(h0, .inr (1, [.int (nI lS), .ref aK, .ref aC, .ref aT, .ref aP, .int (nI lL), .int (nI lC), .int (nI (lA + 1)), .int (nI lP)]))]) := hD
  refine lv_aload_n hx hb d_Lg_archiveOldest_30 rfl (lv_at hl 0 rfl) ?_
  refine va_get (D := (dC, dI)) (ci := 1) (v := .int (nI (lA + 1))) (C := R_Lg) (T := F_Lg) (N := 9) hx hb hts i_Lg hown hK hP 0 rfl rfl 7 (by decide) (hts _ wd_83) (fun _ h9 => h9) rfl d_Lg_archiveOldest_31 ?_
  have hP9 := hP.sub (ws' := [(h0, .inr (1, [.int (nI lS), .ref aK, .ref aC, .ref aT, .ref aP, .int (nI lL), .int (nI lC), .int (nI (lA + 1)), .int (nI lP)]))]) [0] rfl
  have hD9 := hD.sub (ws' := [(h0, .inr (1, [.int (nI lS), .ref aK, .ref aC, .ref aT, .ref aP, .int (nI lL), .int (nI lC), .int (nI (lA + 1)), .int (nI lP)]))]) [0] (by decide) rfl
  exact W.iret hx hb hr (fun t ht hW => ⟨⟨(), trivial, rfl, by rw [ht]; exact hP9, hD9⟩, hS.F ht⟩) hS.2.2 d_Lg_archiveOldest_34
set_option maxHeartbeats 4000000 in
set_option maxRecDepth 100000 in
theorem c_Lg_purgeUpTo (l : Launch) (dC : Nat → ClassId) (dI : Nat → Nat → Nat) (cT : Nat → ClassId) (sz : Nat) (h0 : Nat) (lS : Nat) (aK : Nat) (aC : Nat) (aT : Nat) (aP : Nat) (lL : Nat) (lC : Nat) (lA : Nat) (lP : Nat) (r : Nat) (h0s : 0 < lS) (hs : lS ≤ 8) (hr0 : r < 2 ^ 30) (hA : lA < 2 ^ 30) (hPu : lP < 2 ^ 30) (hq : r / lS < 2 ^ 30) : Met l y_Lg_purgeUpTo w_Lg_purgeUpTo ({ frames := 1, cells := 0, slots := 0, locals := 21 } : Room) (zPre (dC, dI) vwCl (zT cT) [.ref h0, .int (nI r)] ([(h0, .inr (1, [.int (nI lS), .ref aK, .ref aC, .ref aT, .ref aP, .int (nI lL), .int (nI lC), .int (nI lA), .int (nI lP)]))]) sz) (zQ (dC, dI) vwCl (S := Unit) (fun zu => True) (fun zu => none) (fun zu => [(h0, .inr (1, [.int (nI lS), .ref aK, .ref aC, .ref aT, .ref aP, .int (nI lL), .int (nI lC), .int (nI lA), .int (nI (max lP (min lA (r / lS))))]))]) (va_A ([(h0, .inr (1, [.int (nI lS), .ref aK, .ref aC, .ref aT, .ref aP, .int (nI lL), .int (nI lC), .int (nI lA), .int (nI lP)]))]) sz)) 0 0 (va_A ([(h0, .inr (1, [.int (nI lS), .ref aK, .ref aC, .ref aT, .ref aP, .int (nI lL), .int (nI lC), .int (nI lA), .int (nI lP)]))]) sz) := by
  refine Met.ofW (cc := b_Lg_purgeUpTo) (maxL := 2) (ret := none) (by decide) rfl ?_
  intro p e s m args below meth c s₁ B hml hv
  obtain ⟨rfl, hsz, hP, hK, hD0, hE⟩ := hv
  have hx := B.exec
  have hb := B.bytes
  have hr := B.returns
  have hts := fun w h => atoms_spec (ws := w_Lg_purgeUpTo) B.pre w (List.mem_cons_of_mem _ h)
  have hown : s.vm.findClass R_Lg = some m.cls := findClass_of_methodNamed B.named
  have hlocks := B.notSynchronized
  subst hsz
  have hD := hD0.self (sz := s.heap.size)
  generalize hAe : va_A ([(h0, .inr (1, [.int (nI lS), .ref aK, .ref aC, .ref aT, .ref aP, .int (nI lL), .int (nI lC), .int (nI lA), .int (nI lP)]))]) s.heap.size = A at hD ⊢
  have hA : ∀ q : Nat, s.heap.size ≤ q → A q := fun q h => by rw [← hAe]; exact Or.inr h
  have hS : va_S A s.heap s.heap [] := va_S.rf
  have hl := lv_entry ([.ref h0, .int (nI r)]) (n := 2) (Nat.le_of_ble_eq_true rfl)
  rw [lg_entry_eq]
  generalize (lg_sl ([.ref h0, .int (nI r)]) ++ List.replicate (2 - (lg_sl ([.ref h0, .int (nI r)])).length) Slot.unset).toArray = ls at hl ⊢
  have hl : lv_has ls 2 [(0, .ref h0), (1, .int (nI r))] := hl
  refine lv_aload_n hx hb d_Lg_purgeUpTo_0 rfl (lv_at hl 0 rfl) ?_
  refine lv_aload_n hx hb d_Lg_purgeUpTo_1 rfl (lv_at hl 0 rfl) ?_
  refine va_get (D := (dC, dI)) (ci := 1) (v := .int (nI lP)) (C := R_Lg) (T := F_Lg) (N := 9) hx hb hts i_Lg hown hK hP 0 rfl rfl 8 (by decide) (hts _ wd_84) (fun _ h9 => h9) rfl d_Lg_purgeUpTo_2 ?_
  refine lv_aload_n hx hb d_Lg_purgeUpTo_5 rfl (lv_at hl 0 rfl) ?_
  refine va_get (D := (dC, dI)) (ci := 1) (v := .int (nI lA)) (C := R_Lg) (T := F_Lg) (N := 9) hx hb hts i_Lg hown hK hP 0 rfl rfl 7 (by decide) (hts _ wd_83) (fun _ h9 => h9) rfl d_Lg_purgeUpTo_6 ?_
  refine lv_iload_n hx hb d_Lg_purgeUpTo_9 rfl (lv_at hl 1 rfl) ?_
  refine lv_aload_n hx hb d_Lg_purgeUpTo_10 rfl (lv_at hl 0 rfl) ?_
  refine va_get (D := (dC, dI)) (ci := 1) (v := .int (nI lS)) (C := R_Lg) (T := F_Lg) (N := 9) hx hb hts i_Lg hown hK hP 0 rfl rfl 0 (by decide) (hts _ wd_76) (fun _ h9 => h9) rfl d_Lg_purgeUpTo_11 ?_
  refine zn_idiv hx hb (by omega) (by omega) (by omega) d_Lg_purgeUpTo_14 ?_
  refine zn_mmin hx hb (by rw [hml]; exact hl.1.symm) hown (hts _ wd_205) (hts _ wd_63) (hts _ wd_5) (hts _ wd_64) (Nat.le_of_ble_eq_true rfl) (Nat.le_of_ble_eq_true rfl) (Nat.le_of_ble_eq_true rfl) (Nat.le_of_ble_eq_true rfl) (a := lA) (b := r / lS) (by omega) (by omega) d_Lg_purgeUpTo_15 ?_
  refine zn_mmax hx hb (by rw [hml]; exact hl.1.symm) hown (hts _ wd_437) (hts _ wd_66) (hts _ wd_5) (hts _ wd_67) (Nat.le_of_ble_eq_true rfl) (Nat.le_of_ble_eq_true rfl) (Nat.le_of_ble_eq_true rfl) (Nat.le_of_ble_eq_true rfl) (a := lP) (b := min lA (r / lS)) (by omega) (by omega) d_Lg_purgeUpTo_18 ?_
  refine va_put (D := (dC, dI)) (ci := 1) (v := .int (nI (max lP (min lA (r / lS))))) (ty := .int) (C := R_Lg) (T := F_Lg) (N := 9) hx hb hts i_Lg t_Lg t_Lg_ok n_Lg hown hK hP hD hS 0 rfl rfl 8 (by decide) (hts _ wd_84) (fun _ h9 => h9) rfl (by decide +kernel) rfl rfl (Nat.le_of_ble_eq_true rfl) d_Lg_purgeUpTo_21 (fun H locs hP hD hS => ?_)
  have hP : va_P (dC, dI) vwCl ([(h0, .inr (1, [.int (nI lS), .ref aK, .ref aC, .ref aT, .ref aP, .int (nI lL), .int (nI lC), .int (nI lA), .int (nI (max lP (min lA (r / lS))))]))]) H := hP
  have hD : va_D A ([(h0, .inr (1, [.int (nI lS), .ref aK, .ref aC, .ref aT, .ref aP, .int (nI lL), .int (nI lC), .int (nI lA), .int (nI (max lP (min lA (r / lS))))]))]) := hD
  have hP9 := hP.sub (ws' := [(h0, .inr (1, [.int (nI lS), .ref aK, .ref aC, .ref aT, .ref aP, .int (nI lL), .int (nI lC), .int (nI lA), .int (nI (max lP (min lA (r / lS))))]))]) [0] rfl
  have hD9 := hD.sub (ws' := [(h0, .inr (1, [.int (nI lS), .ref aK, .ref aC, .ref aT, .ref aP, .int (nI lL), .int (nI lC), .int (nI lA), .int (nI (max lP (min lA (r / lS))))]))]) [0] (by decide) rfl
  exact W.vret hx hb hr (fun t ht hW => ⟨⟨(), trivial, rfl, by rw [ht]; exact hP9, hD9⟩, hS.F ht⟩) hS.2.2 d_Lg_purgeUpTo_24
set_option maxHeartbeats 4000000 in
set_option maxRecDepth 100000 in
theorem c_Lg_recordOfCommit (l : Launch) (dC : Nat → ClassId) (dI : Nat → Nat → Nat) (cT : Nat → ClassId) (h0 : Nat) (lS : Nat) (aK : Nat) (aC : Nat) (aT : Nat) (aP : Nat) (lL : Nat) (lC : Nat) (lA : Nat) (lP : Nat) (k : Nat) (r : Nat) (ks : Nat → Int32) (hL : lL ≤ 800) (h1r : 1 ≤ r) (hrL : r ≤ lL) (hk0 : 0 < k) (hkr : zcom ks r = k) (hlt : ∀ j, j < r → zcom ks j < k) : Met l y_Lg_recordOfCommit w_Lg_recordOfCommit ({ frames := 0, cells := 0, slots := 0, locals := 0 } : Room) (zPreR (dC, dI) vwCl (zT cT) [.ref h0, .int (nI k)] ([(h0, .inr (1, [.int (nI lS), .ref aK, .ref aC, .ref aT, .ref aP, .int (nI lL), .int (nI lC), .int (nI lA), .int (nI lP)])), (aK, .inl (cT 0, 801, .inl ks))])) (k2_QcV (.int (nI r))) 0 0 (fun _ => False) := by
  refine Met.ofW (cc := b_Lg_recordOfCommit) (maxL := 4) (ret := (some .int)) (by decide) rfl ?_
  intro p e s m args below meth c s₁ B hml hv
  obtain ⟨rfl, hP, hK, hE⟩ := hv
  have hx := B.exec
  have hb := B.bytes
  have hr := B.returns
  have hts := fun w h => atoms_spec (ws := w_Lg_recordOfCommit) B.pre w (List.mem_cons_of_mem _ h)
  have hown : s.vm.findClass R_Lg = some m.cls := findClass_of_methodNamed B.named
  have hlocks := B.notSynchronized
  have hl := lv_entry ([.ref h0, .int (nI k)]) (n := 4) (Nat.le_of_ble_eq_true rfl)
  rw [lg_entry_eq]
  generalize (lg_sl ([.ref h0, .int (nI k)]) ++ List.replicate (4 - (lg_sl ([.ref h0, .int (nI k)])).length) Slot.unset).toArray = ls at hl ⊢
  have hl : lv_has ls 4 [(0, .ref h0), (1, .int (nI k))] := hl
  refine lv_iconst (v := (nI 0)) hx hb d_Lg_recordOfCommit_0 (by decide) ?_
  refine lv_istore_n (lv' := [(2, .int (nI 0)), (0, .ref h0), (1, .int (nI k))]) hx hb d_Lg_recordOfCommit_1 rfl hl (by decide) rfl (fun ls hl => ?_)
  refine lv_iconst (v := (nI 1)) hx hb d_Lg_recordOfCommit_2 (by decide) ?_
  refine lv_istore_n (lv' := [(3, .int (nI 1)), (2, .int (nI 0)), (0, .ref h0), (1, .int (nI k))]) hx hb d_Lg_recordOfCommit_3 rfl hl (by decide) rfl (fun ls hl => ?_)
  have loop_4 : ∀ (fu : Nat) (i : Nat) (a : Nat), r - i < fu → (1 ≤ i) → (i ≤ r) → (a = zcom ks (i - 1)) → (a ≤ i) → ∀ (ls : Array Slot), lv_has ls 4 [(0, .ref h0), (1, .int (nI k)), (2, .int (nI a)), (3, .int (nI i))] → W p l e (headSpec w_Lg_recordOfCommit ({ frames := 0, cells := 0, slots := 0, locals := 0 } : Room)).room s m ([.ref h0, .int (nI k)] : List Value).toArray below meth c s.heap [] 0 0 (MQ below (k2_QcV (.int (nI r))) ([.ref h0, .int (nI k)] : List Value).toArray s 0 0 (fun _ => False)) (F0 m 4 ls []) := by
    intro fu
    induction fu with
    | zero => intro _ _ hm; exact absurd hm (Nat.not_lt_zero _)
    | succ fu ih =>
      intro i a hm h1 h2 h3 h4 ls hl
      refine lv_iload_n hx hb d_Lg_recordOfCommit_4 rfl (lv_at hl 3 rfl) ?_
      refine lv_aload_n hx hb d_Lg_recordOfCommit_5 rfl (lv_at hl 0 rfl) ?_
      refine va_get (D := (dC, dI)) (ci := 1) (v := .int (nI lL)) (C := R_Lg) (T := F_Lg) (N := 9) hx hb hts i_Lg hown hK hP 0 rfl rfl 5 (by decide) (hts _ wd_81) (fun _ h9 => h9) rfl d_Lg_recordOfCommit_6 ?_
      refine zn_icmp_gt (tgt := 38) hx hb (a := i) (b := lL) (by omega) (by omega) d_Lg_recordOfCommit_9 (by decide) (fun c_9 => absurd c_9 (by omega)) (fun c_9 => ?_)
      refine lv_aload_n hx hb d_Lg_recordOfCommit_12 rfl (lv_at hl 0 rfl) ?_
      refine va_get (D := (dC, dI)) (ci := 1) (v := .ref aK) (C := R_Lg) (T := F_Lg) (N := 9) hx hb hts i_Lg hown hK hP 0 rfl rfl 1 (by decide) (hts _ wd_77) (fun _ h9 => h9) rfl d_Lg_recordOfCommit_13 ?_
      refine lv_iload_n hx hb d_Lg_recordOfCommit_16 rfl (lv_at hl 3 rfl) ?_
      refine zn_iald hx hb hK hP 1 0 rfl rfl (i := i) (by omega) (by omega) d_Lg_recordOfCommit_17 ?_
      refine lv_iconst (v := (-1)) hx hb d_Lg_recordOfCommit_18 (by decide) ?_
      refine lv_icmp_ne (tgt := 25) hx hb d_Lg_recordOfCommit_19 (by decide) (fun c_19 => ?_) (fun c_19 => ?_)
      · have h5 : a = zcom ks i := by rw [show i = (i - 1) + 1 by omega, zcom, show (i - 1) + 1 = i by omega, if_neg c_19]; omega
        have h7 : a ≤ 800 := by have := zcom_le ks i; omega
        have h8 : k ≤ 801 := by rw [← hkr]; have := zcom_le ks r; omega
        refine lv_iload_n hx hb d_Lg_recordOfCommit_25 rfl (lv_at hl 2 rfl) ?_
        refine lv_iload_n hx hb d_Lg_recordOfCommit_26 rfl (lv_at hl 1 rfl) ?_
        refine zn_icmp_ne (tgt := 32) hx hb (a := a) (b := k) (by omega) (by omega) d_Lg_recordOfCommit_27 (by decide) (fun c_27 => ?_) (fun c_27 => ?_)
        · have h6 : i < r := by
            rcases Nat.lt_or_ge i r with q | q
            · exact q
            · exact absurd (by rw [h5, show i = r by omega, hkr]) c_27
          refine lv_iinc (v := (nI (i + 1))) (lv' := [(3, .int (nI (i + 1))), (0, .ref h0), (1, .int (nI k)), (2, .int (nI a))]) hx hb d_Lg_recordOfCommit_32 hl (k := 3) rfl (nI_1 _) (by decide) rfl (fun ls hl => ?_)
          refine lv_goto (tgt := 4) hx hb d_Lg_recordOfCommit_35 (by decide) ?_
          exact ih (i + 1) a (by omega) (by omega) (by omega) (by rw [Nat.add_sub_cancel]; exact h5) (by omega) ls (lv_sub hl [1, 2, 3, 0] rfl)
        · refine lv_iload_n hx hb d_Lg_recordOfCommit_30 rfl (lv_at hl 3 rfl) ?_
          exact W.iret hx hb hr (fun t ht hW => ⟨by rw [show i = r from by rcases Nat.lt_or_ge i r with q | q; exact absurd (hlt i q) (by omega); omega], ht⟩) (fun q h => by cases h) d_Lg_recordOfCommit_31
      · refine lv_iinc (v := (nI (a + 1))) (lv' := [(2, .int (nI (a + 1))), (0, .ref h0), (1, .int (nI k)), (3, .int (nI i))]) hx hb d_Lg_recordOfCommit_22 hl (k := 2) rfl (nI_1 _) (by decide) rfl (fun ls hl => ?_)
        have h5 : a + 1 = zcom ks i := by rw [show i = (i - 1) + 1 by omega, zcom, show (i - 1) + 1 = i by omega, if_pos c_19]; omega
        have h7 : a + 1 ≤ 800 := by have := zcom_le ks i; omega
        have h8 : k ≤ 801 := by rw [← hkr]; have := zcom_le ks r; omega
        refine lv_iload_n hx hb d_Lg_recordOfCommit_25 rfl (lv_at hl 0 rfl) ?_
        refine lv_iload_n hx hb d_Lg_recordOfCommit_26 rfl (lv_at hl 2 rfl) ?_
        refine zn_icmp_ne (tgt := 32) hx hb (a := a + 1) (b := k) (by omega) (by omega) d_Lg_recordOfCommit_27 (by decide) (fun c_27 => ?_) (fun c_27 => ?_)
        · have h6 : i < r := by
            rcases Nat.lt_or_ge i r with q | q
            · exact q
            · exact absurd (by rw [h5, show i = r by omega, hkr]) c_27
          refine lv_iinc (v := (nI (i + 1))) (lv' := [(3, .int (nI (i + 1))), (2, .int (nI (a + 1))), (0, .ref h0), (1, .int (nI k))]) hx hb d_Lg_recordOfCommit_32 hl (k := 3) rfl (nI_1 _) (by decide) rfl (fun ls hl => ?_)
          refine lv_goto (tgt := 4) hx hb d_Lg_recordOfCommit_35 (by decide) ?_
          exact ih (i + 1) (a + 1) (by omega) (by omega) (by omega) (by rw [Nat.add_sub_cancel]; exact h5) (by omega) ls (lv_sub hl [2, 3, 1, 0] rfl)
        · refine lv_iload_n hx hb d_Lg_recordOfCommit_30 rfl (lv_at hl 3 rfl) ?_
          exact W.iret hx hb hr (fun t ht hW => ⟨by rw [show i = r from by rcases Nat.lt_or_ge i r with q | q; exact absurd (hlt i q) (by omega); omega], ht⟩) (fun q h => by cases h) d_Lg_recordOfCommit_31
  exact loop_4 (r - 1 + 1) 1 0 (by omega) (by first | omega | assumption) (by first | omega | assumption) rfl (by omega) ls (lv_sub hl [2, 3, 1, 0] rfl)
set_option maxHeartbeats 4000000 in
set_option maxRecDepth 100000 in
theorem c_Lg_changesAbove (l : Launch) (dC : Nat → ClassId) (dI : Nat → Nat → Nat) (cT : Nat → ClassId) (h0 : Nat) (lS : Nat) (aK : Nat) (aC : Nat) (aT : Nat) (aP : Nat) (lL : Nat) (lC : Nat) (lA : Nat) (lP : Nat) (an : Nat) (u : Nat) (ks : Nat → Int32) (nm : Nat → Nat) (hu : u ≤ 800) (hnm : ∀ j, j < 8 → nm j ≤ 800) : Met l y_Lg_changesAbove w_Lg_changesAbove ({ frames := 1, cells := 0, slots := 0, locals := 20 } : Room) (zPreR (dC, dI) vwCl (zT cT) [.ref h0, .ref an, .int (nI u)] ([(h0, .inr (1, [.int (nI lS), .ref aK, .ref aC, .ref aT, .ref aP, .int (nI lL), .int (nI lC), .int (nI lA), .int (nI lP)])), (aK, .inl (cT 0, 801, .inl ks)), (an, .inl (cT 0, 8, .inl (fun j => nI (nm j))))])) (k2_QcV (.int (nI (zchg ks nm u)))) 0 0 (fun _ => False) := by
  refine Met.ofW (cc := b_Lg_changesAbove) (maxL := 6) (ret := (some .int)) (by decide) rfl ?_
  intro p e s m args below meth c s₁ B hml hv
  obtain ⟨rfl, hP, hK, hE⟩ := hv
  have hx := B.exec
  have hb := B.bytes
  have hr := B.returns
  have hts := fun w h => atoms_spec (ws := w_Lg_changesAbove) B.pre w (List.mem_cons_of_mem _ h)
  have hown : s.vm.findClass R_Lg = some m.cls := findClass_of_methodNamed B.named
  have hlocks := B.notSynchronized
  have hl := lv_entry ([.ref h0, .ref an, .int (nI u)]) (n := 6) (Nat.le_of_ble_eq_true rfl)
  rw [lg_entry_eq]
  generalize (lg_sl ([.ref h0, .ref an, .int (nI u)]) ++ List.replicate (6 - (lg_sl ([.ref h0, .ref an, .int (nI u)])).length) Slot.unset).toArray = ls at hl ⊢
  have hl : lv_has ls 6 [(0, .ref h0), (1, .ref an), (2, .int (nI u))] := hl
  refine lv_iconst (v := (nI 0)) hx hb d_Lg_changesAbove_0 (by decide) ?_
  refine lv_istore_n (lv' := [(3, .int (nI 0)), (0, .ref h0), (1, .ref an), (2, .int (nI u))]) hx hb d_Lg_changesAbove_1 rfl hl (by decide) rfl (fun ls hl => ?_)
  refine lv_iconst (v := (nI 1)) hx hb d_Lg_changesAbove_2 (by decide) ?_
  refine lv_istore (lv' := [(4, .int (nI 1)), (3, .int (nI 0)), (0, .ref h0), (1, .ref an), (2, .int (nI u))]) hx hb d_Lg_changesAbove_3 hl (by decide) rfl (fun ls hl => ?_)
  have loop_5 : ∀ (fu : Nat) (i : Nat) (a : Nat), u + 1 - i < fu → (1 ≤ i) → (i ≤ u + 1) → (a = zchg ks nm (i - 1)) → (a ≤ 800) → ∀ (ls : Array Slot), lv_has ls 6 [(0, .ref h0), (1, .ref an), (2, .int (nI u)), (3, .int (nI a)), (4, .int (nI i))] → W p l e (headSpec w_Lg_changesAbove ({ frames := 1, cells := 0, slots := 0, locals := 20 } : Room)).room s m ([.ref h0, .ref an, .int (nI u)] : List Value).toArray below meth c s.heap [] 0 0 (MQ below (k2_QcV (.int (nI (zchg ks nm u)))) ([.ref h0, .ref an, .int (nI u)] : List Value).toArray s 0 0 (fun _ => False)) (F0 m 5 ls []) := by
    intro fu
    induction fu with
    | zero => intro _ _ hm; exact absurd hm (Nat.not_lt_zero _)
    | succ fu ih =>
      intro i a hm h1 h2 h3 h4 ls hl
      refine lv_iload hx hb d_Lg_changesAbove_5 (lv_at hl 4 rfl) ?_
      refine lv_iload_n hx hb d_Lg_changesAbove_7 rfl (lv_at hl 2 rfl) ?_
      refine zn_icmp_gt (tgt := 48) hx hb (a := i) (b := u) (by omega) (by omega) d_Lg_changesAbove_8 (by decide) (fun c_8 => ?_) (fun c_8 => ?_)
      · refine lv_iload_n hx hb d_Lg_changesAbove_48 rfl (lv_at hl 3 rfl) ?_
        exact W.iret hx hb hr (fun t ht hW => ⟨by rw [h3, show i - 1 = u by omega], ht⟩) (fun q h => by cases h) d_Lg_changesAbove_49
      · refine lv_aload_n hx hb d_Lg_changesAbove_11 rfl (lv_at hl 0 rfl) ?_
        refine va_get (D := (dC, dI)) (ci := 1) (v := .ref aK) (C := R_Lg) (T := F_Lg) (N := 9) hx hb hts i_Lg hown hK hP 0 rfl rfl 1 (by decide) (hts _ wd_77) (fun _ h9 => h9) rfl d_Lg_changesAbove_12 ?_
        refine lv_iload hx hb d_Lg_changesAbove_15 (lv_at hl 4 rfl) ?_
        refine zn_iald hx hb hK hP 1 0 rfl rfl (i := i) (by omega) (by omega) d_Lg_changesAbove_17 ?_
        refine lv_istore (lv' := [(5, .int (ks i)), (0, .ref h0), (1, .ref an), (2, .int (nI u)), (3, .int (nI a)), (4, .int (nI i))]) hx hb d_Lg_changesAbove_18 hl (by decide) rfl (fun ls hl => ?_)
        refine lv_iload hx hb d_Lg_changesAbove_20 (lv_at hl 0 rfl) ?_
        refine zw_R (r := .int (zb (isIn (ks i) 32))) (va_runSN (As := [.int (ks i)]) (rest := []) ⟨hx, hb, hml, hown, hts⟩ (c_Pr_isKey l dC dI cT (ks i)) ⟨va_cnB 1 hts (zgI wd_192) rfl rfl rfl hE.2.2.1 (hts _ wd_1) (by decide +kernel) ⟨Nat.le_of_ble_eq_true rfl, Nat.le_of_ble_eq_true rfl⟩, hts _ wd_191, trivial⟩ ⟨zPreR_blind, zp_R hK hE (zSub (X := [(h0, .inr (1, [.int (nI lS), .ref aK, .ref aC, .ref aT, .ref aP, .int (nI lL), .int (nI lC), .int (nI lA), .int (nI lP)])), (aK, .inl (cT 0, 801, .inl ks)), (an, .inl (cT 0, 8, .inl (fun j => nI (nm j))))]) (pl := []) hP [] rfl)⟩ rfl rfl hl.1 rfl (lv_room (Nat.le_of_ble_eq_true rfl)) d_Lg_changesAbove_22 ⟨Nat.le_of_ble_eq_true rfl, Nat.le_of_ble_eq_true rfl⟩) ?_
        refine zb_if_eq (tgt := 42) hx hb d_Lg_changesAbove_25 (by decide) (fun c_25 => ?_) (fun c_25 => ?_)
        · have h5 : a = zchg ks nm i := by rw [show i = (i - 1) + 1 by omega, zchg, show (i - 1) + 1 = i by omega, if_neg (fun q => by rw [c_25] at q; exact absurd q.1 (by decide))]; omega
          refine lv_iinc (v := (nI (i + 1))) (lv' := [(4, .int (nI (i + 1))), (5, .int (ks i)), (0, .ref h0), (1, .ref an), (2, .int (nI u)), (3, .int (nI a))]) hx hb d_Lg_changesAbove_42 hl (k := 5) rfl (nI_1 _) (by decide) rfl (fun ls hl => ?_)
          refine lv_goto (tgt := 5) hx hb d_Lg_changesAbove_45 (by decide) ?_
          exact ih (i + 1) a (by omega) (by omega) (by omega) (by rw [Nat.add_sub_cancel]; exact h5) (by have := zchg_le ks nm i; omega) ls (lv_sub hl [2, 3, 4, 5, 0] rfl)
        · obtain ⟨hk1, hk2⟩ := isIn_of (by decide) c_25
          have hk3 := hnm (kN (ks i) / 4) (by omega)
          have hl : lv_has ls 6 [(5, .int (nI (kN (ks i)))), (0, .ref h0), (1, .ref an), (2, .int (nI u)), (3, .int (nI a)), (4, .int (nI i))] := by rw [← hk1]; exact hl
          refine lv_iload hx hb d_Lg_changesAbove_28 (lv_at hl 5 rfl) ?_
          refine lv_aload_n hx hb d_Lg_changesAbove_30 rfl (lv_at hl 2 rfl) ?_
          refine lv_iload hx hb d_Lg_changesAbove_31 (lv_at hl 0 rfl) ?_
          refine lv_iconst (v := (nI 4)) hx hb d_Lg_changesAbove_33 (by decide) ?_
          refine zn_idiv hx hb (by omega) (by omega) (by omega) d_Lg_changesAbove_34 ?_
          refine zn_iald hx hb hK hP 2 0 rfl rfl (i := (kN (ks i)) / 4) (by omega) (by omega) d_Lg_changesAbove_35 ?_
          refine zn_icmp_le (tgt := 42) hx hb (a := i) (b := nm ((kN (ks i)) / 4)) (by omega) (by omega) d_Lg_changesAbove_36 (by decide) (fun c_36 => ?_) (fun c_36 => ?_)
          · have h5 : a = zchg ks nm i := by rw [show i = (i - 1) + 1 by omega, zchg, show (i - 1) + 1 = i by omega, if_neg (fun q => by have := q.2; omega)]; omega
            refine lv_iinc (v := (nI (i + 1))) (lv' := [(4, .int (nI (i + 1))), (5, .int (nI (kN (ks i)))), (0, .ref h0), (1, .ref an), (2, .int (nI u)), (3, .int (nI a))]) hx hb d_Lg_changesAbove_42 hl (k := 5) rfl (nI_1 _) (by decide) rfl (fun ls hl => ?_)
            refine lv_goto (tgt := 5) hx hb d_Lg_changesAbove_45 (by decide) ?_
            exact ih (i + 1) a (by omega) (by omega) (by omega) (by rw [Nat.add_sub_cancel]; exact h5) (by have := zchg_le ks nm i; omega) ls (lv_sub hl [2, 3, 4, 5, 0] rfl)
          · refine lv_iinc (v := (nI (a + 1))) (lv' := [(3, .int (nI (a + 1))), (5, .int (nI (kN (ks i)))), (0, .ref h0), (1, .ref an), (2, .int (nI u)), (4, .int (nI i))]) hx hb d_Lg_changesAbove_39 hl (k := 4) rfl (nI_1 _) (by decide) rfl (fun ls hl => ?_)
            have h5 : a + 1 = zchg ks nm i := by rw [show i = (i - 1) + 1 by omega, zchg, show (i - 1) + 1 = i by omega, if_pos ⟨c_25, c_36⟩]; omega
            refine lv_iinc (v := (nI (i + 1))) (lv' := [(4, .int (nI (i + 1))), (3, .int (nI (a + 1))), (5, .int (nI (kN (ks i)))), (0, .ref h0), (1, .ref an), (2, .int (nI u))]) hx hb d_Lg_changesAbove_42 hl (k := 5) rfl (nI_1 _) (by decide) rfl (fun ls hl => ?_)
            refine lv_goto (tgt := 5) hx hb d_Lg_changesAbove_45 (by decide) ?_
            exact ih (i + 1) (a + 1) (by omega) (by omega) (by omega) (by rw [Nat.add_sub_cancel]; exact h5) (by have := zchg_le ks nm i; omega) ls (lv_sub hl [3, 4, 5, 1, 0] rfl)
  exact loop_5 (u + 1 - 1 + 1) 1 0 (by omega) (by first | omega | assumption) (by first | omega | assumption) rfl (by omega) ls (lv_sub hl [2, 3, 4, 1, 0] rfl)
set_option maxHeartbeats 4000000 in
set_option maxRecDepth 100000 in
theorem c_Lg_tableUpTo (l : Launch) (dC : Nat → ClassId) (dI : Nat → Nat → Nat) (cT : Nat → ClassId) (sz : Nat) (h0 : Nat) (lS : Nat) (aK : Nat) (aC : Nat) (aT : Nat) (aP : Nat) (lL : Nat) (lC : Nat) (lA : Nat) (lP : Nat) (an : Nat) (u : Nat) (ks : Nat → Int32) (cs : Nat → Int64) (f : Nat → Int64) (hu : u ≤ 800) : Met l y_Lg_tableUpTo w_Lg_tableUpTo ({ frames := 1, cells := 0, slots := 0, locals := 24 } : Room) (zPre (dC, dI) vwCl (zT cT) [.ref h0, .int (nI u), .ref an] ([(h0, .inr (1, [.int (nI lS), .ref aK, .ref aC, .ref aT, .ref aP, .int (nI lL), .int (nI lC), .int (nI lA), .int (nI lP)])), (aK, .inl (cT 0, 801, .inl ks)), (aC, .inl (cT 1, 801, .inr (.inl cs))), (an, .inl (cT 1, 32, .inr (.inl f)))]) sz) (zQ (dC, dI) vwCl (S := Unit) (fun zu => True) (fun zu => none) (fun zu => [(h0, .inr (1, [.int (nI lS), .ref aK, .ref aC, .ref aT, .ref aP, .int (nI lL), .int (nI lC), .int (nI lA), .int (nI lP)])), (aK, .inl (cT 0, 801, .inl ks)), (aC, .inl (cT 1, 801, .inr (.inl cs))), (an, .inl (cT 1, 32, .inr (.inl (ztab ks cs (zfill f 1000000000000 32) u))))]) (va_A ([(h0, .inr (1, [.int (nI lS), .ref aK, .ref aC, .ref aT, .ref aP, .int (nI lL), .int (nI lC), .int (nI lA), .int (nI lP)])), (aK, .inl (cT 0, 801, .inl ks)), (aC, .inl (cT 1, 801, .inr (.inl cs))), (an, .inl (cT 1, 32, .inr (.inl f)))]) sz)) 0 0 (va_A ([(h0, .inr (1, [.int (nI lS), .ref aK, .ref aC, .ref aT, .ref aP, .int (nI lL), .int (nI lC), .int (nI lA), .int (nI lP)])), (aK, .inl (cT 0, 801, .inl ks)), (aC, .inl (cT 1, 801, .inr (.inl cs))), (an, .inl (cT 1, 32, .inr (.inl f)))]) sz) := by
  refine Met.ofW (cc := b_Lg_tableUpTo) (maxL := 5) (ret := none) (by decide) rfl ?_
  intro p e s m args below meth c s₁ B hml hv
  obtain ⟨rfl, hsz, hP, hK, hD0, hE⟩ := hv
  have hx := B.exec
  have hb := B.bytes
  have hr := B.returns
  have hts := fun w h => atoms_spec (ws := w_Lg_tableUpTo) B.pre w (List.mem_cons_of_mem _ h)
  have hown : s.vm.findClass R_Lg = some m.cls := findClass_of_methodNamed B.named
  have hlocks := B.notSynchronized
  subst hsz
  have hD := hD0.self (sz := s.heap.size)
  generalize hAe : va_A ([(h0, .inr (1, [.int (nI lS), .ref aK, .ref aC, .ref aT, .ref aP, .int (nI lL), .int (nI lC), .int (nI lA), .int (nI lP)])), (aK, .inl (cT 0, 801, .inl ks)), (aC, .inl (cT 1, 801, .inr (.inl cs))), (an, .inl (cT 1, 32, .inr (.inl f)))]) s.heap.size = A at hD ⊢
  have hA : ∀ q : Nat, s.heap.size ≤ q → A q := fun q h => by rw [← hAe]; exact Or.inr h
  have hS : va_S A s.heap s.heap [] := va_S.rf
  have hl := lv_entry ([.ref h0, .int (nI u), .ref an]) (n := 5) (Nat.le_of_ble_eq_true rfl)
  rw [lg_entry_eq]
  generalize (lg_sl ([.ref h0, .int (nI u), .ref an]) ++ List.replicate (5 - (lg_sl ([.ref h0, .int (nI u), .ref an])).length) Slot.unset).toArray = ls at hl ⊢
  have hl : lv_has ls 5 [(0, .ref h0), (1, .int (nI u)), (2, .ref an)] := hl
  refine lv_aload_n hx hb d_Lg_tableUpTo_0 rfl (lv_at hl 2 rfl) ?_
  refine lv_ldc2 (v := 1000000000000) hx hb hown (hts _ wd_72) d_Lg_tableUpTo_1 ?_
  refine zw_Q (X := [(h0, .inr (1, [.int (nI lS), .ref aK, .ref aC, .ref aT, .ref aP, .int (nI lL), .int (nI lC), .int (nI lA), .int (nI lP)])), (aK, .inl (cT 0, 801, .inl ks)), (aC, .inl (cT 1, 801, .inr (.inl cs))), (an, .inl (cT 1, 32, .inr (.inl f)))]) (pl := []) (va_runS (As := [.ref an, .long 1000000000000]) (rest := []) ⟨hx, hb, hml, hown, hts⟩ (c_Ar_fill_2J l dC dI cT s.heap.size an 32 f 1000000000000 (by first | omega | assumption)) (va_cwS 2 hts (zgS wd_73 wd_74 wd_6 wd_75) rfl rfl rfl (by decide +kernel) ⟨Nat.le_of_ble_eq_true rfl, Nat.le_of_ble_eq_true rfl⟩) ⟨zPre_blind, zp_Q (X := [(h0, .inr (1, [.int (nI lS), .ref aK, .ref aC, .ref aT, .ref aP, .int (nI lL), .int (nI lC), .int (nI lA), .int (nI lP)])), (aK, .inl (cT 0, 801, .inl ks)), (aC, .inl (cT 1, 801, .inr (.inl cs))), (an, .inl (cT 1, 32, .inr (.inl f)))]) (pl := []) hK hE hP hD [3] (by decide) rfl⟩ rfl rfl hl.1 rfl (lv_room (Nat.le_of_ble_eq_true rfl)) d_Lg_tableUpTo_4 ⟨Nat.le_of_ble_eq_true rfl, Nat.le_of_ble_eq_true rfl⟩) hP hD hS hA [3] [0, 1, 2] rfl (wr := [(h0, .inr (1, [.int (nI lS), .ref aK, .ref aC, .ref aT, .ref aP, .int (nI lL), .int (nI lC), .int (nI lA), .int (nI lP)])), (aK, .inl (cT 0, 801, .inl ks)), (aC, .inl (cT 1, 801, .inr (.inl cs)))]) rfl (by decide) (by decide) (fun zu => []) (fun _ => rfl) (fun zu H locs hφ hP hD hS => ?_)
  have hP : va_P (dC, dI) vwCl ([(h0, .inr (1, [.int (nI lS), .ref aK, .ref aC, .ref aT, .ref aP, .int (nI lL), .int (nI lC), .int (nI lA), .int (nI lP)])), (aK, .inl (cT 0, 801, .inl ks)), (aC, .inl (cT 1, 801, .inr (.inl cs))), (an, .inl (cT 1, 32, .inr (.inl (zfill f 1000000000000 32))))]) H := hP
  have hD : va_D A ([(h0, .inr (1, [.int (nI lS), .ref aK, .ref aC, .ref aT, .ref aP, .int (nI lL), .int (nI lC), .int (nI lA), .int (nI lP)])), (aK, .inl (cT 0, 801, .inl ks)), (aC, .inl (cT 1, 801, .inr (.inl cs))), (an, .inl (cT 1, 32, .inr (.inl (zfill f 1000000000000 32))))]) := hD
  refine lv_iconst (v := (nI 1)) hx hb d_Lg_tableUpTo_7 (by decide) ?_
  refine lv_istore_n (lv' := [(3, .int (nI 1)), (0, .ref h0), (1, .int (nI u)), (2, .ref an)]) hx hb d_Lg_tableUpTo_8 rfl hl (by decide) rfl (fun ls hl => ?_)
  have loop_9 : ∀ (fu : Nat) (i : Nat) (g : Nat → Int64), u + 1 - i < fu → (1 ≤ i) → (i ≤ u + 1) → (g = ztab ks cs (zfill f 1000000000000 32) (i - 1)) → ∀ (H : Heap) (locs : List Loc), va_P (dC, dI) vwCl ([(h0, .inr (1, [.int (nI lS), .ref aK, .ref aC, .ref aT, .ref aP, .int (nI lL), .int (nI lC), .int (nI lA), .int (nI lP)])), (aK, .inl (cT 0, 801, .inl ks)), (aC, .inl (cT 1, 801, .inr (.inl cs))), (an, .inl (cT 1, 32, .inr (.inl g)))]) H → va_D A ([(h0, .inr (1, [.int (nI lS), .ref aK, .ref aC, .ref aT, .ref aP, .int (nI lL), .int (nI lC), .int (nI lA), .int (nI lP)])), (aK, .inl (cT 0, 801, .inl ks)), (aC, .inl (cT 1, 801, .inr (.inl cs))), (an, .inl (cT 1, 32, .inr (.inl g)))]) → va_S A s.heap H locs → ∀ (ls : Array Slot), lv_has ls 5 [(0, .ref h0), (1, .int (nI u)), (2, .ref an), (3, .int (nI i))] → W p l e (headSpec w_Lg_tableUpTo ({ frames := 1, cells := 0, slots := 0, locals := 24 } : Room)).room s m ([.ref h0, .int (nI u), .ref an] : List Value).toArray below meth c H locs 0 0 (MQ below (zQ (dC, dI) vwCl (S := Unit) (fun zu => True) (fun zu => none) (fun zu => [(h0, .inr (1, [.int (nI lS), .ref aK, .ref aC, .ref aT, .ref aP, .int (nI lL), .int (nI lC), .int (nI lA), .int (nI lP)])), (aK, .inl (cT 0, 801, .inl ks)), (aC, .inl (cT 1, 801, .inr (.inl cs))), (an, .inl (cT 1, 32, .inr (.inl (ztab ks cs (zfill f 1000000000000 32) u))))]) A) ([.ref h0, .int (nI u), .ref an] : List Value).toArray s 0 0 A) (F0 m 9 ls []) := by
    intro fu
    induction fu with
    | zero => intro _ _ hm; exact absurd hm (Nat.not_lt_zero _)
    | succ fu ih =>
      intro i g hm h1 h2 h3 H locs hP hD hS ls hl
      refine lv_iload_n hx hb d_Lg_tableUpTo_9 rfl (lv_at hl 3 rfl) ?_
      refine lv_iload_n hx hb d_Lg_tableUpTo_10 rfl (lv_at hl 1 rfl) ?_
      refine zn_icmp_gt (tgt := 46) hx hb (a := i) (b := u) (by omega) (by omega) d_Lg_tableUpTo_11 (by decide) (fun c_11 => ?_) (fun c_11 => ?_)
      · have hP9 := hP.sub (ws' := [(h0, .inr (1, [.int (nI lS), .ref aK, .ref aC, .ref aT, .ref aP, .int (nI lL), .int (nI lC), .int (nI lA), .int (nI lP)])), (aK, .inl (cT 0, 801, .inl ks)), (aC, .inl (cT 1, 801, .inr (.inl cs))), (an, .inl (cT 1, 32, .inr (.inl g)))]) [0, 1, 2, 3] rfl
        have hD9 := hD.sub (ws' := [(h0, .inr (1, [.int (nI lS), .ref aK, .ref aC, .ref aT, .ref aP, .int (nI lL), .int (nI lC), .int (nI lA), .int (nI lP)])), (aK, .inl (cT 0, 801, .inl ks)), (aC, .inl (cT 1, 801, .inr (.inl cs))), (an, .inl (cT 1, 32, .inr (.inl g)))]) [0, 1, 2, 3] (by decide) rfl
        have hP9 : va_P (dC, dI) vwCl ([(h0, .inr (1, [.int (nI lS), .ref aK, .ref aC, .ref aT, .ref aP, .int (nI lL), .int (nI lC), .int (nI lA), .int (nI lP)])), (aK, .inl (cT 0, 801, .inl ks)), (aC, .inl (cT 1, 801, .inr (.inl cs))), (an, .inl (cT 1, 32, .inr (.inl (ztab ks cs (zfill f 1000000000000 32) u))))]) H := by rw [show u = i - 1 by omega, ← h3]; exact hP9
        have hD9 : va_D A ([(h0, .inr (1, [.int (nI lS), .ref aK, .ref aC, .ref aT, .ref aP, .int (nI lL), .int (nI lC), .int (nI lA), .int (nI lP)])), (aK, .inl (cT 0, 801, .inl ks)), (aC, .inl (cT 1, 801, .inr (.inl cs))), (an, .inl (cT 1, 32, .inr (.inl (ztab ks cs (zfill f 1000000000000 32) u))))]) := by rw [show u = i - 1 by omega, ← h3]; exact hD9
        exact W.vret hx hb hr (fun t ht hW => ⟨⟨(), trivial, rfl, by rw [ht]; exact hP9, hD9⟩, hS.F ht⟩) hS.2.2 d_Lg_tableUpTo_46
      · refine lv_aload_n hx hb d_Lg_tableUpTo_14 rfl (lv_at hl 0 rfl) ?_
        refine va_get (D := (dC, dI)) (ci := 1) (v := .ref aK) (C := R_Lg) (T := F_Lg) (N := 9) hx hb hts i_Lg hown hK hP 0 rfl rfl 1 (by decide) (hts _ wd_77) (fun _ h9 => h9) rfl d_Lg_tableUpTo_15 ?_
        refine lv_iload_n hx hb d_Lg_tableUpTo_18 rfl (lv_at hl 3 rfl) ?_
        refine zn_iald hx hb hK hP 1 0 rfl rfl (i := i) (by omega) (by omega) d_Lg_tableUpTo_19 ?_
        refine lv_istore (lv' := [(4, .int (ks i)), (0, .ref h0), (1, .int (nI u)), (2, .ref an), (3, .int (nI i))]) hx hb d_Lg_tableUpTo_20 hl (by decide) rfl (fun ls hl => ?_)
        refine lv_iload hx hb d_Lg_tableUpTo_22 (lv_at hl 0 rfl) ?_
        refine zw_R (r := .int (zb (isIn (ks i) 32))) (va_runSN (As := [.int (ks i)]) (rest := []) ⟨hx, hb, hml, hown, hts⟩ (c_Pr_isKey l dC dI cT (ks i)) ⟨va_cnB 1 hts (zgI wd_192) rfl rfl rfl hE.2.2.1 (hts _ wd_1) (by decide +kernel) ⟨Nat.le_of_ble_eq_true rfl, Nat.le_of_ble_eq_true rfl⟩, hts _ wd_191, trivial⟩ ⟨zPreR_blind, zp_R hK hE (zSub (X := [(h0, .inr (1, [.int (nI lS), .ref aK, .ref aC, .ref aT, .ref aP, .int (nI lL), .int (nI lC), .int (nI lA), .int (nI lP)])), (aK, .inl (cT 0, 801, .inl ks)), (aC, .inl (cT 1, 801, .inr (.inl cs))), (an, .inl (cT 1, 32, .inr (.inl g)))]) (pl := []) hP [] rfl)⟩ rfl rfl hl.1 rfl (lv_room (Nat.le_of_ble_eq_true rfl)) d_Lg_tableUpTo_24 ⟨Nat.le_of_ble_eq_true rfl, Nat.le_of_ble_eq_true rfl⟩) ?_
        refine zb_if_eq (tgt := 40) hx hb d_Lg_tableUpTo_27 (by decide) (fun c_27 => ?_) (fun c_27 => ?_)
        · have h5 : g = ztab ks cs (zfill f 1000000000000 32) i := by rw [show i = (i - 1) + 1 by omega, ztab, show (i - 1) + 1 = i by omega, if_neg (by rw [c_27]; decide), h3]
          refine lv_iinc (v := (nI (i + 1))) (lv' := [(3, .int (nI (i + 1))), (4, .int (ks i)), (0, .ref h0), (1, .int (nI u)), (2, .ref an)]) hx hb d_Lg_tableUpTo_40 hl (k := 4) rfl (nI_1 _) (by decide) rfl (fun ls hl => ?_)
          refine lv_goto (tgt := 9) hx hb d_Lg_tableUpTo_43 (by decide) ?_
          exact ih (i + 1) g (by omega) (by omega) (by omega) (by rw [Nat.add_sub_cancel]; exact h5) H locs (hP.sub [0, 1, 2, 3] rfl) (hD.sub [0, 1, 2, 3] (by decide) rfl) hS ls (lv_sub hl [2, 3, 4, 0] rfl)
        · obtain ⟨hk1, hk2⟩ := isIn_of (by decide) c_27
          have hl : lv_has ls 5 [(4, .int (nI (kN (ks i)))), (0, .ref h0), (1, .int (nI u)), (2, .ref an), (3, .int (nI i))] := by rw [← hk1]; exact hl
          refine lv_aload_n hx hb d_Lg_tableUpTo_30 rfl (lv_at hl 3 rfl) ?_
          refine lv_iload hx hb d_Lg_tableUpTo_31 (lv_at hl 0 rfl) ?_
          refine lv_aload_n hx hb d_Lg_tableUpTo_33 rfl (lv_at hl 1 rfl) ?_
          refine va_get (D := (dC, dI)) (ci := 1) (v := .ref aC) (C := R_Lg) (T := F_Lg) (N := 9) hx hb hts i_Lg hown hK hP 0 rfl rfl 2 (by decide) (hts _ wd_78) (fun _ h9 => h9) rfl d_Lg_tableUpTo_34 ?_
          refine lv_iload_n hx hb d_Lg_tableUpTo_37 rfl (lv_at hl 4 rfl) ?_
          refine zn_lald hx hb hK hP 2 1 rfl rfl (i := i) (by omega) (by omega) d_Lg_tableUpTo_38 ?_
          refine zn_last hx hb hK hP hD hS 3 1 rfl rfl (i := kN (ks i)) (x := cs i) (by omega) (by omega) d_Lg_tableUpTo_39 (fun H locs hP hD hS => ?_)
          have hP : va_P (dC, dI) vwCl ([(h0, .inr (1, [.int (nI lS), .ref aK, .ref aC, .ref aT, .ref aP, .int (nI lL), .int (nI lC), .int (nI lA), .int (nI lP)])), (aK, .inl (cT 0, 801, .inl ks)), (aC, .inl (cT 1, 801, .inr (.inl cs))), (an, .inl (cT 1, 32, .inr (.inl (va_up g (kN (ks i)) (cs i)))))]) H := hP
          have hD : va_D A ([(h0, .inr (1, [.int (nI lS), .ref aK, .ref aC, .ref aT, .ref aP, .int (nI lL), .int (nI lC), .int (nI lA), .int (nI lP)])), (aK, .inl (cT 0, 801, .inl ks)), (aC, .inl (cT 1, 801, .inr (.inl cs))), (an, .inl (cT 1, 32, .inr (.inl (va_up g (kN (ks i)) (cs i)))))]) := hD
          have h5 : va_up g (kN (ks i)) (cs i) = ztab ks cs (zfill f 1000000000000 32) i := by rw [show i = (i - 1) + 1 by omega, ztab, show (i - 1) + 1 = i by omega, if_pos c_27, h3]
          refine lv_iinc (v := (nI (i + 1))) (lv' := [(3, .int (nI (i + 1))), (4, .int (nI (kN (ks i)))), (0, .ref h0), (1, .int (nI u)), (2, .ref an)]) hx hb d_Lg_tableUpTo_40 hl (k := 4) rfl (nI_1 _) (by decide) rfl (fun ls hl => ?_)
          refine lv_goto (tgt := 9) hx hb d_Lg_tableUpTo_43 (by decide) ?_
          exact ih (i + 1) (va_up g (kN (ks i)) (cs i)) (by omega) (by omega) (by omega) (by rw [Nat.add_sub_cancel]; exact h5) H locs (hP.sub [0, 1, 2, 3] rfl) (hD.sub [0, 1, 2, 3] (by decide) rfl) hS ls (lv_sub hl [2, 3, 4, 0] rfl)
  exact loop_9 (u + 1 - 1 + 1) 1 (zfill f 1000000000000 32) (by omega) (by first | omega | assumption) (by first | omega | assumption) rfl H locs (hP.sub [0, 1, 2, 3] rfl) (hD.sub [0, 1, 2, 3] (by decide) rfl) hS ls (lv_sub hl [1, 2, 3, 0] rfl)
set_option maxHeartbeats 4000000 in
set_option maxRecDepth 100000 in
theorem c_Tx_isOpen (l : Launch) (dC : Nat → ClassId) (dI : Nat → Nat → Nat) (cT : Nat → ClassId) (h0 : Nat) (xK : Nat) (xR : Nat) (ch : Nat) (op : Bool) : Met l y_Tx_isOpen w_Tx_isOpen ({ frames := 0, cells := 0, slots := 0, locals := 0 } : Room) (zPreR (dC, dI) vwCl (zT cT) [.ref h0] ([(h0, .inr (2, [.ref xK, .ref xR, .int (nI ch), .int (zb op)]))])) (k2_QcV (.int (zb op))) 0 0 (fun _ => False) := by
  refine Met.ofW (cc := b_Tx_isOpen) (maxL := 1) (ret := (some .boolean)) (by decide) rfl ?_
  intro p e s m args below meth c s₁ B hml hv
  obtain ⟨rfl, hP, hK, hE⟩ := hv
  have hx := B.exec
  have hb := B.bytes
  have hr := B.returns
  have hts := fun w h => atoms_spec (ws := w_Tx_isOpen) B.pre w (List.mem_cons_of_mem _ h)
  have hown : s.vm.findClass R_Tx = some m.cls := findClass_of_methodNamed B.named
  have hlocks := B.notSynchronized
  have hl := lv_entry ([.ref h0]) (n := 1) (Nat.le_of_ble_eq_true rfl)
  rw [lg_entry_eq]
  generalize (lg_sl ([.ref h0]) ++ List.replicate (1 - (lg_sl ([.ref h0])).length) Slot.unset).toArray = ls at hl ⊢
  have hl : lv_has ls 1 [(0, .ref h0)] := hl
  refine lv_aload_n hx hb d_Tx_isOpen_0 rfl (lv_at hl 0 rfl) ?_
  refine va_get (D := (dC, dI)) (ci := 2) (v := .int (zb op)) (C := R_Tx) (T := F_Tx) (N := 4) hx hb hts i_Tx hown hK hP 0 rfl rfl 3 (by decide) (hts _ wd_34) (fun _ h9 => h9) rfl d_Tx_isOpen_1 ?_
  exact W.zret hx hb hr (zb_narrow _) (fun t ht hW => ⟨rfl, ht⟩) (fun q h => by cases h) d_Tx_isOpen_4
set_option maxHeartbeats 4000000 in
set_option maxRecDepth 100000 in
theorem c_Tx_changes (l : Launch) (dC : Nat → ClassId) (dI : Nat → Nat → Nat) (cT : Nat → ClassId) (h0 : Nat) (xK : Nat) (xR : Nat) (ch : Nat) (op : Bool) : Met l y_Tx_changes w_Tx_changes ({ frames := 0, cells := 0, slots := 0, locals := 0 } : Room) (zPreR (dC, dI) vwCl (zT cT) [.ref h0] ([(h0, .inr (2, [.ref xK, .ref xR, .int (nI ch), .int (zb op)]))])) (k2_QcV (.int (nI ch))) 0 0 (fun _ => False) := by
  refine Met.ofW (cc := b_Tx_changes) (maxL := 1) (ret := (some .int)) (by decide) rfl ?_
  intro p e s m args below meth c s₁ B hml hv
  obtain ⟨rfl, hP, hK, hE⟩ := hv
  have hx := B.exec
  have hb := B.bytes
  have hr := B.returns
  have hts := fun w h => atoms_spec (ws := w_Tx_changes) B.pre w (List.mem_cons_of_mem _ h)
  have hown : s.vm.findClass R_Tx = some m.cls := findClass_of_methodNamed B.named
  have hlocks := B.notSynchronized
  have hl := lv_entry ([.ref h0]) (n := 1) (Nat.le_of_ble_eq_true rfl)
  rw [lg_entry_eq]
  generalize (lg_sl ([.ref h0]) ++ List.replicate (1 - (lg_sl ([.ref h0])).length) Slot.unset).toArray = ls at hl ⊢
  have hl : lv_has ls 1 [(0, .ref h0)] := hl
  refine lv_aload_n hx hb d_Tx_changes_0 rfl (lv_at hl 0 rfl) ?_
  refine va_get (D := (dC, dI)) (ci := 2) (v := .int (nI ch)) (C := R_Tx) (T := F_Tx) (N := 4) hx hb hts i_Tx hown hK hP 0 rfl rfl 2 (by decide) (hts _ wd_33) (fun _ h9 => h9) rfl d_Tx_changes_1 ?_
  exact W.iret hx hb hr (fun t ht hW => ⟨rfl, ht⟩) (fun q h => by cases h) d_Tx_changes_4
set_option maxHeartbeats 4000000 in
set_option maxRecDepth 100000 in
theorem c_Tx_takesAChange (l : Launch) (dC : Nat → ClassId) (dI : Nat → Nat → Nat) (cT : Nat → ClassId) (h0 : Nat) (xK : Nat) (xR : Nat) (ch : Nat) (op : Bool) (hc : ch ≤ 4) : Met l y_Tx_takesAChange w_Tx_takesAChange ({ frames := 0, cells := 0, slots := 0, locals := 0 } : Room) (zPreR (dC, dI) vwCl (zT cT) [.ref h0] ([(h0, .inr (2, [.ref xK, .ref xR, .int (nI ch), .int (zb op)]))])) (k2_QcV (.int (zb (op && decide (ch < 4))))) 0 0 (fun _ => False) := by
  refine Met.ofW (cc := b_Tx_takesAChange) (maxL := 1) (ret := (some .boolean)) (by decide) rfl ?_
  intro p e s m args below meth c s₁ B hml hv
  obtain ⟨rfl, hP, hK, hE⟩ := hv
  have hx := B.exec
  have hb := B.bytes
  have hr := B.returns
  have hts := fun w h => atoms_spec (ws := w_Tx_takesAChange) B.pre w (List.mem_cons_of_mem _ h)
  have hown : s.vm.findClass R_Tx = some m.cls := findClass_of_methodNamed B.named
  have hlocks := B.notSynchronized
  have hl := lv_entry ([.ref h0]) (n := 1) (Nat.le_of_ble_eq_true rfl)
  rw [lg_entry_eq]
  generalize (lg_sl ([.ref h0]) ++ List.replicate (1 - (lg_sl ([.ref h0])).length) Slot.unset).toArray = ls at hl ⊢
  have hl : lv_has ls 1 [(0, .ref h0)] := hl
  refine lv_aload_n hx hb d_Tx_takesAChange_0 rfl (lv_at hl 0 rfl) ?_
  refine va_get (D := (dC, dI)) (ci := 2) (v := .int (zb op)) (C := R_Tx) (T := F_Tx) (N := 4) hx hb hts i_Tx hown hK hP 0 rfl rfl 3 (by decide) (hts _ wd_34) (fun _ h9 => h9) rfl d_Tx_takesAChange_1 ?_
  refine zb_if_eq (tgt := 19) hx hb d_Tx_takesAChange_4 (by decide) (fun c_4 => ?_) (fun c_4 => ?_)
  · refine lv_iconst (v := (nI 0)) hx hb d_Tx_takesAChange_19 (by decide) ?_
    refine W.eq (g2 := F0 m 20 ls [.int (zb false)]) rfl ?_
    exact W.zret hx hb hr (zb_narrow _) (fun t ht hW => ⟨by rw [c_4]; rfl, ht⟩) (fun q h => by cases h) d_Tx_takesAChange_20
  · refine lv_aload_n hx hb d_Tx_takesAChange_7 rfl (lv_at hl 0 rfl) ?_
    refine va_get (D := (dC, dI)) (ci := 2) (v := .int (nI ch)) (C := R_Tx) (T := F_Tx) (N := 4) hx hb hts i_Tx hown hK hP 0 rfl rfl 2 (by decide) (hts _ wd_33) (fun _ h9 => h9) rfl d_Tx_takesAChange_8 ?_
    refine lv_iconst (v := (nI 4)) hx hb d_Tx_takesAChange_11 (by decide) ?_
    refine zn_icmp_ge (tgt := 19) hx hb (a := ch) (b := 4) (by omega) (by omega) d_Tx_takesAChange_12 (by decide) (fun c_12 => ?_) (fun c_12 => ?_)
    · refine lv_iconst (v := (nI 0)) hx hb d_Tx_takesAChange_19 (by decide) ?_
      refine W.eq (g2 := F0 m 20 ls [.int (zb false)]) rfl ?_
      exact W.zret hx hb hr (zb_narrow _) (fun t ht hW => ⟨by rw [c_4, decide_eq_false (by omega)]; rfl, ht⟩) (fun q h => by cases h) d_Tx_takesAChange_20
    · refine lv_iconst (v := (nI 1)) hx hb d_Tx_takesAChange_15 (by decide) ?_
      refine lv_goto (tgt := 20) hx hb d_Tx_takesAChange_16 (by decide) ?_
      refine W.eq (g2 := F0 m 20 ls [.int (zb true)]) rfl ?_
      exact W.zret hx hb hr (zb_narrow _) (fun t ht hW => ⟨by rw [c_4, decide_eq_true c_12]; rfl, ht⟩) (fun q h => by cases h) d_Tx_takesAChange_20
set_option maxHeartbeats 4000000 in
set_option maxRecDepth 100000 in
theorem c_Tx_open (l : Launch) (dC : Nat → ClassId) (dI : Nat → Nat → Nat) (cT : Nat → ClassId) (sz : Nat) (h0 : Nat) (xK : Nat) (xR : Nat) (ch : Nat) (op : Bool) : Met l y_Tx_open w_Tx_open ({ frames := 0, cells := 0, slots := 0, locals := 0 } : Room) (zPre (dC, dI) vwCl (zT cT) [.ref h0] ([(h0, .inr (2, [.ref xK, .ref xR, .int (nI ch), .int (zb op)]))]) sz) (zQ (dC, dI) vwCl (S := Unit) (fun zu => True) (fun zu => none) (fun zu => [(h0, .inr (2, [.ref xK, .ref xR, .int (nI ch), .int (zb true)]))]) (va_A ([(h0, .inr (2, [.ref xK, .ref xR, .int (nI ch), .int (zb op)]))]) sz)) 0 0 (va_A ([(h0, .inr (2, [.ref xK, .ref xR, .int (nI ch), .int (zb op)]))]) sz) := by
  refine Met.ofW (cc := b_Tx_open) (maxL := 1) (ret := none) (by decide) rfl ?_
  intro p e s m args below meth c s₁ B hml hv
  obtain ⟨rfl, hsz, hP, hK, hD0, hE⟩ := hv
  have hx := B.exec
  have hb := B.bytes
  have hr := B.returns
  have hts := fun w h => atoms_spec (ws := w_Tx_open) B.pre w (List.mem_cons_of_mem _ h)
  have hown : s.vm.findClass R_Tx = some m.cls := findClass_of_methodNamed B.named
  have hlocks := B.notSynchronized
  subst hsz
  have hD := hD0.self (sz := s.heap.size)
  generalize hAe : va_A ([(h0, .inr (2, [.ref xK, .ref xR, .int (nI ch), .int (zb op)]))]) s.heap.size = A at hD ⊢
  have hA : ∀ q : Nat, s.heap.size ≤ q → A q := fun q h => by rw [← hAe]; exact Or.inr h
  have hS : va_S A s.heap s.heap [] := va_S.rf
  have hl := lv_entry ([.ref h0]) (n := 1) (Nat.le_of_ble_eq_true rfl)
  rw [lg_entry_eq]
  generalize (lg_sl ([.ref h0]) ++ List.replicate (1 - (lg_sl ([.ref h0])).length) Slot.unset).toArray = ls at hl ⊢
  have hl : lv_has ls 1 [(0, .ref h0)] := hl
  refine lv_aload_n hx hb d_Tx_open_0 rfl (lv_at hl 0 rfl) ?_
  refine lv_iconst (v := (nI 1)) hx hb d_Tx_open_1 (by decide) ?_
  refine W.eq (g2 := F0 m 2 ls [.int (zb true), .ref h0]) rfl ?_
  refine va_put (D := (dC, dI)) (ci := 2) (v := .int (zb true)) (ty := .boolean) (C := R_Tx) (T := F_Tx) (N := 4) hx hb hts i_Tx t_Tx t_Tx_ok n_Tx hown hK hP hD hS 0 rfl rfl 3 (by decide) (hts _ wd_34) (fun _ h9 => h9) rfl (by decide +kernel) (zb_narrow _) (zb_fits _) (Nat.le_of_ble_eq_true rfl) d_Tx_open_2 (fun H locs hP hD hS => ?_)
  have hP : va_P (dC, dI) vwCl ([(h0, .inr (2, [.ref xK, .ref xR, .int (nI ch), .int (zb true)]))]) H := hP
  have hD : va_D A ([(h0, .inr (2, [.ref xK, .ref xR, .int (nI ch), .int (zb true)]))]) := hD
  have hP9 := hP.sub (ws' := [(h0, .inr (2, [.ref xK, .ref xR, .int (nI ch), .int (zb true)]))]) [0] rfl
  have hD9 := hD.sub (ws' := [(h0, .inr (2, [.ref xK, .ref xR, .int (nI ch), .int (zb true)]))]) [0] (by decide) rfl
  exact W.vret hx hb hr (fun t ht hW => ⟨⟨(), trivial, rfl, by rw [ht]; exact hP9, hD9⟩, hS.F ht⟩) hS.2.2 d_Tx_open_5
set_option maxHeartbeats 4000000 in
set_option maxRecDepth 100000 in
theorem c_Tx_close (l : Launch) (dC : Nat → ClassId) (dI : Nat → Nat → Nat) (cT : Nat → ClassId) (sz : Nat) (h0 : Nat) (xK : Nat) (xR : Nat) (ch : Nat) (op : Bool) : Met l y_Tx_close w_Tx_close ({ frames := 0, cells := 0, slots := 0, locals := 0 } : Room) (zPre (dC, dI) vwCl (zT cT) [.ref h0] ([(h0, .inr (2, [.ref xK, .ref xR, .int (nI ch), .int (zb op)]))]) sz) (zQ (dC, dI) vwCl (S := Unit) (fun zu => True) (fun zu => none) (fun zu => [(h0, .inr (2, [.ref xK, .ref xR, .int (nI 0), .int (zb false)]))]) (va_A ([(h0, .inr (2, [.ref xK, .ref xR, .int (nI ch), .int (zb op)]))]) sz)) 0 0 (va_A ([(h0, .inr (2, [.ref xK, .ref xR, .int (nI ch), .int (zb op)]))]) sz) := by
  refine Met.ofW (cc := b_Tx_close) (maxL := 1) (ret := none) (by decide) rfl ?_
  intro p e s m args below meth c s₁ B hml hv
  obtain ⟨rfl, hsz, hP, hK, hD0, hE⟩ := hv
  have hx := B.exec
  have hb := B.bytes
  have hr := B.returns
  have hts := fun w h => atoms_spec (ws := w_Tx_close) B.pre w (List.mem_cons_of_mem _ h)
  have hown : s.vm.findClass R_Tx = some m.cls := findClass_of_methodNamed B.named
  have hlocks := B.notSynchronized
  subst hsz
  have hD := hD0.self (sz := s.heap.size)
  generalize hAe : va_A ([(h0, .inr (2, [.ref xK, .ref xR, .int (nI ch), .int (zb op)]))]) s.heap.size = A at hD ⊢
  have hA : ∀ q : Nat, s.heap.size ≤ q → A q := fun q h => by rw [← hAe]; exact Or.inr h
  have hS : va_S A s.heap s.heap [] := va_S.rf
  have hl := lv_entry ([.ref h0]) (n := 1) (Nat.le_of_ble_eq_true rfl)
  rw [lg_entry_eq]
  generalize (lg_sl ([.ref h0]) ++ List.replicate (1 - (lg_sl ([.ref h0])).length) Slot.unset).toArray = ls at hl ⊢
  have hl : lv_has ls 1 [(0, .ref h0)] := hl
  refine lv_aload_n hx hb d_Tx_close_0 rfl (lv_at hl 0 rfl) ?_
  refine lv_iconst (v := (nI 0)) hx hb d_Tx_close_1 (by decide) ?_
  refine W.eq (g2 := F0 m 2 ls [.int (zb false), .ref h0]) rfl ?_
  refine va_put (D := (dC, dI)) (ci := 2) (v := .int (zb false)) (ty := .boolean) (C := R_Tx) (T := F_Tx) (N := 4) hx hb hts i_Tx t_Tx t_Tx_ok n_Tx hown hK hP hD hS 0 rfl rfl 3 (by decide) (hts _ wd_34) (fun _ h9 => h9) rfl (by decide +kernel) (zb_narrow _) (zb_fits _) (Nat.le_of_ble_eq_true rfl) d_Tx_close_2 (fun H locs hP hD hS => ?_)
  have hP : va_P (dC, dI) vwCl ([(h0, .inr (2, [.ref xK, .ref xR, .int (nI ch), .int (zb false)]))]) H := hP
  have hD : va_D A ([(h0, .inr (2, [.ref xK, .ref xR, .int (nI ch), .int (zb false)]))]) := hD
  refine lv_aload_n hx hb d_Tx_close_5 rfl (lv_at hl 0 rfl) ?_
  refine lv_iconst (v := (nI 0)) hx hb d_Tx_close_6 (by decide) ?_
  refine va_put (D := (dC, dI)) (ci := 2) (v := .int (nI 0)) (ty := .int) (C := R_Tx) (T := F_Tx) (N := 4) hx hb hts i_Tx t_Tx t_Tx_ok n_Tx hown hK hP hD hS 0 rfl rfl 2 (by decide) (hts _ wd_33) (fun _ h9 => h9) rfl (by decide +kernel) rfl rfl (Nat.le_of_ble_eq_true rfl) d_Tx_close_7 (fun H locs hP hD hS => ?_)
  have hP : va_P (dC, dI) vwCl ([(h0, .inr (2, [.ref xK, .ref xR, .int (nI 0), .int (zb false)]))]) H := hP
  have hD : va_D A ([(h0, .inr (2, [.ref xK, .ref xR, .int (nI 0), .int (zb false)]))]) := hD
  have hP9 := hP.sub (ws' := [(h0, .inr (2, [.ref xK, .ref xR, .int (nI 0), .int (zb false)]))]) [0] rfl
  have hD9 := hD.sub (ws' := [(h0, .inr (2, [.ref xK, .ref xR, .int (nI 0), .int (zb false)]))]) [0] (by decide) rfl
  exact W.vret hx hb hr (fun t ht hW => ⟨⟨(), trivial, rfl, by rw [ht]; exact hP9, hD9⟩, hS.F ht⟩) hS.2.2 d_Tx_close_10
set_option maxHeartbeats 4000000 in
set_option maxRecDepth 100000 in
theorem c_Tx_remember (l : Launch) (dC : Nat → ClassId) (dI : Nat → Nat → Nat) (cT : Nat → ClassId) (sz : Nat) (h0 : Nat) (xK : Nat) (xR : Nat) (ch : Nat) (op : Bool) (k : Nat) (ct : Int64) (tk : Nat → Nat) (tr : Nat → Int64) (hc : ch < 4) : Met l y_Tx_remember w_Tx_remember ({ frames := 0, cells := 0, slots := 0, locals := 0 } : Room) (zPre (dC, dI) vwCl (zT cT) [.ref h0, .int (nI k), .long ct] ([(h0, .inr (2, [.ref xK, .ref xR, .int (nI ch), .int (zb op)])), (xK, .inl (cT 0, 4, .inl (fun j => nI (tk j)))), (xR, .inl (cT 1, 4, .inr (.inl tr)))]) sz) (zQ (dC, dI) vwCl (S := Unit) (fun zu => True) (fun zu => none) (fun zu => [(h0, .inr (2, [.ref xK, .ref xR, .int (nI (ch + 1)), .int (zb op)])), (xK, .inl (cT 0, 4, .inl (fun j => nI ((va_up tk ch k) j)))), (xR, .inl (cT 1, 4, .inr (.inl (va_up tr ch ct))))]) (va_A ([(h0, .inr (2, [.ref xK, .ref xR, .int (nI ch), .int (zb op)])), (xK, .inl (cT 0, 4, .inl (fun j => nI (tk j)))), (xR, .inl (cT 1, 4, .inr (.inl tr)))]) sz)) 0 0 (va_A ([(h0, .inr (2, [.ref xK, .ref xR, .int (nI ch), .int (zb op)])), (xK, .inl (cT 0, 4, .inl (fun j => nI (tk j)))), (xR, .inl (cT 1, 4, .inr (.inl tr)))]) sz) := by
  refine Met.ofW (cc := b_Tx_remember) (maxL := 4) (ret := none) (by decide) rfl ?_
  intro p e s m args below meth c s₁ B hml hv
  obtain ⟨rfl, hsz, hP, hK, hD0, hE⟩ := hv
  have hx := B.exec
  have hb := B.bytes
  have hr := B.returns
  have hts := fun w h => atoms_spec (ws := w_Tx_remember) B.pre w (List.mem_cons_of_mem _ h)
  have hown : s.vm.findClass R_Tx = some m.cls := findClass_of_methodNamed B.named
  have hlocks := B.notSynchronized
  subst hsz
  have hD := hD0.self (sz := s.heap.size)
  generalize hAe : va_A ([(h0, .inr (2, [.ref xK, .ref xR, .int (nI ch), .int (zb op)])), (xK, .inl (cT 0, 4, .inl (fun j => nI (tk j)))), (xR, .inl (cT 1, 4, .inr (.inl tr)))]) s.heap.size = A at hD ⊢
  have hA : ∀ q : Nat, s.heap.size ≤ q → A q := fun q h => by rw [← hAe]; exact Or.inr h
  have hS : va_S A s.heap s.heap [] := va_S.rf
  have hl := lv_entry ([.ref h0, .int (nI k), .long ct]) (n := 4) (Nat.le_of_ble_eq_true rfl)
  rw [lg_entry_eq]
  generalize (lg_sl ([.ref h0, .int (nI k), .long ct]) ++ List.replicate (4 - (lg_sl ([.ref h0, .int (nI k), .long ct])).length) Slot.unset).toArray = ls at hl ⊢
  have hl : lv_has ls 4 [(0, .ref h0), (1, .int (nI k)), (2, .long ct)] := hl
  refine lv_aload_n hx hb d_Tx_remember_0 rfl (lv_at hl 0 rfl) ?_
  refine va_get (D := (dC, dI)) (ci := 2) (v := .ref xK) (C := R_Tx) (T := F_Tx) (N := 4) hx hb hts i_Tx hown hK hP 0 rfl rfl 0 (by decide) (hts _ wd_31) (fun _ h9 => h9) rfl d_Tx_remember_1 ?_
  refine lv_aload_n hx hb d_Tx_remember_4 rfl (lv_at hl 0 rfl) ?_
  refine va_get (D := (dC, dI)) (ci := 2) (v := .int (nI ch)) (C := R_Tx) (T := F_Tx) (N := 4) hx hb hts i_Tx hown hK hP 0 rfl rfl 2 (by decide) (hts _ wd_33) (fun _ h9 => h9) rfl d_Tx_remember_5 ?_
  refine lv_iload_n hx hb d_Tx_remember_8 rfl (lv_at hl 1 rfl) ?_
  refine zn_iastN hx hb hK hP hD hS 1 0 rfl rfl (i := ch) (x := k) (by omega) (by omega) d_Tx_remember_9 (fun H locs hP hD hS => ?_)
  have hP : va_P (dC, dI) vwCl ([(h0, .inr (2, [.ref xK, .ref xR, .int (nI ch), .int (zb op)])), (xK, .inl (cT 0, 4, .inl (fun j => nI ((va_up tk ch k) j)))), (xR, .inl (cT 1, 4, .inr (.inl tr)))]) H := hP
  have hD : va_D A ([(h0, .inr (2, [.ref xK, .ref xR, .int (nI ch), .int (zb op)])), (xK, .inl (cT 0, 4, .inl (fun j => nI ((va_up tk ch k) j)))), (xR, .inl (cT 1, 4, .inr (.inl tr)))]) := hD
  refine lv_aload_n hx hb d_Tx_remember_10 rfl (lv_at hl 0 rfl) ?_
  refine va_get (D := (dC, dI)) (ci := 2) (v := .ref xR) (C := R_Tx) (T := F_Tx) (N := 4) hx hb hts i_Tx hown hK hP 0 rfl rfl 1 (by decide) (hts _ wd_32) (fun _ h9 => h9) rfl d_Tx_remember_11 ?_
  refine lv_aload_n hx hb d_Tx_remember_14 rfl (lv_at hl 0 rfl) ?_
  refine va_get (D := (dC, dI)) (ci := 2) (v := .int (nI ch)) (C := R_Tx) (T := F_Tx) (N := 4) hx hb hts i_Tx hown hK hP 0 rfl rfl 2 (by decide) (hts _ wd_33) (fun _ h9 => h9) rfl d_Tx_remember_15 ?_
  refine lv_lload_n hx hb d_Tx_remember_18 rfl (lv_at hl 2 rfl) ?_
  refine zn_last hx hb hK hP hD hS 2 1 rfl rfl (i := ch) (x := ct) (by omega) (by omega) d_Tx_remember_19 (fun H locs hP hD hS => ?_)
  have hP : va_P (dC, dI) vwCl ([(h0, .inr (2, [.ref xK, .ref xR, .int (nI ch), .int (zb op)])), (xK, .inl (cT 0, 4, .inl (fun j => nI ((va_up tk ch k) j)))), (xR, .inl (cT 1, 4, .inr (.inl (va_up tr ch ct))))]) H := hP
  have hD : va_D A ([(h0, .inr (2, [.ref xK, .ref xR, .int (nI ch), .int (zb op)])), (xK, .inl (cT 0, 4, .inl (fun j => nI ((va_up tk ch k) j)))), (xR, .inl (cT 1, 4, .inr (.inl (va_up tr ch ct))))]) := hD
  refine lv_aload_n hx hb d_Tx_remember_20 rfl (lv_at hl 0 rfl) ?_
  refine lv_dup hx hb d_Tx_remember_21 rfl ?_
  refine va_get (D := (dC, dI)) (ci := 2) (v := .int (nI ch)) (C := R_Tx) (T := F_Tx) (N := 4) hx hb hts i_Tx hown hK hP 0 rfl rfl 2 (by decide) (hts _ wd_33) (fun _ h9 => h9) rfl d_Tx_remember_22 ?_
  refine lv_iconst (v := (nI 1)) hx hb d_Tx_remember_25 (by decide) ?_
  refine zn_iadd hx hb d_Tx_remember_26 ?_
  refine va_put (D := (dC, dI)) (ci := 2) (v := .int (nI (ch + 1))) (ty := .int) (C := R_Tx) (T := F_Tx) (N := 4) hx hb hts i_Tx t_Tx t_Tx_ok n_Tx hown hK hP hD hS 0 rfl rfl 2 (by decide) (hts _ wd_33) (fun _ h9 => h9) rfl (by decide +kernel) rfl rfl (Nat.le_of_ble_eq_true rfl) d_Tx_remember_27 (fun H locs hP hD hS => ?_)
  have hP : va_P (dC, dI) vwCl ([(h0, .inr (2, [.ref xK, .ref xR, .int (nI (ch + 1)), .int (zb op)])), (xK, .inl (cT 0, 4, .inl (fun j => nI ((va_up tk ch k) j)))), (xR, .inl (cT 1, 4, .inr (.inl (va_up tr ch ct))))]) H := hP
  have hD : va_D A ([(h0, .inr (2, [.ref xK, .ref xR, .int (nI (ch + 1)), .int (zb op)])), (xK, .inl (cT 0, 4, .inl (fun j => nI ((va_up tk ch k) j)))), (xR, .inl (cT 1, 4, .inr (.inl (va_up tr ch ct))))]) := hD
  have hP9 := hP.sub (ws' := [(h0, .inr (2, [.ref xK, .ref xR, .int (nI (ch + 1)), .int (zb op)])), (xK, .inl (cT 0, 4, .inl (fun j => nI ((va_up tk ch k) j)))), (xR, .inl (cT 1, 4, .inr (.inl (va_up tr ch ct))))]) [0, 1, 2] rfl
  have hD9 := hD.sub (ws' := [(h0, .inr (2, [.ref xK, .ref xR, .int (nI (ch + 1)), .int (zb op)])), (xK, .inl (cT 0, 4, .inl (fun j => nI ((va_up tk ch k) j)))), (xR, .inl (cT 1, 4, .inr (.inl (va_up tr ch ct))))]) [0, 1, 2] (by decide) rfl
  exact W.vret hx hb hr (fun t ht hW => ⟨⟨(), trivial, rfl, by rw [ht]; exact hP9, hD9⟩, hS.F ht⟩) hS.2.2 d_Tx_remember_30
set_option maxHeartbeats 4000000 in
set_option maxRecDepth 100000 in
theorem c_Dk_store (l : Launch) (dC : Nat → ClassId) (dI : Nat → Nat → Nat) (cT : Nat → ClassId) (sz : Nat) (h0 : Nat) (dA : Nat) (dB : Nat) (k : Nat) (n : Nat) (dn : Nat → Nat) (dt : Nat → Bool) (hk : k < 8) : Met l y_Dk_store w_Dk_store ({ frames := 0, cells := 0, slots := 0, locals := 0 } : Room) (zPre (dC, dI) vwCl (zT cT) [.ref h0, .int (nI k), .int (nI n)] ([(h0, .inr (3, [.ref dA, .ref dB])), (dA, .inl (cT 0, 8, .inl (fun j => nI (dn j)))), (dB, .inl (cT 2, 8, .inl (fun j => zb (dt j))))]) sz) (zQ (dC, dI) vwCl (S := Unit) (fun zu => True) (fun zu => none) (fun zu => [(h0, .inr (3, [.ref dA, .ref dB])), (dA, .inl (cT 0, 8, .inl (fun j => nI ((va_up dn k n) j)))), (dB, .inl (cT 2, 8, .inl (fun j => zb ((va_up dt k false) j))))]) (va_A ([(h0, .inr (3, [.ref dA, .ref dB])), (dA, .inl (cT 0, 8, .inl (fun j => nI (dn j)))), (dB, .inl (cT 2, 8, .inl (fun j => zb (dt j))))]) sz)) 0 0 (va_A ([(h0, .inr (3, [.ref dA, .ref dB])), (dA, .inl (cT 0, 8, .inl (fun j => nI (dn j)))), (dB, .inl (cT 2, 8, .inl (fun j => zb (dt j))))]) sz) := by
  refine Met.ofW (cc := b_Dk_store) (maxL := 3) (ret := none) (by decide) rfl ?_
  intro p e s m args below meth c s₁ B hml hv
  obtain ⟨rfl, hsz, hP, hK, hD0, hE⟩ := hv
  have hx := B.exec
  have hb := B.bytes
  have hr := B.returns
  have hts := fun w h => atoms_spec (ws := w_Dk_store) B.pre w (List.mem_cons_of_mem _ h)
  have hown : s.vm.findClass R_Dk = some m.cls := findClass_of_methodNamed B.named
  have hlocks := B.notSynchronized
  subst hsz
  have hD := hD0.self (sz := s.heap.size)
  generalize hAe : va_A ([(h0, .inr (3, [.ref dA, .ref dB])), (dA, .inl (cT 0, 8, .inl (fun j => nI (dn j)))), (dB, .inl (cT 2, 8, .inl (fun j => zb (dt j))))]) s.heap.size = A at hD ⊢
  have hA : ∀ q : Nat, s.heap.size ≤ q → A q := fun q h => by rw [← hAe]; exact Or.inr h
  have hS : va_S A s.heap s.heap [] := va_S.rf
  have hl := lv_entry ([.ref h0, .int (nI k), .int (nI n)]) (n := 3) (Nat.le_of_ble_eq_true rfl)
  rw [lg_entry_eq]
  generalize (lg_sl ([.ref h0, .int (nI k), .int (nI n)]) ++ List.replicate (3 - (lg_sl ([.ref h0, .int (nI k), .int (nI n)])).length) Slot.unset).toArray = ls at hl ⊢
  have hl : lv_has ls 3 [(0, .ref h0), (1, .int (nI k)), (2, .int (nI n))] := hl
  refine lv_aload_n hx hb d_Dk_store_0 rfl (lv_at hl 0 rfl) ?_
  refine va_get (D := (dC, dI)) (ci := 3) (v := .ref dA) (C := R_Dk) (T := F_Dk) (N := 2) hx hb hts i_Dk hown hK hP 0 rfl rfl 0 (by decide) (hts _ wd_52) (fun _ h9 => h9) rfl d_Dk_store_1 ?_
  refine lv_iload_n hx hb d_Dk_store_4 rfl (lv_at hl 1 rfl) ?_
  refine lv_iload_n hx hb d_Dk_store_5 rfl (lv_at hl 2 rfl) ?_
  refine zn_iastN hx hb hK hP hD hS 1 0 rfl rfl (i := k) (x := n) (by omega) (by omega) d_Dk_store_6 (fun H locs hP hD hS => ?_)
  have hP : va_P (dC, dI) vwCl ([(h0, .inr (3, [.ref dA, .ref dB])), (dA, .inl (cT 0, 8, .inl (fun j => nI ((va_up dn k n) j)))), (dB, .inl (cT 2, 8, .inl (fun j => zb (dt j))))]) H := hP
  have hD : va_D A ([(h0, .inr (3, [.ref dA, .ref dB])), (dA, .inl (cT 0, 8, .inl (fun j => nI ((va_up dn k n) j)))), (dB, .inl (cT 2, 8, .inl (fun j => zb (dt j))))]) := hD
  refine lv_aload_n hx hb d_Dk_store_7 rfl (lv_at hl 0 rfl) ?_
  refine va_get (D := (dC, dI)) (ci := 3) (v := .ref dB) (C := R_Dk) (T := F_Dk) (N := 2) hx hb hts i_Dk hown hK hP 0 rfl rfl 1 (by decide) (hts _ wd_53) (fun _ h9 => h9) rfl d_Dk_store_8 ?_
  refine lv_iload_n hx hb d_Dk_store_11 rfl (lv_at hl 1 rfl) ?_
  refine lv_iconst (v := (nI 0)) hx hb d_Dk_store_12 (by decide) ?_
  refine W.eq (g2 := F0 m 13 ls [.int (zb false), .int (nI k), .ref dB]) rfl ?_
  refine zn_zastB hx hb hK hP hD hS 2 2 rfl rfl (i := k) (x := false) (by omega) (by omega) d_Dk_store_13 (fun H locs hP hD hS => ?_)
  have hP : va_P (dC, dI) vwCl ([(h0, .inr (3, [.ref dA, .ref dB])), (dA, .inl (cT 0, 8, .inl (fun j => nI ((va_up dn k n) j)))), (dB, .inl (cT 2, 8, .inl (fun j => zb ((va_up dt k false) j))))]) H := hP
  have hD : va_D A ([(h0, .inr (3, [.ref dA, .ref dB])), (dA, .inl (cT 0, 8, .inl (fun j => nI ((va_up dn k n) j)))), (dB, .inl (cT 2, 8, .inl (fun j => zb ((va_up dt k false) j))))]) := hD
  have hP9 := hP.sub (ws' := [(h0, .inr (3, [.ref dA, .ref dB])), (dA, .inl (cT 0, 8, .inl (fun j => nI ((va_up dn k n) j)))), (dB, .inl (cT 2, 8, .inl (fun j => zb ((va_up dt k false) j))))]) [0, 1, 2] rfl
  have hD9 := hD.sub (ws' := [(h0, .inr (3, [.ref dA, .ref dB])), (dA, .inl (cT 0, 8, .inl (fun j => nI ((va_up dn k n) j)))), (dB, .inl (cT 2, 8, .inl (fun j => zb ((va_up dt k false) j))))]) [0, 1, 2] (by decide) rfl
  exact W.vret hx hb hr (fun t ht hW => ⟨⟨(), trivial, rfl, by rw [ht]; exact hP9, hD9⟩, hS.F ht⟩) hS.2.2 d_Dk_store_14
set_option maxHeartbeats 4000000 in
set_option maxRecDepth 100000 in
theorem c_Dk_tear (l : Launch) (dC : Nat → ClassId) (dI : Nat → Nat → Nat) (cT : Nat → ClassId) (sz : Nat) (h0 : Nat) (dA : Nat) (dB : Nat) (k : Nat) (dt : Nat → Bool) (hk : k < 8) : Met l y_Dk_tear w_Dk_tear ({ frames := 0, cells := 0, slots := 0, locals := 0 } : Room) (zPre (dC, dI) vwCl (zT cT) [.ref h0, .int (nI k)] ([(h0, .inr (3, [.ref dA, .ref dB])), (dB, .inl (cT 2, 8, .inl (fun j => zb (dt j))))]) sz) (zQ (dC, dI) vwCl (S := Unit) (fun zu => True) (fun zu => none) (fun zu => [(h0, .inr (3, [.ref dA, .ref dB])), (dB, .inl (cT 2, 8, .inl (fun j => zb ((va_up dt k true) j))))]) (va_A ([(h0, .inr (3, [.ref dA, .ref dB])), (dB, .inl (cT 2, 8, .inl (fun j => zb (dt j))))]) sz)) 0 0 (va_A ([(h0, .inr (3, [.ref dA, .ref dB])), (dB, .inl (cT 2, 8, .inl (fun j => zb (dt j))))]) sz) := by
  refine Met.ofW (cc := b_Dk_tear) (maxL := 2) (ret := none) (by decide) rfl ?_
  intro p e s m args below meth c s₁ B hml hv
  obtain ⟨rfl, hsz, hP, hK, hD0, hE⟩ := hv
  have hx := B.exec
  have hb := B.bytes
  have hr := B.returns
  have hts := fun w h => atoms_spec (ws := w_Dk_tear) B.pre w (List.mem_cons_of_mem _ h)
  have hown : s.vm.findClass R_Dk = some m.cls := findClass_of_methodNamed B.named
  have hlocks := B.notSynchronized
  subst hsz
  have hD := hD0.self (sz := s.heap.size)
  generalize hAe : va_A ([(h0, .inr (3, [.ref dA, .ref dB])), (dB, .inl (cT 2, 8, .inl (fun j => zb (dt j))))]) s.heap.size = A at hD ⊢
  have hA : ∀ q : Nat, s.heap.size ≤ q → A q := fun q h => by rw [← hAe]; exact Or.inr h
  have hS : va_S A s.heap s.heap [] := va_S.rf
  have hl := lv_entry ([.ref h0, .int (nI k)]) (n := 2) (Nat.le_of_ble_eq_true rfl)
  rw [lg_entry_eq]
  generalize (lg_sl ([.ref h0, .int (nI k)]) ++ List.replicate (2 - (lg_sl ([.ref h0, .int (nI k)])).length) Slot.unset).toArray = ls at hl ⊢
  have hl : lv_has ls 2 [(0, .ref h0), (1, .int (nI k))] := hl
  refine lv_aload_n hx hb d_Dk_tear_0 rfl (lv_at hl 0 rfl) ?_
  refine va_get (D := (dC, dI)) (ci := 3) (v := .ref dB) (C := R_Dk) (T := F_Dk) (N := 2) hx hb hts i_Dk hown hK hP 0 rfl rfl 1 (by decide) (hts _ wd_53) (fun _ h9 => h9) rfl d_Dk_tear_1 ?_
  refine lv_iload_n hx hb d_Dk_tear_4 rfl (lv_at hl 1 rfl) ?_
  refine lv_iconst (v := (nI 1)) hx hb d_Dk_tear_5 (by decide) ?_
  refine W.eq (g2 := F0 m 6 ls [.int (zb true), .int (nI k), .ref dB]) rfl ?_
  refine zn_zastB hx hb hK hP hD hS 1 2 rfl rfl (i := k) (x := true) (by omega) (by omega) d_Dk_tear_6 (fun H locs hP hD hS => ?_)
  have hP : va_P (dC, dI) vwCl ([(h0, .inr (3, [.ref dA, .ref dB])), (dB, .inl (cT 2, 8, .inl (fun j => zb ((va_up dt k true) j))))]) H := hP
  have hD : va_D A ([(h0, .inr (3, [.ref dA, .ref dB])), (dB, .inl (cT 2, 8, .inl (fun j => zb ((va_up dt k true) j))))]) := hD
  have hP9 := hP.sub (ws' := [(h0, .inr (3, [.ref dA, .ref dB])), (dB, .inl (cT 2, 8, .inl (fun j => zb ((va_up dt k true) j))))]) [0, 1] rfl
  have hD9 := hD.sub (ws' := [(h0, .inr (3, [.ref dA, .ref dB])), (dB, .inl (cT 2, 8, .inl (fun j => zb ((va_up dt k true) j))))]) [0, 1] (by decide) rfl
  exact W.vret hx hb hr (fun t ht hW => ⟨⟨(), trivial, rfl, by rw [ht]; exact hP9, hD9⟩, hS.F ht⟩) hS.2.2 d_Dk_tear_7
set_option maxHeartbeats 4000000 in
set_option maxRecDepth 100000 in
theorem c_Dk_numberOf (l : Launch) (dC : Nat → ClassId) (dI : Nat → Nat → Nat) (cT : Nat → ClassId) (h0 : Nat) (dA : Nat) (dB : Nat) (k : Nat) (dn : Nat → Nat) (hk : k < 8) : Met l y_Dk_numberOf w_Dk_numberOf ({ frames := 0, cells := 0, slots := 0, locals := 0 } : Room) (zPreR (dC, dI) vwCl (zT cT) [.ref h0, .int (nI k)] ([(h0, .inr (3, [.ref dA, .ref dB])), (dA, .inl (cT 0, 8, .inl (fun j => nI (dn j))))])) (k2_QcV (.int (nI (dn k)))) 0 0 (fun _ => False) := by
  refine Met.ofW (cc := b_Dk_numberOf) (maxL := 2) (ret := (some .int)) (by decide) rfl ?_
  intro p e s m args below meth c s₁ B hml hv
  obtain ⟨rfl, hP, hK, hE⟩ := hv
  have hx := B.exec
  have hb := B.bytes
  have hr := B.returns
  have hts := fun w h => atoms_spec (ws := w_Dk_numberOf) B.pre w (List.mem_cons_of_mem _ h)
  have hown : s.vm.findClass R_Dk = some m.cls := findClass_of_methodNamed B.named
  have hlocks := B.notSynchronized
  have hl := lv_entry ([.ref h0, .int (nI k)]) (n := 2) (Nat.le_of_ble_eq_true rfl)
  rw [lg_entry_eq]
  generalize (lg_sl ([.ref h0, .int (nI k)]) ++ List.replicate (2 - (lg_sl ([.ref h0, .int (nI k)])).length) Slot.unset).toArray = ls at hl ⊢
  have hl : lv_has ls 2 [(0, .ref h0), (1, .int (nI k))] := hl
  refine lv_aload_n hx hb d_Dk_numberOf_0 rfl (lv_at hl 0 rfl) ?_
  refine va_get (D := (dC, dI)) (ci := 3) (v := .ref dA) (C := R_Dk) (T := F_Dk) (N := 2) hx hb hts i_Dk hown hK hP 0 rfl rfl 0 (by decide) (hts _ wd_52) (fun _ h9 => h9) rfl d_Dk_numberOf_1 ?_
  refine lv_iload_n hx hb d_Dk_numberOf_4 rfl (lv_at hl 1 rfl) ?_
  refine zn_iald hx hb hK hP 1 0 rfl rfl (i := k) (by omega) (by omega) d_Dk_numberOf_5 ?_
  exact W.iret hx hb hr (fun t ht hW => ⟨rfl, ht⟩) (fun q h => by cases h) d_Dk_numberOf_6
set_option maxHeartbeats 4000000 in
set_option maxRecDepth 100000 in
theorem c_Dk_isReadable (l : Launch) (dC : Nat → ClassId) (dI : Nat → Nat → Nat) (cT : Nat → ClassId) (h0 : Nat) (dA : Nat) (dB : Nat) (k : Nat) (dt : Nat → Bool) (hk : k < 8) : Met l y_Dk_isReadable w_Dk_isReadable ({ frames := 0, cells := 0, slots := 0, locals := 0 } : Room) (zPreR (dC, dI) vwCl (zT cT) [.ref h0, .int (nI k)] ([(h0, .inr (3, [.ref dA, .ref dB])), (dB, .inl (cT 2, 8, .inl (fun j => zb (dt j))))])) (k2_QcV (.int (zb (!(dt k))))) 0 0 (fun _ => False) := by
  refine Met.ofW (cc := b_Dk_isReadable) (maxL := 2) (ret := (some .boolean)) (by decide) rfl ?_
  intro p e s m args below meth c s₁ B hml hv
  obtain ⟨rfl, hP, hK, hE⟩ := hv
  have hx := B.exec
  have hb := B.bytes
  have hr := B.returns
  have hts := fun w h => atoms_spec (ws := w_Dk_isReadable) B.pre w (List.mem_cons_of_mem _ h)
  have hown : s.vm.findClass R_Dk = some m.cls := findClass_of_methodNamed B.named
  have hlocks := B.notSynchronized
  have hl := lv_entry ([.ref h0, .int (nI k)]) (n := 2) (Nat.le_of_ble_eq_true rfl)
  rw [lg_entry_eq]
  generalize (lg_sl ([.ref h0, .int (nI k)]) ++ List.replicate (2 - (lg_sl ([.ref h0, .int (nI k)])).length) Slot.unset).toArray = ls at hl ⊢
  have hl : lv_has ls 2 [(0, .ref h0), (1, .int (nI k))] := hl
  refine lv_aload_n hx hb d_Dk_isReadable_0 rfl (lv_at hl 0 rfl) ?_
  refine va_get (D := (dC, dI)) (ci := 3) (v := .ref dB) (C := R_Dk) (T := F_Dk) (N := 2) hx hb hts i_Dk hown hK hP 0 rfl rfl 1 (by decide) (hts _ wd_53) (fun _ h9 => h9) rfl d_Dk_isReadable_1 ?_
  refine lv_iload_n hx hb d_Dk_isReadable_4 rfl (lv_at hl 1 rfl) ?_
  refine zn_zald hx hb hK hP 1 2 rfl rfl (i := k) (by omega) (by omega) d_Dk_isReadable_5 ?_
  refine zb_if_ne (tgt := 13) hx hb d_Dk_isReadable_6 (by decide) (fun c_6 => ?_) (fun c_6 => ?_)
  · refine lv_iconst (v := (nI 0)) hx hb d_Dk_isReadable_13 (by decide) ?_
    refine W.eq (g2 := F0 m 14 ls [.int (zb false)]) rfl ?_
    exact W.zret hx hb hr (zb_narrow _) (fun t ht hW => ⟨by rw [c_6]; rfl, ht⟩) (fun q h => by cases h) d_Dk_isReadable_14
  · refine lv_iconst (v := (nI 1)) hx hb d_Dk_isReadable_9 (by decide) ?_
    refine lv_goto (tgt := 14) hx hb d_Dk_isReadable_10 (by decide) ?_
    refine W.eq (g2 := F0 m 14 ls [.int (zb true)]) rfl ?_
    exact W.zret hx hb hr (zb_narrow _) (fun t ht hW => ⟨by rw [c_6]; rfl, ht⟩) (fun q h => by cases h) d_Dk_isReadable_14
set_option maxHeartbeats 4000000 in
set_option maxRecDepth 100000 in
theorem c_Dk_bestNumberOf (l : Launch) (dC : Nat → ClassId) (dI : Nat → Nat → Nat) (cT : Nat → ClassId) (h0 : Nat) (dA : Nat) (dB : Nat) (k : Nat) (dn : Nat → Nat) (dt : Nat → Bool) (hk : k < 8) : Met l y_Dk_bestNumberOf w_Dk_bestNumberOf ({ frames := 0, cells := 0, slots := 0, locals := 0 } : Room) (zPreR (dC, dI) vwCl (zT cT) [.ref h0, .int (nI k)] ([(h0, .inr (3, [.ref dA, .ref dB])), (dA, .inl (cT 0, 8, .inl (fun j => nI (dn j)))), (dB, .inl (cT 2, 8, .inl (fun j => zb (dt j))))])) (k2_QcV (.int (nI (if dt k = true then 0 else dn k)))) 0 0 (fun _ => False) := by
  refine Met.ofW (cc := b_Dk_bestNumberOf) (maxL := 2) (ret := (some .int)) (by decide) rfl ?_
  intro p e s m args below meth c s₁ B hml hv
  obtain ⟨rfl, hP, hK, hE⟩ := hv
  have hx := B.exec
  have hb := B.bytes
  have hr := B.returns
  have hts := fun w h => atoms_spec (ws := w_Dk_bestNumberOf) B.pre w (List.mem_cons_of_mem _ h)
  have hown : s.vm.findClass R_Dk = some m.cls := findClass_of_methodNamed B.named
  have hlocks := B.notSynchronized
  have hl := lv_entry ([.ref h0, .int (nI k)]) (n := 2) (Nat.le_of_ble_eq_true rfl)
  rw [lg_entry_eq]
  generalize (lg_sl ([.ref h0, .int (nI k)]) ++ List.replicate (2 - (lg_sl ([.ref h0, .int (nI k)])).length) Slot.unset).toArray = ls at hl ⊢
  have hl : lv_has ls 2 [(0, .ref h0), (1, .int (nI k))] := hl
  refine lv_aload_n hx hb d_Dk_bestNumberOf_0 rfl (lv_at hl 0 rfl) ?_
  refine va_get (D := (dC, dI)) (ci := 3) (v := .ref dB) (C := R_Dk) (T := F_Dk) (N := 2) hx hb hts i_Dk hown hK hP 0 rfl rfl 1 (by decide) (hts _ wd_53) (fun _ h9 => h9) rfl d_Dk_bestNumberOf_1 ?_
  refine lv_iload_n hx hb d_Dk_bestNumberOf_4 rfl (lv_at hl 1 rfl) ?_
  refine zn_zald hx hb hK hP 2 2 rfl rfl (i := k) (by omega) (by omega) d_Dk_bestNumberOf_5 ?_
  refine zb_if_eq (tgt := 13) hx hb d_Dk_bestNumberOf_6 (by decide) (fun c_6 => ?_) (fun c_6 => ?_)
  · refine lv_aload_n hx hb d_Dk_bestNumberOf_13 rfl (lv_at hl 0 rfl) ?_
    refine va_get (D := (dC, dI)) (ci := 3) (v := .ref dA) (C := R_Dk) (T := F_Dk) (N := 2) hx hb hts i_Dk hown hK hP 0 rfl rfl 0 (by decide) (hts _ wd_52) (fun _ h9 => h9) rfl d_Dk_bestNumberOf_14 ?_
    refine lv_iload_n hx hb d_Dk_bestNumberOf_17 rfl (lv_at hl 1 rfl) ?_
    refine zn_iald hx hb hK hP 1 0 rfl rfl (i := k) (by omega) (by omega) d_Dk_bestNumberOf_18 ?_
    exact W.iret hx hb hr (fun t ht hW => ⟨by rw [if_neg (by rw [c_6]; decide)], ht⟩) (fun q h => by cases h) d_Dk_bestNumberOf_19
  · refine lv_iconst (v := (nI 0)) hx hb d_Dk_bestNumberOf_9 (by decide) ?_
    refine lv_goto (tgt := 19) hx hb d_Dk_bestNumberOf_10 (by decide) ?_
    exact W.iret hx hb hr (fun t ht hW => ⟨by rw [if_pos c_6], ht⟩) (fun q h => by cases h) d_Dk_bestNumberOf_19
set_option maxHeartbeats 4000000 in
set_option maxRecDepth 100000 in
theorem c_Tx_init (l : Launch) (dC : Nat → ClassId) (dI : Nat → Nat → Nat) (cT : Nat → ClassId) (sz : Nat) (h0 : Nat) : Met l y_Tx_init w_Tx_init ({ frames := 1, cells := 2, slots := 8, locals := 20 } : Room) (zPre (dC, dI) vwCl (zT cT) [.ref h0] ([(h0, .inr (2, [.null, .null, .int (nI 0), .int (zb false)]))]) sz) (zQ (dC, dI) vwCl (S := Nat × Nat) (fun zu => True) (fun zu => none) (fun zu => [(h0, .inr (2, [.ref zu.1, .ref zu.2, .int (nI 0), .int (zb false)])), (zu.1, .inl (cT 0, 4, .inl (fun j => nI ((fun _ => 0) j)))), (zu.2, .inl (cT 1, 4, .inr (.inl (fun _ => 0))))]) (va_A ([(h0, .inr (2, [.null, .null, .int (nI 0), .int (zb false)]))]) sz)) 2 8 (va_A ([(h0, .inr (2, [.null, .null, .int (nI 0), .int (zb false)]))]) sz) := by
  refine Met.ofW (cc := b_Tx_init) (maxL := 1) (ret := none) (by decide) rfl ?_
  intro p e s m args below meth c s₁ B hml hv
  obtain ⟨rfl, hsz, hP, hK, hD0, hE⟩ := hv
  have hx := B.exec
  have hb := B.bytes
  have hr := B.returns
  have hts := fun w h => atoms_spec (ws := w_Tx_init) B.pre w (List.mem_cons_of_mem _ h)
  have hown : s.vm.findClass R_Tx = some m.cls := findClass_of_methodNamed B.named
  have hlocks := B.notSynchronized
  have hin : meth.name = "<init>" := (name_of_methodNamed B.named B.method).1
  subst hsz
  have hD := hD0.self (sz := s.heap.size)
  generalize hAe : va_A ([(h0, .inr (2, [.null, .null, .int (nI 0), .int (zb false)]))]) s.heap.size = A at hD ⊢
  have hA : ∀ q : Nat, s.heap.size ≤ q → A q := fun q h => by rw [← hAe]; exact Or.inr h
  have hS : va_S A s.heap s.heap [] := va_S.rf
  have hl := lv_entry ([.ref h0]) (n := 1) (Nat.le_of_ble_eq_true rfl)
  rw [lg_entry_eq]
  generalize (lg_sl ([.ref h0]) ++ List.replicate (1 - (lg_sl ([.ref h0])).length) Slot.unset).toArray = ls at hl ⊢
  have hl : lv_has ls 1 [(0, .ref h0)] := hl
  refine lv_aload_n hx hb d_Tx_init_0 rfl (lv_at hl 0 rfl) ?_
  refine W.objInit hx hb hown (hts _ wd_30) (hts _ wd_23) (hts _ wd_24) rfl (by rw [hml]; exact hl.1) rfl d_Tx_init_1 (Nat.le_of_ble_eq_true rfl) (Nat.le_of_ble_eq_true rfl) ?_
  refine W.eq (g2 := F0 m 4 ls []) rfl ?_
  refine lv_aload_n hx hb d_Tx_init_4 rfl (lv_at hl 0 rfl) ?_
  refine lv_iconst (v := (nI 4)) hx hb d_Tx_init_5 (by decide) ?_
  refine zn_newI (N := 4) hx hb (hts _ wd_44) hK hP hD hS hA 0 rfl (by omega) (Nat.le_of_ble_eq_true rfl) (Nat.le_of_ble_eq_true rfl) d_Tx_init_6 (fun q_1 H hP hD hS => ?_)
  refine W.widen (k := 1) (n := 4) (by omega) (by omega) ?_
  have hP : va_P (dC, dI) vwCl ([(h0, .inr (2, [.null, .null, .int (nI 0), .int (zb false)])), (q_1, .inl (cT 0, 4, .inl (fun j => nI ((fun _ => 0) j))))]) H := hP
  have hD : va_D A ([(h0, .inr (2, [.null, .null, .int (nI 0), .int (zb false)])), (q_1, .inl (cT 0, 4, .inl (fun j => nI ((fun _ => 0) j))))]) := hD
  refine va_putF (D := (dC, dI)) (ci := 2) (v := .ref q_1) (ty := (.array .int)) (C := R_Tx) (T := F_Tx) (N := 4) hx hb hts i_Tx t_Tx t_Tx_ok n_Tx hown hK hP hD hS 0 rfl rfl 0 (by decide) (hts _ wd_31) (fun _ h9 => h9) rfl hin rfl (by decide +kernel) rfl rfl (Nat.le_of_ble_eq_true rfl) d_Tx_init_8 (fun H locs hP hD hS => ?_)
  have hP : va_P (dC, dI) vwCl ([(h0, .inr (2, [.ref q_1, .null, .int (nI 0), .int (zb false)])), (q_1, .inl (cT 0, 4, .inl (fun j => nI ((fun _ => 0) j))))]) H := hP
  have hD : va_D A ([(h0, .inr (2, [.ref q_1, .null, .int (nI 0), .int (zb false)])), (q_1, .inl (cT 0, 4, .inl (fun j => nI ((fun _ => 0) j))))]) := hD
  refine lv_aload_n hx hb d_Tx_init_11 rfl (lv_at hl 0 rfl) ?_
  refine lv_iconst (v := (nI 4)) hx hb d_Tx_init_12 (by decide) ?_
  refine zn_newJ (N := 4) hx hb (hts _ wd_45) hK hP hD hS hA 1 rfl (by omega) (Nat.le_of_ble_eq_true rfl) (Nat.le_of_ble_eq_true rfl) d_Tx_init_13 (fun q_2 H hP hD hS => ?_)
  refine W.widen (k := 2) (n := 8) (by omega) (by omega) ?_
  have hP : va_P (dC, dI) vwCl ([(h0, .inr (2, [.ref q_1, .null, .int (nI 0), .int (zb false)])), (q_1, .inl (cT 0, 4, .inl (fun j => nI ((fun _ => 0) j)))), (q_2, .inl (cT 1, 4, .inr (.inl (fun _ => 0))))]) H := hP
  have hD : va_D A ([(h0, .inr (2, [.ref q_1, .null, .int (nI 0), .int (zb false)])), (q_1, .inl (cT 0, 4, .inl (fun j => nI ((fun _ => 0) j)))), (q_2, .inl (cT 1, 4, .inr (.inl (fun _ => 0))))]) := hD
  refine va_putF (D := (dC, dI)) (ci := 2) (v := .ref q_2) (ty := (.array .long)) (C := R_Tx) (T := F_Tx) (N := 4) hx hb hts i_Tx t_Tx t_Tx_ok n_Tx hown hK hP hD hS 0 rfl rfl 1 (by decide) (hts _ wd_32) (fun _ h9 => h9) rfl hin rfl (by decide +kernel) rfl rfl (Nat.le_of_ble_eq_true rfl) d_Tx_init_15 (fun H locs hP hD hS => ?_)
  have hP : va_P (dC, dI) vwCl ([(h0, .inr (2, [.ref q_1, .ref q_2, .int (nI 0), .int (zb false)])), (q_1, .inl (cT 0, 4, .inl (fun j => nI ((fun _ => 0) j)))), (q_2, .inl (cT 1, 4, .inr (.inl (fun _ => 0))))]) H := hP
  have hD : va_D A ([(h0, .inr (2, [.ref q_1, .ref q_2, .int (nI 0), .int (zb false)])), (q_1, .inl (cT 0, 4, .inl (fun j => nI ((fun _ => 0) j)))), (q_2, .inl (cT 1, 4, .inr (.inl (fun _ => 0))))]) := hD
  refine lv_aload_n hx hb d_Tx_init_18 rfl (lv_at hl 0 rfl) ?_
  refine lv_iconst (v := (nI 0)) hx hb d_Tx_init_19 (by decide) ?_
  refine va_put (D := (dC, dI)) (ci := 2) (v := .int (nI 0)) (ty := .int) (C := R_Tx) (T := F_Tx) (N := 4) hx hb hts i_Tx t_Tx t_Tx_ok n_Tx hown hK hP hD hS 0 rfl rfl 2 (by decide) (hts _ wd_33) (fun _ h9 => h9) rfl (by decide +kernel) rfl rfl (Nat.le_of_ble_eq_true rfl) d_Tx_init_20 (fun H locs hP hD hS => ?_)
  have hP : va_P (dC, dI) vwCl ([(h0, .inr (2, [.ref q_1, .ref q_2, .int (nI 0), .int (zb false)])), (q_1, .inl (cT 0, 4, .inl (fun j => nI ((fun _ => 0) j)))), (q_2, .inl (cT 1, 4, .inr (.inl (fun _ => 0))))]) H := hP
  have hD : va_D A ([(h0, .inr (2, [.ref q_1, .ref q_2, .int (nI 0), .int (zb false)])), (q_1, .inl (cT 0, 4, .inl (fun j => nI ((fun _ => 0) j)))), (q_2, .inl (cT 1, 4, .inr (.inl (fun _ => 0))))]) := hD
  refine lv_aload_n hx hb d_Tx_init_23 rfl (lv_at hl 0 rfl) ?_
  refine lv_iconst (v := (nI 0)) hx hb d_Tx_init_24 (by decide) ?_
  refine W.eq (g2 := F0 m 25 ls [.int (zb false), .ref h0]) rfl ?_
  refine va_put (D := (dC, dI)) (ci := 2) (v := .int (zb false)) (ty := .boolean) (C := R_Tx) (T := F_Tx) (N := 4) hx hb hts i_Tx t_Tx t_Tx_ok n_Tx hown hK hP hD hS 0 rfl rfl 3 (by decide) (hts _ wd_34) (fun _ h9 => h9) rfl (by decide +kernel) (zb_narrow _) (zb_fits _) (Nat.le_of_ble_eq_true rfl) d_Tx_init_25 (fun H locs hP hD hS => ?_)
  have hP : va_P (dC, dI) vwCl ([(h0, .inr (2, [.ref q_1, .ref q_2, .int (nI 0), .int (zb false)])), (q_1, .inl (cT 0, 4, .inl (fun j => nI ((fun _ => 0) j)))), (q_2, .inl (cT 1, 4, .inr (.inl (fun _ => 0))))]) H := hP
  have hD : va_D A ([(h0, .inr (2, [.ref q_1, .ref q_2, .int (nI 0), .int (zb false)])), (q_1, .inl (cT 0, 4, .inl (fun j => nI ((fun _ => 0) j)))), (q_2, .inl (cT 1, 4, .inr (.inl (fun _ => 0))))]) := hD
  have hP9 := hP.sub (ws' := [(h0, .inr (2, [.ref q_1, .ref q_2, .int (nI 0), .int (zb false)])), (q_1, .inl (cT 0, 4, .inl (fun j => nI ((fun _ => 0) j)))), (q_2, .inl (cT 1, 4, .inr (.inl (fun _ => 0))))]) [0, 1, 2] rfl
  have hD9 := hD.sub (ws' := [(h0, .inr (2, [.ref q_1, .ref q_2, .int (nI 0), .int (zb false)])), (q_1, .inl (cT 0, 4, .inl (fun j => nI ((fun _ => 0) j)))), (q_2, .inl (cT 1, 4, .inr (.inl (fun _ => 0))))]) [0, 1, 2] (by decide) rfl
  exact W.vret hx hb hr (fun t ht hW => ⟨⟨(q_1, q_2), trivial, rfl, by rw [ht]; exact hP9, hD9⟩, hS.F ht⟩) hS.2.2 d_Tx_init_28
set_option maxHeartbeats 4000000 in
set_option maxRecDepth 100000 in
theorem c_Dk_init (l : Launch) (dC : Nat → ClassId) (dI : Nat → Nat → Nat) (cT : Nat → ClassId) (sz : Nat) (h0 : Nat) : Met l y_Dk_init w_Dk_init ({ frames := 1, cells := 2, slots := 16, locals := 20 } : Room) (zPre (dC, dI) vwCl (zT cT) [.ref h0] ([(h0, .inr (3, [.null, .null]))]) sz) (zQ (dC, dI) vwCl (S := Nat × Nat) (fun zu => True) (fun zu => none) (fun zu => [(h0, .inr (3, [.ref zu.1, .ref zu.2])), (zu.1, .inl (cT 0, 8, .inl (fun j => nI ((fun _ => 0) j)))), (zu.2, .inl (cT 2, 8, .inl (fun j => zb ((fun _ => false) j))))]) (va_A ([(h0, .inr (3, [.null, .null]))]) sz)) 2 16 (va_A ([(h0, .inr (3, [.null, .null]))]) sz) := by
  refine Met.ofW (cc := b_Dk_init) (maxL := 1) (ret := none) (by decide) rfl ?_
  intro p e s m args below meth c s₁ B hml hv
  obtain ⟨rfl, hsz, hP, hK, hD0, hE⟩ := hv
  have hx := B.exec
  have hb := B.bytes
  have hr := B.returns
  have hts := fun w h => atoms_spec (ws := w_Dk_init) B.pre w (List.mem_cons_of_mem _ h)
  have hown : s.vm.findClass R_Dk = some m.cls := findClass_of_methodNamed B.named
  have hlocks := B.notSynchronized
  have hin : meth.name = "<init>" := (name_of_methodNamed B.named B.method).1
  subst hsz
  have hD := hD0.self (sz := s.heap.size)
  generalize hAe : va_A ([(h0, .inr (3, [.null, .null]))]) s.heap.size = A at hD ⊢
  have hA : ∀ q : Nat, s.heap.size ≤ q → A q := fun q h => by rw [← hAe]; exact Or.inr h
  have hS : va_S A s.heap s.heap [] := va_S.rf
  have hl := lv_entry ([.ref h0]) (n := 1) (Nat.le_of_ble_eq_true rfl)
  rw [lg_entry_eq]
  generalize (lg_sl ([.ref h0]) ++ List.replicate (1 - (lg_sl ([.ref h0])).length) Slot.unset).toArray = ls at hl ⊢
  have hl : lv_has ls 1 [(0, .ref h0)] := hl
  refine lv_aload_n hx hb d_Dk_init_0 rfl (lv_at hl 0 rfl) ?_
  refine W.objInit hx hb hown (hts _ wd_51) (hts _ wd_23) (hts _ wd_24) rfl (by rw [hml]; exact hl.1) rfl d_Dk_init_1 (Nat.le_of_ble_eq_true rfl) (Nat.le_of_ble_eq_true rfl) ?_
  refine W.eq (g2 := F0 m 4 ls []) rfl ?_
  refine lv_aload_n hx hb d_Dk_init_4 rfl (lv_at hl 0 rfl) ?_
  refine lv_bipush (v := (nI 8)) hx hb d_Dk_init_5 (by decide) ?_
  refine zn_newI (N := 8) hx hb (hts _ wd_44) hK hP hD hS hA 0 rfl (by omega) (Nat.le_of_ble_eq_true rfl) (Nat.le_of_ble_eq_true rfl) d_Dk_init_7 (fun q_1 H hP hD hS => ?_)
  refine W.widen (k := 1) (n := 8) (by omega) (by omega) ?_
  have hP : va_P (dC, dI) vwCl ([(h0, .inr (3, [.null, .null])), (q_1, .inl (cT 0, 8, .inl (fun j => nI ((fun _ => 0) j))))]) H := hP
  have hD : va_D A ([(h0, .inr (3, [.null, .null])), (q_1, .inl (cT 0, 8, .inl (fun j => nI ((fun _ => 0) j))))]) := hD
  refine va_putF (D := (dC, dI)) (ci := 3) (v := .ref q_1) (ty := (.array .int)) (C := R_Dk) (T := F_Dk) (N := 2) hx hb hts i_Dk t_Dk t_Dk_ok n_Dk hown hK hP hD hS 0 rfl rfl 0 (by decide) (hts _ wd_52) (fun _ h9 => h9) rfl hin rfl (by decide +kernel) rfl rfl (Nat.le_of_ble_eq_true rfl) d_Dk_init_9 (fun H locs hP hD hS => ?_)
  have hP : va_P (dC, dI) vwCl ([(h0, .inr (3, [.ref q_1, .null])), (q_1, .inl (cT 0, 8, .inl (fun j => nI ((fun _ => 0) j))))]) H := hP
  have hD : va_D A ([(h0, .inr (3, [.ref q_1, .null])), (q_1, .inl (cT 0, 8, .inl (fun j => nI ((fun _ => 0) j))))]) := hD
  refine lv_aload_n hx hb d_Dk_init_12 rfl (lv_at hl 0 rfl) ?_
  refine lv_bipush (v := (nI 8)) hx hb d_Dk_init_13 (by decide) ?_
  refine zn_newZ (N := 8) hx hb (hts _ wd_59) hK hP hD hS hA 2 rfl (by omega) (Nat.le_of_ble_eq_true rfl) (Nat.le_of_ble_eq_true rfl) d_Dk_init_15 (fun q_2 H hP hD hS => ?_)
  refine W.widen (k := 2) (n := 16) (by omega) (by omega) ?_
  have hP : va_P (dC, dI) vwCl ([(h0, .inr (3, [.ref q_1, .null])), (q_1, .inl (cT 0, 8, .inl (fun j => nI ((fun _ => 0) j)))), (q_2, .inl (cT 2, 8, .inl (fun j => zb ((fun _ => false) j))))]) H := hP
  have hD : va_D A ([(h0, .inr (3, [.ref q_1, .null])), (q_1, .inl (cT 0, 8, .inl (fun j => nI ((fun _ => 0) j)))), (q_2, .inl (cT 2, 8, .inl (fun j => zb ((fun _ => false) j))))]) := hD
  refine va_putF (D := (dC, dI)) (ci := 3) (v := .ref q_2) (ty := (.array .boolean)) (C := R_Dk) (T := F_Dk) (N := 2) hx hb hts i_Dk t_Dk t_Dk_ok n_Dk hown hK hP hD hS 0 rfl rfl 1 (by decide) (hts _ wd_53) (fun _ h9 => h9) rfl hin rfl (by decide +kernel) rfl rfl (Nat.le_of_ble_eq_true rfl) d_Dk_init_17 (fun H locs hP hD hS => ?_)
  have hP : va_P (dC, dI) vwCl ([(h0, .inr (3, [.ref q_1, .ref q_2])), (q_1, .inl (cT 0, 8, .inl (fun j => nI ((fun _ => 0) j)))), (q_2, .inl (cT 2, 8, .inl (fun j => zb ((fun _ => false) j))))]) H := hP
  have hD : va_D A ([(h0, .inr (3, [.ref q_1, .ref q_2])), (q_1, .inl (cT 0, 8, .inl (fun j => nI ((fun _ => 0) j)))), (q_2, .inl (cT 2, 8, .inl (fun j => zb ((fun _ => false) j))))]) := hD
  have hP9 := hP.sub (ws' := [(h0, .inr (3, [.ref q_1, .ref q_2])), (q_1, .inl (cT 0, 8, .inl (fun j => nI ((fun _ => 0) j)))), (q_2, .inl (cT 2, 8, .inl (fun j => zb ((fun _ => false) j))))]) [0, 1, 2] rfl
  have hD9 := hD.sub (ws' := [(h0, .inr (3, [.ref q_1, .ref q_2])), (q_1, .inl (cT 0, 8, .inl (fun j => nI ((fun _ => 0) j)))), (q_2, .inl (cT 2, 8, .inl (fun j => zb ((fun _ => false) j))))]) [0, 1, 2] (by decide) rfl
  exact W.vret hx hb hr (fun t ht hW => ⟨⟨(q_1, q_2), trivial, rfl, by rw [ht]; exact hP9, hD9⟩, hS.F ht⟩) hS.2.2 d_Dk_init_20
set_option maxHeartbeats 4000000 in
set_option maxRecDepth 100000 in
theorem c_Lg_init (l : Launch) (dC : Nat → ClassId) (dI : Nat → Nat → Nat) (cT : Nat → ClassId) (sz : Nat) (h0 : Nat) (lS : Nat) : Met l y_Lg_init w_Lg_init ({ frames := 1, cells := 4, slots := 1642, locals := 24 } : Room) (zPre (dC, dI) vwCl (zT cT) [.ref h0, .int (nI lS)] ([(h0, .inr (1, [.int (nI 0), .null, .null, .null, .null, .int (nI 0), .int (nI 0), .int (nI 0), .int (nI 0)]))]) sz) (zQ (dC, dI) vwCl (S := Nat × Nat × Nat × Nat) (fun zu => True) (fun zu => none) (fun zu => [(h0, .inr (1, [.int (nI lS), .ref zu.1, .ref zu.2.1, .ref zu.2.2.1, .ref zu.2.2.2, .int (nI 0), .int (nI 0), .int (nI 0), .int (nI 0)])), (zu.1, .inl (cT 0, 801, .inl (fun _ => nI 0))), (zu.2.1, .inl (cT 1, 801, .inr (.inl (fun _ => 0)))), (zu.2.2.1, .inl (cT 1, 32, .inr (.inl (zfill (fun _ => 0) 1000000000000 32)))), (zu.2.2.2, .inl (cT 0, 8, .inl (fun j => nI ((fun _ => 0) j))))]) (va_A ([(h0, .inr (1, [.int (nI 0), .null, .null, .null, .null, .int (nI 0), .int (nI 0), .int (nI 0), .int (nI 0)]))]) sz)) 4 1642 (va_A ([(h0, .inr (1, [.int (nI 0), .null, .null, .null, .null, .int (nI 0), .int (nI 0), .int (nI 0), .int (nI 0)]))]) sz) := by
  refine Met.ofW (cc := b_Lg_init) (maxL := 2) (ret := none) (by decide) rfl ?_
  intro p e s m args below meth c s₁ B hml hv
  obtain ⟨rfl, hsz, hP, hK, hD0, hE⟩ := hv
  have hx := B.exec
  have hb := B.bytes
  have hr := B.returns
  have hts := fun w h => atoms_spec (ws := w_Lg_init) B.pre w (List.mem_cons_of_mem _ h)
  have hown : s.vm.findClass R_Lg = some m.cls := findClass_of_methodNamed B.named
  have hlocks := B.notSynchronized
  have hin : meth.name = "<init>" := (name_of_methodNamed B.named B.method).1
  subst hsz
  have hD := hD0.self (sz := s.heap.size)
  generalize hAe : va_A ([(h0, .inr (1, [.int (nI 0), .null, .null, .null, .null, .int (nI 0), .int (nI 0), .int (nI 0), .int (nI 0)]))]) s.heap.size = A at hD ⊢
  have hA : ∀ q : Nat, s.heap.size ≤ q → A q := fun q h => by rw [← hAe]; exact Or.inr h
  have hS : va_S A s.heap s.heap [] := va_S.rf
  have hl := lv_entry ([.ref h0, .int (nI lS)]) (n := 2) (Nat.le_of_ble_eq_true rfl)
  rw [lg_entry_eq]
  generalize (lg_sl ([.ref h0, .int (nI lS)]) ++ List.replicate (2 - (lg_sl ([.ref h0, .int (nI lS)])).length) Slot.unset).toArray = ls at hl ⊢
  have hl : lv_has ls 2 [(0, .ref h0), (1, .int (nI lS))] := hl
  refine lv_aload_n hx hb d_Lg_init_0 rfl (lv_at hl 0 rfl) ?_
  refine W.objInit hx hb hown (hts _ wd_71) (hts _ wd_23) (hts _ wd_24) rfl (by rw [hml]; exact hl.1) rfl d_Lg_init_1 (Nat.le_of_ble_eq_true rfl) (Nat.le_of_ble_eq_true rfl) ?_
  refine W.eq (g2 := F0 m 4 ls []) rfl ?_
  refine lv_aload_n hx hb d_Lg_init_4 rfl (lv_at hl 0 rfl) ?_
  refine lv_sipush (v := (nI 801)) hx hb d_Lg_init_5 (by decide) ?_
  refine zn_newI (N := 801) hx hb (hts _ wd_44) hK hP hD hS hA 0 rfl (by omega) (Nat.le_of_ble_eq_true rfl) (Nat.le_of_ble_eq_true rfl) d_Lg_init_8 (fun q_1 H hP hD hS => ?_)
  refine W.widen (k := 1) (n := 801) (by omega) (by omega) ?_
  have hP : va_P (dC, dI) vwCl ([(h0, .inr (1, [.int (nI 0), .null, .null, .null, .null, .int (nI 0), .int (nI 0), .int (nI 0), .int (nI 0)])), (q_1, .inl (cT 0, 801, .inl (fun _ => nI 0)))]) H := hP
  have hD : va_D A ([(h0, .inr (1, [.int (nI 0), .null, .null, .null, .null, .int (nI 0), .int (nI 0), .int (nI 0), .int (nI 0)])), (q_1, .inl (cT 0, 801, .inl (fun _ => nI 0)))]) := hD
  refine va_putF (D := (dC, dI)) (ci := 1) (v := .ref q_1) (ty := (.array .int)) (C := R_Lg) (T := F_Lg) (N := 9) hx hb hts i_Lg t_Lg t_Lg_ok n_Lg hown hK hP hD hS 0 rfl rfl 1 (by decide) (hts _ wd_77) (fun _ h9 => h9) rfl hin rfl (by decide +kernel) rfl rfl (Nat.le_of_ble_eq_true rfl) d_Lg_init_10 (fun H locs hP hD hS => ?_)
  have hP : va_P (dC, dI) vwCl ([(h0, .inr (1, [.int (nI 0), .ref q_1, .null, .null, .null, .int (nI 0), .int (nI 0), .int (nI 0), .int (nI 0)])), (q_1, .inl (cT 0, 801, .inl (fun _ => nI 0)))]) H := hP
  have hD : va_D A ([(h0, .inr (1, [.int (nI 0), .ref q_1, .null, .null, .null, .int (nI 0), .int (nI 0), .int (nI 0), .int (nI 0)])), (q_1, .inl (cT 0, 801, .inl (fun _ => nI 0)))]) := hD
  refine lv_aload_n hx hb d_Lg_init_13 rfl (lv_at hl 0 rfl) ?_
  refine lv_sipush (v := (nI 801)) hx hb d_Lg_init_14 (by decide) ?_
  refine zn_newJ (N := 801) hx hb (hts _ wd_45) hK hP hD hS hA 1 rfl (by omega) (Nat.le_of_ble_eq_true rfl) (Nat.le_of_ble_eq_true rfl) d_Lg_init_17 (fun q_2 H hP hD hS => ?_)
  refine W.widen (k := 2) (n := 1602) (by omega) (by omega) ?_
  have hP : va_P (dC, dI) vwCl ([(h0, .inr (1, [.int (nI 0), .ref q_1, .null, .null, .null, .int (nI 0), .int (nI 0), .int (nI 0), .int (nI 0)])), (q_1, .inl (cT 0, 801, .inl (fun _ => nI 0))), (q_2, .inl (cT 1, 801, .inr (.inl (fun _ => 0))))]) H := hP
  have hD : va_D A ([(h0, .inr (1, [.int (nI 0), .ref q_1, .null, .null, .null, .int (nI 0), .int (nI 0), .int (nI 0), .int (nI 0)])), (q_1, .inl (cT 0, 801, .inl (fun _ => nI 0))), (q_2, .inl (cT 1, 801, .inr (.inl (fun _ => 0))))]) := hD
  refine va_putF (D := (dC, dI)) (ci := 1) (v := .ref q_2) (ty := (.array .long)) (C := R_Lg) (T := F_Lg) (N := 9) hx hb hts i_Lg t_Lg t_Lg_ok n_Lg hown hK hP hD hS 0 rfl rfl 2 (by decide) (hts _ wd_78) (fun _ h9 => h9) rfl hin rfl (by decide +kernel) rfl rfl (Nat.le_of_ble_eq_true rfl) d_Lg_init_19 (fun H locs hP hD hS => ?_)
  have hP : va_P (dC, dI) vwCl ([(h0, .inr (1, [.int (nI 0), .ref q_1, .ref q_2, .null, .null, .int (nI 0), .int (nI 0), .int (nI 0), .int (nI 0)])), (q_1, .inl (cT 0, 801, .inl (fun _ => nI 0))), (q_2, .inl (cT 1, 801, .inr (.inl (fun _ => 0))))]) H := hP
  have hD : va_D A ([(h0, .inr (1, [.int (nI 0), .ref q_1, .ref q_2, .null, .null, .int (nI 0), .int (nI 0), .int (nI 0), .int (nI 0)])), (q_1, .inl (cT 0, 801, .inl (fun _ => nI 0))), (q_2, .inl (cT 1, 801, .inr (.inl (fun _ => 0))))]) := hD
  refine lv_aload_n hx hb d_Lg_init_22 rfl (lv_at hl 0 rfl) ?_
  refine lv_bipush (v := (nI 32)) hx hb d_Lg_init_23 (by decide) ?_
  refine zn_newJ (N := 32) hx hb (hts _ wd_45) hK hP hD hS hA 1 rfl (by omega) (Nat.le_of_ble_eq_true rfl) (Nat.le_of_ble_eq_true rfl) d_Lg_init_25 (fun q_3 H hP hD hS => ?_)
  refine W.widen (k := 3) (n := 1634) (by omega) (by omega) ?_
  have hP : va_P (dC, dI) vwCl ([(h0, .inr (1, [.int (nI 0), .ref q_1, .ref q_2, .null, .null, .int (nI 0), .int (nI 0), .int (nI 0), .int (nI 0)])), (q_1, .inl (cT 0, 801, .inl (fun _ => nI 0))), (q_2, .inl (cT 1, 801, .inr (.inl (fun _ => 0)))), (q_3, .inl (cT 1, 32, .inr (.inl (fun _ => 0))))]) H := hP
  have hD : va_D A ([(h0, .inr (1, [.int (nI 0), .ref q_1, .ref q_2, .null, .null, .int (nI 0), .int (nI 0), .int (nI 0), .int (nI 0)])), (q_1, .inl (cT 0, 801, .inl (fun _ => nI 0))), (q_2, .inl (cT 1, 801, .inr (.inl (fun _ => 0)))), (q_3, .inl (cT 1, 32, .inr (.inl (fun _ => 0))))]) := hD
  refine va_putF (D := (dC, dI)) (ci := 1) (v := .ref q_3) (ty := (.array .long)) (C := R_Lg) (T := F_Lg) (N := 9) hx hb hts i_Lg t_Lg t_Lg_ok n_Lg hown hK hP hD hS 0 rfl rfl 3 (by decide) (hts _ wd_79) (fun _ h9 => h9) rfl hin rfl (by decide +kernel) rfl rfl (Nat.le_of_ble_eq_true rfl) d_Lg_init_27 (fun H locs hP hD hS => ?_)
  have hP : va_P (dC, dI) vwCl ([(h0, .inr (1, [.int (nI 0), .ref q_1, .ref q_2, .ref q_3, .null, .int (nI 0), .int (nI 0), .int (nI 0), .int (nI 0)])), (q_1, .inl (cT 0, 801, .inl (fun _ => nI 0))), (q_2, .inl (cT 1, 801, .inr (.inl (fun _ => 0)))), (q_3, .inl (cT 1, 32, .inr (.inl (fun _ => 0))))]) H := hP
  have hD : va_D A ([(h0, .inr (1, [.int (nI 0), .ref q_1, .ref q_2, .ref q_3, .null, .int (nI 0), .int (nI 0), .int (nI 0), .int (nI 0)])), (q_1, .inl (cT 0, 801, .inl (fun _ => nI 0))), (q_2, .inl (cT 1, 801, .inr (.inl (fun _ => 0)))), (q_3, .inl (cT 1, 32, .inr (.inl (fun _ => 0))))]) := hD
  refine lv_aload_n hx hb d_Lg_init_30 rfl (lv_at hl 0 rfl) ?_
  refine lv_bipush (v := (nI 8)) hx hb d_Lg_init_31 (by decide) ?_
  refine zn_newI (N := 8) hx hb (hts _ wd_44) hK hP hD hS hA 0 rfl (by omega) (Nat.le_of_ble_eq_true rfl) (Nat.le_of_ble_eq_true rfl) d_Lg_init_33 (fun q_4 H hP hD hS => ?_)
  refine W.widen (k := 4) (n := 1642) (by omega) (by omega) ?_
  have hP : va_P (dC, dI) vwCl ([(h0, .inr (1, [.int (nI 0), .ref q_1, .ref q_2, .ref q_3, .null, .int (nI 0), .int (nI 0), .int (nI 0), .int (nI 0)])), (q_1, .inl (cT 0, 801, .inl (fun _ => nI 0))), (q_2, .inl (cT 1, 801, .inr (.inl (fun _ => 0)))), (q_3, .inl (cT 1, 32, .inr (.inl (fun _ => 0)))), (q_4, .inl (cT 0, 8, .inl (fun j => nI ((fun _ => 0) j))))]) H := hP
  have hD : va_D A ([(h0, .inr (1, [.int (nI 0), .ref q_1, .ref q_2, .ref q_3, .null, .int (nI 0), .int (nI 0), .int (nI 0), .int (nI 0)])), (q_1, .inl (cT 0, 801, .inl (fun _ => nI 0))), (q_2, .inl (cT 1, 801, .inr (.inl (fun _ => 0)))), (q_3, .inl (cT 1, 32, .inr (.inl (fun _ => 0)))), (q_4, .inl (cT 0, 8, .inl (fun j => nI ((fun _ => 0) j))))]) := hD
  refine va_putF (D := (dC, dI)) (ci := 1) (v := .ref q_4) (ty := (.array .int)) (C := R_Lg) (T := F_Lg) (N := 9) hx hb hts i_Lg t_Lg t_Lg_ok n_Lg hown hK hP hD hS 0 rfl rfl 4 (by decide) (hts _ wd_80) (fun _ h9 => h9) rfl hin rfl (by decide +kernel) rfl rfl (Nat.le_of_ble_eq_true rfl) d_Lg_init_35 (fun H locs hP hD hS => ?_)
  have hP : va_P (dC, dI) vwCl ([(h0, .inr (1, [.int (nI 0), .ref q_1, .ref q_2, .ref q_3, .ref q_4, .int (nI 0), .int (nI 0), .int (nI 0), .int (nI 0)])), (q_1, .inl (cT 0, 801, .inl (fun _ => nI 0))), (q_2, .inl (cT 1, 801, .inr (.inl (fun _ => 0)))), (q_3, .inl (cT 1, 32, .inr (.inl (fun _ => 0)))), (q_4, .inl (cT 0, 8, .inl (fun j => nI ((fun _ => 0) j))))]) H := hP
  have hD : va_D A ([(h0, .inr (1, [.int (nI 0), .ref q_1, .ref q_2, .ref q_3, .ref q_4, .int (nI 0), .int (nI 0), .int (nI 0), .int (nI 0)])), (q_1, .inl (cT 0, 801, .inl (fun _ => nI 0))), (q_2, .inl (cT 1, 801, .inr (.inl (fun _ => 0)))), (q_3, .inl (cT 1, 32, .inr (.inl (fun _ => 0)))), (q_4, .inl (cT 0, 8, .inl (fun j => nI ((fun _ => 0) j))))]) := hD
  refine lv_aload_n hx hb d_Lg_init_38 rfl (lv_at hl 0 rfl) ?_
  refine lv_iconst (v := (nI 0)) hx hb d_Lg_init_39 (by decide) ?_
  refine va_put (D := (dC, dI)) (ci := 1) (v := .int (nI 0)) (ty := .int) (C := R_Lg) (T := F_Lg) (N := 9) hx hb hts i_Lg t_Lg t_Lg_ok n_Lg hown hK hP hD hS 0 rfl rfl 5 (by decide) (hts _ wd_81) (fun _ h9 => h9) rfl (by decide +kernel) rfl rfl (Nat.le_of_ble_eq_true rfl) d_Lg_init_40 (fun H locs hP hD hS => ?_)
  have hP : va_P (dC, dI) vwCl ([(h0, .inr (1, [.int (nI 0), .ref q_1, .ref q_2, .ref q_3, .ref q_4, .int (nI 0), .int (nI 0), .int (nI 0), .int (nI 0)])), (q_1, .inl (cT 0, 801, .inl (fun _ => nI 0))), (q_2, .inl (cT 1, 801, .inr (.inl (fun _ => 0)))), (q_3, .inl (cT 1, 32, .inr (.inl (fun _ => 0)))), (q_4, .inl (cT 0, 8, .inl (fun j => nI ((fun _ => 0) j))))]) H := hP
  have hD : va_D A ([(h0, .inr (1, [.int (nI 0), .ref q_1, .ref q_2, .ref q_3, .ref q_4, .int (nI 0), .int (nI 0), .int (nI 0), .int (nI 0)])), (q_1, .inl (cT 0, 801, .inl (fun _ => nI 0))), (q_2, .inl (cT 1, 801, .inr (.inl (fun _ => 0)))), (q_3, .inl (cT 1, 32, .inr (.inl (fun _ => 0)))), (q_4, .inl (cT 0, 8, .inl (fun j => nI ((fun _ => 0) j))))]) := hD
  refine lv_aload_n hx hb d_Lg_init_43 rfl (lv_at hl 0 rfl) ?_
  refine lv_iconst (v := (nI 0)) hx hb d_Lg_init_44 (by decide) ?_
  refine va_put (D := (dC, dI)) (ci := 1) (v := .int (nI 0)) (ty := .int) (C := R_Lg) (T := F_Lg) (N := 9) hx hb hts i_Lg t_Lg t_Lg_ok n_Lg hown hK hP hD hS 0 rfl rfl 6 (by decide) (hts _ wd_82) (fun _ h9 => h9) rfl (by decide +kernel) rfl rfl (Nat.le_of_ble_eq_true rfl) d_Lg_init_45 (fun H locs hP hD hS => ?_)
  have hP : va_P (dC, dI) vwCl ([(h0, .inr (1, [.int (nI 0), .ref q_1, .ref q_2, .ref q_3, .ref q_4, .int (nI 0), .int (nI 0), .int (nI 0), .int (nI 0)])), (q_1, .inl (cT 0, 801, .inl (fun _ => nI 0))), (q_2, .inl (cT 1, 801, .inr (.inl (fun _ => 0)))), (q_3, .inl (cT 1, 32, .inr (.inl (fun _ => 0)))), (q_4, .inl (cT 0, 8, .inl (fun j => nI ((fun _ => 0) j))))]) H := hP
  have hD : va_D A ([(h0, .inr (1, [.int (nI 0), .ref q_1, .ref q_2, .ref q_3, .ref q_4, .int (nI 0), .int (nI 0), .int (nI 0), .int (nI 0)])), (q_1, .inl (cT 0, 801, .inl (fun _ => nI 0))), (q_2, .inl (cT 1, 801, .inr (.inl (fun _ => 0)))), (q_3, .inl (cT 1, 32, .inr (.inl (fun _ => 0)))), (q_4, .inl (cT 0, 8, .inl (fun j => nI ((fun _ => 0) j))))]) := hD
  refine lv_aload_n hx hb d_Lg_init_48 rfl (lv_at hl 0 rfl) ?_
  refine lv_iconst (v := (nI 0)) hx hb d_Lg_init_49 (by decide) ?_
  refine va_put (D := (dC, dI)) (ci := 1) (v := .int (nI 0)) (ty := .int) (C := R_Lg) (T := F_Lg) (N := 9) hx hb hts i_Lg t_Lg t_Lg_ok n_Lg hown hK hP hD hS 0 rfl rfl 7 (by decide) (hts _ wd_83) (fun _ h9 => h9) rfl (by decide +kernel) rfl rfl (Nat.le_of_ble_eq_true rfl) d_Lg_init_50 (fun H locs hP hD hS => ?_)
  have hP : va_P (dC, dI) vwCl ([(h0, .inr (1, [.int (nI 0), .ref q_1, .ref q_2, .ref q_3, .ref q_4, .int (nI 0), .int (nI 0), .int (nI 0), .int (nI 0)])), (q_1, .inl (cT 0, 801, .inl (fun _ => nI 0))), (q_2, .inl (cT 1, 801, .inr (.inl (fun _ => 0)))), (q_3, .inl (cT 1, 32, .inr (.inl (fun _ => 0)))), (q_4, .inl (cT 0, 8, .inl (fun j => nI ((fun _ => 0) j))))]) H := hP
  have hD : va_D A ([(h0, .inr (1, [.int (nI 0), .ref q_1, .ref q_2, .ref q_3, .ref q_4, .int (nI 0), .int (nI 0), .int (nI 0), .int (nI 0)])), (q_1, .inl (cT 0, 801, .inl (fun _ => nI 0))), (q_2, .inl (cT 1, 801, .inr (.inl (fun _ => 0)))), (q_3, .inl (cT 1, 32, .inr (.inl (fun _ => 0)))), (q_4, .inl (cT 0, 8, .inl (fun j => nI ((fun _ => 0) j))))]) := hD
  refine lv_aload_n hx hb d_Lg_init_53 rfl (lv_at hl 0 rfl) ?_
  refine lv_iconst (v := (nI 0)) hx hb d_Lg_init_54 (by decide) ?_
  refine va_put (D := (dC, dI)) (ci := 1) (v := .int (nI 0)) (ty := .int) (C := R_Lg) (T := F_Lg) (N := 9) hx hb hts i_Lg t_Lg t_Lg_ok n_Lg hown hK hP hD hS 0 rfl rfl 8 (by decide) (hts _ wd_84) (fun _ h9 => h9) rfl (by decide +kernel) rfl rfl (Nat.le_of_ble_eq_true rfl) d_Lg_init_55 (fun H locs hP hD hS => ?_)
  have hP : va_P (dC, dI) vwCl ([(h0, .inr (1, [.int (nI 0), .ref q_1, .ref q_2, .ref q_3, .ref q_4, .int (nI 0), .int (nI 0), .int (nI 0), .int (nI 0)])), (q_1, .inl (cT 0, 801, .inl (fun _ => nI 0))), (q_2, .inl (cT 1, 801, .inr (.inl (fun _ => 0)))), (q_3, .inl (cT 1, 32, .inr (.inl (fun _ => 0)))), (q_4, .inl (cT 0, 8, .inl (fun j => nI ((fun _ => 0) j))))]) H := hP
  have hD : va_D A ([(h0, .inr (1, [.int (nI 0), .ref q_1, .ref q_2, .ref q_3, .ref q_4, .int (nI 0), .int (nI 0), .int (nI 0), .int (nI 0)])), (q_1, .inl (cT 0, 801, .inl (fun _ => nI 0))), (q_2, .inl (cT 1, 801, .inr (.inl (fun _ => 0)))), (q_3, .inl (cT 1, 32, .inr (.inl (fun _ => 0)))), (q_4, .inl (cT 0, 8, .inl (fun j => nI ((fun _ => 0) j))))]) := hD
  refine lv_aload_n hx hb d_Lg_init_58 rfl (lv_at hl 0 rfl) ?_
  refine lv_iload_n hx hb d_Lg_init_59 rfl (lv_at hl 1 rfl) ?_
  refine va_putF (D := (dC, dI)) (ci := 1) (v := .int (nI lS)) (ty := .int) (C := R_Lg) (T := F_Lg) (N := 9) hx hb hts i_Lg t_Lg t_Lg_ok n_Lg hown hK hP hD hS 0 rfl rfl 0 (by decide) (hts _ wd_76) (fun _ h9 => h9) rfl hin rfl (by decide +kernel) rfl rfl (Nat.le_of_ble_eq_true rfl) d_Lg_init_60 (fun H locs hP hD hS => ?_)
  have hP : va_P (dC, dI) vwCl ([(h0, .inr (1, [.int (nI lS), .ref q_1, .ref q_2, .ref q_3, .ref q_4, .int (nI 0), .int (nI 0), .int (nI 0), .int (nI 0)])), (q_1, .inl (cT 0, 801, .inl (fun _ => nI 0))), (q_2, .inl (cT 1, 801, .inr (.inl (fun _ => 0)))), (q_3, .inl (cT 1, 32, .inr (.inl (fun _ => 0)))), (q_4, .inl (cT 0, 8, .inl (fun j => nI ((fun _ => 0) j))))]) H := hP
  have hD : va_D A ([(h0, .inr (1, [.int (nI lS), .ref q_1, .ref q_2, .ref q_3, .ref q_4, .int (nI 0), .int (nI 0), .int (nI 0), .int (nI 0)])), (q_1, .inl (cT 0, 801, .inl (fun _ => nI 0))), (q_2, .inl (cT 1, 801, .inr (.inl (fun _ => 0)))), (q_3, .inl (cT 1, 32, .inr (.inl (fun _ => 0)))), (q_4, .inl (cT 0, 8, .inl (fun j => nI ((fun _ => 0) j))))]) := hD
  refine lv_aload_n hx hb d_Lg_init_63 rfl (lv_at hl 0 rfl) ?_
  refine va_get (D := (dC, dI)) (ci := 1) (v := .ref q_3) (C := R_Lg) (T := F_Lg) (N := 9) hx hb hts i_Lg hown hK hP 0 rfl rfl 3 (by decide) (hts _ wd_79) (fun _ h9 => h9) rfl d_Lg_init_64 ?_
  refine lv_ldc2 (v := 1000000000000) hx hb hown (hts _ wd_72) d_Lg_init_67 ?_
  refine zw_Q (X := [(h0, .inr (1, [.int (nI lS), .ref q_1, .ref q_2, .ref q_3, .ref q_4, .int (nI 0), .int (nI 0), .int (nI 0), .int (nI 0)])), (q_1, .inl (cT 0, 801, .inl (fun _ => nI 0))), (q_2, .inl (cT 1, 801, .inr (.inl (fun _ => 0)))), (q_3, .inl (cT 1, 32, .inr (.inl (fun _ => 0)))), (q_4, .inl (cT 0, 8, .inl (fun j => nI ((fun _ => 0) j))))]) (pl := []) (va_runS (As := [.ref q_3, .long 1000000000000]) (rest := []) ⟨hx, hb, hml, hown, hts⟩ (c_Ar_fill_2J l dC dI cT H.size q_3 32 (fun _ => 0) 1000000000000 (by first | omega | assumption)) (va_cwS 2 hts (zgS wd_73 wd_74 wd_6 wd_75) rfl rfl rfl (by decide +kernel) ⟨Nat.le_of_ble_eq_true rfl, Nat.le_of_ble_eq_true rfl⟩) ⟨zPre_blind, zp_Q (X := [(h0, .inr (1, [.int (nI lS), .ref q_1, .ref q_2, .ref q_3, .ref q_4, .int (nI 0), .int (nI 0), .int (nI 0), .int (nI 0)])), (q_1, .inl (cT 0, 801, .inl (fun _ => nI 0))), (q_2, .inl (cT 1, 801, .inr (.inl (fun _ => 0)))), (q_3, .inl (cT 1, 32, .inr (.inl (fun _ => 0)))), (q_4, .inl (cT 0, 8, .inl (fun j => nI ((fun _ => 0) j))))]) (pl := []) hK hE hP hD [3] (by decide) rfl⟩ rfl rfl hl.1 rfl (lv_room (Nat.le_of_ble_eq_true rfl)) d_Lg_init_70 ⟨Nat.le_of_ble_eq_true rfl, Nat.le_of_ble_eq_true rfl⟩) hP hD hS hA [3] [0, 1, 2, 4] rfl (wr := [(h0, .inr (1, [.int (nI lS), .ref q_1, .ref q_2, .ref q_3, .ref q_4, .int (nI 0), .int (nI 0), .int (nI 0), .int (nI 0)])), (q_1, .inl (cT 0, 801, .inl (fun _ => nI 0))), (q_2, .inl (cT 1, 801, .inr (.inl (fun _ => 0)))), (q_4, .inl (cT 0, 8, .inl (fun j => nI ((fun _ => 0) j))))]) rfl (by decide) (by decide) (fun zu => []) (fun _ => rfl) (fun zu H locs hφ hP hD hS => ?_)
  have hP : va_P (dC, dI) vwCl ([(h0, .inr (1, [.int (nI lS), .ref q_1, .ref q_2, .ref q_3, .ref q_4, .int (nI 0), .int (nI 0), .int (nI 0), .int (nI 0)])), (q_1, .inl (cT 0, 801, .inl (fun _ => nI 0))), (q_2, .inl (cT 1, 801, .inr (.inl (fun _ => 0)))), (q_4, .inl (cT 0, 8, .inl (fun j => nI ((fun _ => 0) j)))), (q_3, .inl (cT 1, 32, .inr (.inl (zfill (fun _ => 0) 1000000000000 32))))]) H := hP
  have hD : va_D A ([(h0, .inr (1, [.int (nI lS), .ref q_1, .ref q_2, .ref q_3, .ref q_4, .int (nI 0), .int (nI 0), .int (nI 0), .int (nI 0)])), (q_1, .inl (cT 0, 801, .inl (fun _ => nI 0))), (q_2, .inl (cT 1, 801, .inr (.inl (fun _ => 0)))), (q_4, .inl (cT 0, 8, .inl (fun j => nI ((fun _ => 0) j)))), (q_3, .inl (cT 1, 32, .inr (.inl (zfill (fun _ => 0) 1000000000000 32))))]) := hD
  have hP9 := hP.sub (ws' := [(h0, .inr (1, [.int (nI lS), .ref q_1, .ref q_2, .ref q_3, .ref q_4, .int (nI 0), .int (nI 0), .int (nI 0), .int (nI 0)])), (q_1, .inl (cT 0, 801, .inl (fun _ => nI 0))), (q_2, .inl (cT 1, 801, .inr (.inl (fun _ => 0)))), (q_3, .inl (cT 1, 32, .inr (.inl (zfill (fun _ => 0) 1000000000000 32)))), (q_4, .inl (cT 0, 8, .inl (fun j => nI ((fun _ => 0) j))))]) [0, 1, 2, 4, 3] rfl
  have hD9 := hD.sub (ws' := [(h0, .inr (1, [.int (nI lS), .ref q_1, .ref q_2, .ref q_3, .ref q_4, .int (nI 0), .int (nI 0), .int (nI 0), .int (nI 0)])), (q_1, .inl (cT 0, 801, .inl (fun _ => nI 0))), (q_2, .inl (cT 1, 801, .inr (.inl (fun _ => 0)))), (q_3, .inl (cT 1, 32, .inr (.inl (zfill (fun _ => 0) 1000000000000 32)))), (q_4, .inl (cT 0, 8, .inl (fun j => nI ((fun _ => 0) j))))]) [0, 1, 2, 4, 3] (by decide) rfl
  exact W.vret hx hb hr (fun t ht hW => ⟨⟨(q_1, q_2, q_3, q_4), trivial, rfl, by rw [ht]; exact hP9, hD9⟩, hS.F ht⟩) hS.2.2 d_Lg_init_73
set_option maxHeartbeats 4000000 in
set_option maxRecDepth 100000 in
theorem c_Tx_undoIn (l : Launch) (dC : Nat → ClassId) (dI : Nat → Nat → Nat) (cT : Nat → ClassId) (sz : Nat) (h0 : Nat) (xK : Nat) (xR : Nat) (ch : Nat) (op : Bool) (hg : Nat) (lS : Nat) (aK : Nat) (aC : Nat) (aT : Nat) (aP : Nat) (lL : Nat) (lC : Nat) (lA : Nat) (lP : Nat) (tk : Nat → Nat) (tr : Nat → Int64) (ks : Nat → Int32) (cs : Nat → Int64) (tb : Nat → Int64) (pn : Nat → Nat) (hc : ch ≤ 4) (hL : lL + ch + 1 ≤ 800) (htk : ∀ j, j < ch → tk j < 32) : Met l y_Tx_undoIn w_Tx_undoIn ({ frames := 2, cells := 0, slots := 0, locals := 46 } : Room) (zPre (dC, dI) vwCl (zT cT) [.ref h0, .ref hg] ([(h0, .inr (2, [.ref xK, .ref xR, .int (nI ch), .int (zb op)])), (xK, .inl (cT 0, 4, .inl (fun j => nI (tk j)))), (xR, .inl (cT 1, 4, .inr (.inl tr))), (hg, .inr (1, [.int (nI lS), .ref aK, .ref aC, .ref aT, .ref aP, .int (nI lL), .int (nI lC), .int (nI lA), .int (nI lP)])), (aK, .inl (cT 0, 801, .inl ks)), (aC, .inl (cT 1, 801, .inr (.inl cs))), (aT, .inl (cT 1, 32, .inr (.inl tb))), (aP, .inl (cT 0, 8, .inl (fun j => nI (pn j))))]) sz) (zQ (dC, dI) vwCl (S := Unit) (fun zu => True) (fun zu => none) (fun zu => [(h0, .inr (2, [.ref xK, .ref xR, .int (nI 0), .int (zb false)])), (xK, .inl (cT 0, 4, .inl (fun j => nI (tk j)))), (xR, .inl (cT 1, 4, .inr (.inl tr))), (hg, .inr (1, [.int (nI lS), .ref aK, .ref aC, .ref aT, .ref aP, .int (nI (zuL lL ch)), .int (nI lC), .int (nI lA), .int (nI lP)])), (aK, .inl (cT 0, 801, .inl (zuKe ks tk lL ch))), (aC, .inl (cT 1, 801, .inr (.inl (zuCe cs tr lL ch)))), (aT, .inl (cT 1, 32, .inr (.inl (zuT tb tk tr ch ch)))), (aP, .inl (cT 0, 8, .inl (fun j => nI ((zuP pn tk lL ch ch) j))))]) (va_A ([(h0, .inr (2, [.ref xK, .ref xR, .int (nI ch), .int (zb op)])), (xK, .inl (cT 0, 4, .inl (fun j => nI (tk j)))), (xR, .inl (cT 1, 4, .inr (.inl tr))), (hg, .inr (1, [.int (nI lS), .ref aK, .ref aC, .ref aT, .ref aP, .int (nI lL), .int (nI lC), .int (nI lA), .int (nI lP)])), (aK, .inl (cT 0, 801, .inl ks)), (aC, .inl (cT 1, 801, .inr (.inl cs))), (aT, .inl (cT 1, 32, .inr (.inl tb))), (aP, .inl (cT 0, 8, .inl (fun j => nI (pn j))))]) sz)) 0 0 (va_A ([(h0, .inr (2, [.ref xK, .ref xR, .int (nI ch), .int (zb op)])), (xK, .inl (cT 0, 4, .inl (fun j => nI (tk j)))), (xR, .inl (cT 1, 4, .inr (.inl tr))), (hg, .inr (1, [.int (nI lS), .ref aK, .ref aC, .ref aT, .ref aP, .int (nI lL), .int (nI lC), .int (nI lA), .int (nI lP)])), (aK, .inl (cT 0, 801, .inl ks)), (aC, .inl (cT 1, 801, .inr (.inl cs))), (aT, .inl (cT 1, 32, .inr (.inl tb))), (aP, .inl (cT 0, 8, .inl (fun j => nI (pn j))))]) sz) := by
  refine Met.ofW (cc := b_Tx_undoIn) (maxL := 3) (ret := none) (by decide) rfl ?_
  intro p e s m args below meth c s₁ B hml hv
  obtain ⟨rfl, hsz, hP, hK, hD0, hE⟩ := hv
  have hx := B.exec
  have hb := B.bytes
  have hr := B.returns
  have hts := fun w h => atoms_spec (ws := w_Tx_undoIn) B.pre w (List.mem_cons_of_mem _ h)
  have hown : s.vm.findClass R_Tx = some m.cls := findClass_of_methodNamed B.named
  have hlocks := B.notSynchronized
  subst hsz
  have hD := hD0.self (sz := s.heap.size)
  generalize hAe : va_A ([(h0, .inr (2, [.ref xK, .ref xR, .int (nI ch), .int (zb op)])), (xK, .inl (cT 0, 4, .inl (fun j => nI (tk j)))), (xR, .inl (cT 1, 4, .inr (.inl tr))), (hg, .inr (1, [.int (nI lS), .ref aK, .ref aC, .ref aT, .ref aP, .int (nI lL), .int (nI lC), .int (nI lA), .int (nI lP)])), (aK, .inl (cT 0, 801, .inl ks)), (aC, .inl (cT 1, 801, .inr (.inl cs))), (aT, .inl (cT 1, 32, .inr (.inl tb))), (aP, .inl (cT 0, 8, .inl (fun j => nI (pn j))))]) s.heap.size = A at hD ⊢
  have hA : ∀ q : Nat, s.heap.size ≤ q → A q := fun q h => by rw [← hAe]; exact Or.inr h
  have hS : va_S A s.heap s.heap [] := va_S.rf
  have hl := lv_entry ([.ref h0, .ref hg]) (n := 3) (Nat.le_of_ble_eq_true rfl)
  rw [lg_entry_eq]
  generalize (lg_sl ([.ref h0, .ref hg]) ++ List.replicate (3 - (lg_sl ([.ref h0, .ref hg])).length) Slot.unset).toArray = ls at hl ⊢
  have hl : lv_has ls 3 [(0, .ref h0), (1, .ref hg)] := hl
  refine lv_aload_n hx hb d_Tx_undoIn_0 rfl (lv_at hl 0 rfl) ?_
  refine va_get (D := (dC, dI)) (ci := 2) (v := .int (nI ch)) (C := R_Tx) (T := F_Tx) (N := 4) hx hb hts i_Tx hown hK hP 0 rfl rfl 2 (by decide) (hts _ wd_33) (fun _ h9 => h9) rfl d_Tx_undoIn_1 ?_
  refine lv_iconst (v := (nI 1)) hx hb d_Tx_undoIn_4 (by decide) ?_
  refine lv_isub hx hb d_Tx_undoIn_5 ?_
  refine lv_istore_n (lv' := [(2, .int ((nI ch) - (nI 1))), (0, .ref h0), (1, .ref hg)]) hx hb d_Tx_undoIn_6 rfl hl (by decide) rfl (fun ls hl => ?_)
  have loop_7 : ∀ (fu : Nat) (d : Nat), ch - d < fu → (d ≤ ch) → ∀ (H : Heap) (locs : List Loc), va_P (dC, dI) vwCl ([(h0, .inr (2, [.ref xK, .ref xR, .int (nI ch), .int (zb op)])), (xK, .inl (cT 0, 4, .inl (fun j => nI (tk j)))), (xR, .inl (cT 1, 4, .inr (.inl tr))), (hg, .inr (1, [.int (nI lS), .ref aK, .ref aC, .ref aT, .ref aP, .int (nI (lL + d)), .int (nI lC), .int (nI lA), .int (nI lP)])), (aK, .inl (cT 0, 801, .inl (zuK ks tk lL ch d))), (aC, .inl (cT 1, 801, .inr (.inl (zuC cs tr lL ch d)))), (aT, .inl (cT 1, 32, .inr (.inl (zuT tb tk tr ch d)))), (aP, .inl (cT 0, 8, .inl (fun j => nI ((zuP pn tk lL ch d) j))))]) H → va_D A ([(h0, .inr (2, [.ref xK, .ref xR, .int (nI ch), .int (zb op)])), (xK, .inl (cT 0, 4, .inl (fun j => nI (tk j)))), (xR, .inl (cT 1, 4, .inr (.inl tr))), (hg, .inr (1, [.int (nI lS), .ref aK, .ref aC, .ref aT, .ref aP, .int (nI (lL + d)), .int (nI lC), .int (nI lA), .int (nI lP)])), (aK, .inl (cT 0, 801, .inl (zuK ks tk lL ch d))), (aC, .inl (cT 1, 801, .inr (.inl (zuC cs tr lL ch d)))), (aT, .inl (cT 1, 32, .inr (.inl (zuT tb tk tr ch d)))), (aP, .inl (cT 0, 8, .inl (fun j => nI ((zuP pn tk lL ch d) j))))]) → va_S A s.heap H locs → ∀ (ls : Array Slot), lv_has ls 3 [(0, .ref h0), (1, .ref hg), (2, .int (nI (ch - d) - 1))] → W p l e (headSpec w_Tx_undoIn ({ frames := 2, cells := 0, slots := 0, locals := 46 } : Room)).room s m ([.ref h0, .ref hg] : List Value).toArray below meth c H locs 0 0 (MQ below (zQ (dC, dI) vwCl (S := Unit) (fun zu => True) (fun zu => none) (fun zu => [(h0, .inr (2, [.ref xK, .ref xR, .int (nI 0), .int (zb false)])), (xK, .inl (cT 0, 4, .inl (fun j => nI (tk j)))), (xR, .inl (cT 1, 4, .inr (.inl tr))), (hg, .inr (1, [.int (nI lS), .ref aK, .ref aC, .ref aT, .ref aP, .int (nI (zuL lL ch)), .int (nI lC), .int (nI lA), .int (nI lP)])), (aK, .inl (cT 0, 801, .inl (zuKe ks tk lL ch))), (aC, .inl (cT 1, 801, .inr (.inl (zuCe cs tr lL ch)))), (aT, .inl (cT 1, 32, .inr (.inl (zuT tb tk tr ch ch)))), (aP, .inl (cT 0, 8, .inl (fun j => nI ((zuP pn tk lL ch ch) j))))]) A) ([.ref h0, .ref hg] : List Value).toArray s 0 0 A) (F0 m 7 ls []) := by
    intro fu
    induction fu with
    | zero => intro _ hm; exact absurd hm (Nat.not_lt_zero _)
    | succ fu ih =>
      intro d hm h1 H locs hP hD hS ls hl
      rcases Nat.lt_or_ge d ch with hlt | hge
      · have e7 : (nI (ch - d) - 1 : Int32) = nI (ch - (d + 1)) := by rw [show ch - d = (ch - (d + 1)) + 1 by omega, nI_pred]
        have hl : lv_has ls 3 [(0, .ref h0), (1, .ref hg), (2, .int (nI (ch - (d + 1))))] := by rw [← e7]; exact hl
        refine lv_iload_n hx hb d_Tx_undoIn_7 rfl (lv_at hl 2 rfl) ?_
        refine zn_if_lt (tgt := 34) hx hb (a := ch - (d + 1)) (by omega) d_Tx_undoIn_8 (by decide) (fun c => c.elim) (fun _ => ?_)
        refine lv_aload_n hx hb d_Tx_undoIn_11 rfl (lv_at hl 1 rfl) ?_
        refine lv_aload_n hx hb d_Tx_undoIn_12 rfl (lv_at hl 0 rfl) ?_
        refine va_get (D := (dC, dI)) (ci := 2) (v := .ref xK) (C := R_Tx) (T := F_Tx) (N := 4) hx hb hts i_Tx hown hK hP 0 rfl rfl 0 (by decide) (hts _ wd_31) (fun _ h9 => h9) rfl d_Tx_undoIn_13 ?_
        refine lv_iload_n hx hb d_Tx_undoIn_16 rfl (lv_at hl 2 rfl) ?_
        refine zn_iald hx hb hK hP 1 0 rfl rfl (i := ch - (d + 1)) (by omega) (by omega) d_Tx_undoIn_17 ?_
        refine lv_aload_n hx hb d_Tx_undoIn_18 rfl (lv_at hl 0 rfl) ?_
        refine va_get (D := (dC, dI)) (ci := 2) (v := .ref xR) (C := R_Tx) (T := F_Tx) (N := 4) hx hb hts i_Tx hown hK hP 0 rfl rfl 1 (by decide) (hts _ wd_32) (fun _ h9 => h9) rfl d_Tx_undoIn_19 ?_
        refine lv_iload_n hx hb d_Tx_undoIn_22 rfl (lv_at hl 2 rfl) ?_
        refine zn_lald hx hb hK hP 2 1 rfl rfl (i := ch - (d + 1)) (by omega) (by omega) d_Tx_undoIn_23 ?_
        refine zw_Q (X := [(h0, .inr (2, [.ref xK, .ref xR, .int (nI ch), .int (zb op)])), (xK, .inl (cT 0, 4, .inl (fun j => nI (tk j)))), (xR, .inl (cT 1, 4, .inr (.inl tr))), (hg, .inr (1, [.int (nI lS), .ref aK, .ref aC, .ref aT, .ref aP, .int (nI (lL + d)), .int (nI lC), .int (nI lA), .int (nI lP)])), (aK, .inl (cT 0, 801, .inl (zuK ks tk lL ch d))), (aC, .inl (cT 1, 801, .inr (.inl (zuC cs tr lL ch d)))), (aT, .inl (cT 1, 32, .inr (.inl (zuT tb tk tr ch d)))), (aP, .inl (cT 0, 8, .inl (fun j => nI ((zuP pn tk lL ch d) j))))]) (pl := []) (va_runV (As := [.int (nI (tk (ch - (d + 1)))), .long (tr (ch - (d + 1)))]) (rest := []) ⟨hx, hb, hml, hown, hts⟩ (c_Lg_addChange l dC dI cT H.size hg lS aK aC aT aP (lL + d) lC lA lP (tk (ch - (d + 1))) (tr (ch - (d + 1))) (zuK ks tk lL ch d) (zuC cs tr lL ch d) (zuT tb tk tr ch d) (zuP pn tk lL ch d) (by first | omega | assumption) (htk _ (by omega))) (cwV 2 hts (zgV wd_243 wd_216 wd_217 wd_4 wd_218) rfl rfl rfl (by decide +kernel) ⟨Nat.le_of_ble_eq_true rfl, Nat.le_of_ble_eq_true rfl⟩) ⟨zPre_blind, va_recv hK hP (ci := 1) (q0 := 3) rfl rfl, zp_Q (X := [(h0, .inr (2, [.ref xK, .ref xR, .int (nI ch), .int (zb op)])), (xK, .inl (cT 0, 4, .inl (fun j => nI (tk j)))), (xR, .inl (cT 1, 4, .inr (.inl tr))), (hg, .inr (1, [.int (nI lS), .ref aK, .ref aC, .ref aT, .ref aP, .int (nI (lL + d)), .int (nI lC), .int (nI lA), .int (nI lP)])), (aK, .inl (cT 0, 801, .inl (zuK ks tk lL ch d))), (aC, .inl (cT 1, 801, .inr (.inl (zuC cs tr lL ch d)))), (aT, .inl (cT 1, 32, .inr (.inl (zuT tb tk tr ch d)))), (aP, .inl (cT 0, 8, .inl (fun j => nI ((zuP pn tk lL ch d) j))))]) (pl := []) hK hE hP hD [3, 4, 5, 6, 7] (by decide) rfl⟩ rfl rfl hl.1 rfl (lv_room (Nat.le_of_ble_eq_true rfl)) d_Tx_undoIn_24 ⟨Nat.le_of_ble_eq_true rfl, Nat.le_of_ble_eq_true rfl⟩) hP hD hS hA [3, 4, 5, 6, 7] [0, 1, 2] rfl (wr := [(h0, .inr (2, [.ref xK, .ref xR, .int (nI ch), .int (zb op)])), (xK, .inl (cT 0, 4, .inl (fun j => nI (tk j)))), (xR, .inl (cT 1, 4, .inr (.inl tr)))]) rfl (by decide) (by decide) (fun zu => [.int (nI ((lL + d) + 1))]) (fun _ => rfl) (fun zu H locs hφ hP hD hS => ?_)
        have hP : va_P (dC, dI) vwCl ([(h0, .inr (2, [.ref xK, .ref xR, .int (nI ch), .int (zb op)])), (xK, .inl (cT 0, 4, .inl (fun j => nI (tk j)))), (xR, .inl (cT 1, 4, .inr (.inl tr))), (hg, .inr (1, [.int (nI lS), .ref aK, .ref aC, .ref aT, .ref aP, .int (nI ((lL + d) + 1)), .int (nI lC), .int (nI lA), .int (nI lP)])), (aK, .inl (cT 0, 801, .inl (va_up (zuK ks tk lL ch d) ((lL + d) + 1) (nI (tk (ch - (d + 1))))))), (aC, .inl (cT 1, 801, .inr (.inl (va_up (zuC cs tr lL ch d) ((lL + d) + 1) (tr (ch - (d + 1))))))), (aT, .inl (cT 1, 32, .inr (.inl (va_up (zuT tb tk tr ch d) (tk (ch - (d + 1))) (tr (ch - (d + 1))))))), (aP, .inl (cT 0, 8, .inl (fun j => nI ((va_up (zuP pn tk lL ch d) ((tk (ch - (d + 1))) / 4) ((lL + d) + 1)) j))))]) H := hP
        have hD : va_D A ([(h0, .inr (2, [.ref xK, .ref xR, .int (nI ch), .int (zb op)])), (xK, .inl (cT 0, 4, .inl (fun j => nI (tk j)))), (xR, .inl (cT 1, 4, .inr (.inl tr))), (hg, .inr (1, [.int (nI lS), .ref aK, .ref aC, .ref aT, .ref aP, .int (nI ((lL + d) + 1)), .int (nI lC), .int (nI lA), .int (nI lP)])), (aK, .inl (cT 0, 801, .inl (va_up (zuK ks tk lL ch d) ((lL + d) + 1) (nI (tk (ch - (d + 1))))))), (aC, .inl (cT 1, 801, .inr (.inl (va_up (zuC cs tr lL ch d) ((lL + d) + 1) (tr (ch - (d + 1))))))), (aT, .inl (cT 1, 32, .inr (.inl (va_up (zuT tb tk tr ch d) (tk (ch - (d + 1))) (tr (ch - (d + 1))))))), (aP, .inl (cT 0, 8, .inl (fun j => nI ((va_up (zuP pn tk lL ch d) ((tk (ch - (d + 1))) / 4) ((lL + d) + 1)) j))))]) := hD
        refine lv_pop hx hb d_Tx_undoIn_27 rfl ?_
        refine lv_iinc (v := (nI (ch - (d + 1)) - 1)) (lv' := [(2, .int (nI (ch - (d + 1)) - 1)), (0, .ref h0), (1, .ref hg)]) hx hb d_Tx_undoIn_28 hl (k := 2) rfl (zm1 _) (by decide) rfl (fun ls hl => ?_)
        refine lv_goto (tgt := 7) hx hb d_Tx_undoIn_31 (by decide) ?_
        exact ih (d + 1) (by omega) (by first | omega | assumption) H locs (hP.sub [0, 1, 2, 3, 4, 5, 6, 7] rfl) (hD.sub [0, 1, 2, 3, 4, 5, 6, 7] (by decide) rfl) hS ls (lv_sub hl [1, 2, 0] rfl)
      · have e7 : (nI (ch - d) - 1 : Int32) = (-1) := by rw [show ch - d = 0 by omega]; decide
        have hl : lv_has ls 3 [(0, .ref h0), (1, .ref hg), (2, .int (-1))] := by rw [← e7]; exact hl
        have hd : d = ch := by omega
        refine lv_iload_n hx hb d_Tx_undoIn_7 rfl (lv_at hl 2 rfl) ?_
        refine lv_if_lt (tgt := 34) hx hb d_Tx_undoIn_8 (by decide) (fun c_8 => ?_) (fun c_8 => absurd c_8 (fun q => q (by decide)))
        refine lv_aload_n hx hb d_Tx_undoIn_34 rfl (lv_at hl 0 rfl) ?_
        refine va_get (D := (dC, dI)) (ci := 2) (v := .int (nI ch)) (C := R_Tx) (T := F_Tx) (N := 4) hx hb hts i_Tx hown hK hP 0 rfl rfl 2 (by decide) (hts _ wd_33) (fun _ h9 => h9) rfl d_Tx_undoIn_35 ?_
        refine zn_if_le (tgt := 45) hx hb (a := ch) (by omega) d_Tx_undoIn_38 (by decide) (fun c_38 => ?_) (fun c_38 => ?_)
        · refine lv_aload_n hx hb d_Tx_undoIn_45 rfl (lv_at hl 0 rfl) ?_
          refine zw_Q (X := [(h0, .inr (2, [.ref xK, .ref xR, .int (nI ch), .int (zb op)])), (xK, .inl (cT 0, 4, .inl (fun j => nI (tk j)))), (xR, .inl (cT 1, 4, .inr (.inl tr))), (hg, .inr (1, [.int (nI lS), .ref aK, .ref aC, .ref aT, .ref aP, .int (nI (lL + d)), .int (nI lC), .int (nI lA), .int (nI lP)])), (aK, .inl (cT 0, 801, .inl (zuK ks tk lL ch d))), (aC, .inl (cT 1, 801, .inr (.inl (zuC cs tr lL ch d)))), (aT, .inl (cT 1, 32, .inr (.inl (zuT tb tk tr ch d)))), (aP, .inl (cT 0, 8, .inl (fun j => nI ((zuP pn tk lL ch d) j))))]) (pl := []) (va_runV (As := []) (rest := []) ⟨hx, hb, hml, hown, hts⟩ (c_Tx_close l dC dI cT H.size h0 xK xR ch op) (cwV 0 hts (zgV wd_248 wd_228 wd_229 wd_2 wd_230) rfl rfl rfl (by decide +kernel) ⟨Nat.le_of_ble_eq_true rfl, Nat.le_of_ble_eq_true rfl⟩) ⟨zPre_blind, va_recv hK hP (ci := 2) (q0 := 0) rfl rfl, zp_Q (X := [(h0, .inr (2, [.ref xK, .ref xR, .int (nI ch), .int (zb op)])), (xK, .inl (cT 0, 4, .inl (fun j => nI (tk j)))), (xR, .inl (cT 1, 4, .inr (.inl tr))), (hg, .inr (1, [.int (nI lS), .ref aK, .ref aC, .ref aT, .ref aP, .int (nI (lL + d)), .int (nI lC), .int (nI lA), .int (nI lP)])), (aK, .inl (cT 0, 801, .inl (zuK ks tk lL ch d))), (aC, .inl (cT 1, 801, .inr (.inl (zuC cs tr lL ch d)))), (aT, .inl (cT 1, 32, .inr (.inl (zuT tb tk tr ch d)))), (aP, .inl (cT 0, 8, .inl (fun j => nI ((zuP pn tk lL ch d) j))))]) (pl := []) hK hE hP hD [0] (by decide) rfl⟩ rfl rfl hl.1 rfl (lv_room (Nat.le_of_ble_eq_true rfl)) d_Tx_undoIn_46 ⟨Nat.le_of_ble_eq_true rfl, Nat.le_of_ble_eq_true rfl⟩) hP hD hS hA [0] [1, 2, 3, 4, 5, 6, 7] rfl (wr := [(xK, .inl (cT 0, 4, .inl (fun j => nI (tk j)))), (xR, .inl (cT 1, 4, .inr (.inl tr))), (hg, .inr (1, [.int (nI lS), .ref aK, .ref aC, .ref aT, .ref aP, .int (nI (lL + d)), .int (nI lC), .int (nI lA), .int (nI lP)])), (aK, .inl (cT 0, 801, .inl (zuK ks tk lL ch d))), (aC, .inl (cT 1, 801, .inr (.inl (zuC cs tr lL ch d)))), (aT, .inl (cT 1, 32, .inr (.inl (zuT tb tk tr ch d)))), (aP, .inl (cT 0, 8, .inl (fun j => nI ((zuP pn tk lL ch d) j))))]) rfl (by decide) (by decide) (fun zu => []) (fun _ => rfl) (fun zu H locs hφ hP hD hS => ?_)
          have hP : va_P (dC, dI) vwCl ([(xK, .inl (cT 0, 4, .inl (fun j => nI (tk j)))), (xR, .inl (cT 1, 4, .inr (.inl tr))), (hg, .inr (1, [.int (nI lS), .ref aK, .ref aC, .ref aT, .ref aP, .int (nI (lL + d)), .int (nI lC), .int (nI lA), .int (nI lP)])), (aK, .inl (cT 0, 801, .inl (zuK ks tk lL ch d))), (aC, .inl (cT 1, 801, .inr (.inl (zuC cs tr lL ch d)))), (aT, .inl (cT 1, 32, .inr (.inl (zuT tb tk tr ch d)))), (aP, .inl (cT 0, 8, .inl (fun j => nI ((zuP pn tk lL ch d) j)))), (h0, .inr (2, [.ref xK, .ref xR, .int (nI 0), .int (zb false)]))]) H := hP
          have hD : va_D A ([(xK, .inl (cT 0, 4, .inl (fun j => nI (tk j)))), (xR, .inl (cT 1, 4, .inr (.inl tr))), (hg, .inr (1, [.int (nI lS), .ref aK, .ref aC, .ref aT, .ref aP, .int (nI (lL + d)), .int (nI lC), .int (nI lA), .int (nI lP)])), (aK, .inl (cT 0, 801, .inl (zuK ks tk lL ch d))), (aC, .inl (cT 1, 801, .inr (.inl (zuC cs tr lL ch d)))), (aT, .inl (cT 1, 32, .inr (.inl (zuT tb tk tr ch d)))), (aP, .inl (cT 0, 8, .inl (fun j => nI ((zuP pn tk lL ch d) j)))), (h0, .inr (2, [.ref xK, .ref xR, .int (nI 0), .int (zb false)]))]) := hD
          have hP9 := hP.sub (ws' := [(h0, .inr (2, [.ref xK, .ref xR, .int (nI 0), .int (zb false)])), (xK, .inl (cT 0, 4, .inl (fun j => nI (tk j)))), (xR, .inl (cT 1, 4, .inr (.inl tr))), (hg, .inr (1, [.int (nI lS), .ref aK, .ref aC, .ref aT, .ref aP, .int (nI (lL + d)), .int (nI lC), .int (nI lA), .int (nI lP)])), (aK, .inl (cT 0, 801, .inl (zuK ks tk lL ch d))), (aC, .inl (cT 1, 801, .inr (.inl (zuC cs tr lL ch d)))), (aT, .inl (cT 1, 32, .inr (.inl (zuT tb tk tr ch d)))), (aP, .inl (cT 0, 8, .inl (fun j => nI ((zuP pn tk lL ch d) j))))]) [7, 0, 1, 2, 3, 4, 5, 6] rfl
          have hD9 := hD.sub (ws' := [(h0, .inr (2, [.ref xK, .ref xR, .int (nI 0), .int (zb false)])), (xK, .inl (cT 0, 4, .inl (fun j => nI (tk j)))), (xR, .inl (cT 1, 4, .inr (.inl tr))), (hg, .inr (1, [.int (nI lS), .ref aK, .ref aC, .ref aT, .ref aP, .int (nI (lL + d)), .int (nI lC), .int (nI lA), .int (nI lP)])), (aK, .inl (cT 0, 801, .inl (zuK ks tk lL ch d))), (aC, .inl (cT 1, 801, .inr (.inl (zuC cs tr lL ch d)))), (aT, .inl (cT 1, 32, .inr (.inl (zuT tb tk tr ch d)))), (aP, .inl (cT 0, 8, .inl (fun j => nI ((zuP pn tk lL ch d) j))))]) [7, 0, 1, 2, 3, 4, 5, 6] (by decide) rfl
          rw [hd] at hP9 hD9
          have hP9 : va_P (dC, dI) vwCl ([(h0, .inr (2, [.ref xK, .ref xR, .int (nI 0), .int (zb false)])), (xK, .inl (cT 0, 4, .inl (fun j => nI (tk j)))), (xR, .inl (cT 1, 4, .inr (.inl tr))), (hg, .inr (1, [.int (nI lS), .ref aK, .ref aC, .ref aT, .ref aP, .int (nI (zuL lL ch)), .int (nI lC), .int (nI lA), .int (nI lP)])), (aK, .inl (cT 0, 801, .inl (zuKe ks tk lL ch))), (aC, .inl (cT 1, 801, .inr (.inl (zuCe cs tr lL ch)))), (aT, .inl (cT 1, 32, .inr (.inl (zuT tb tk tr ch ch)))), (aP, .inl (cT 0, 8, .inl (fun j => nI ((zuP pn tk lL ch ch) j))))]) H := by rw [show zuL lL ch = lL + ch by simp [zuL, c_38], show zuKe ks tk lL ch = zuK ks tk lL ch ch by simp [zuKe, c_38, zuK], show zuCe cs tr lL ch = zuC cs tr lL ch ch by simp [zuCe, c_38, zuC]]; exact hP9
          have hD9 : va_D A ([(h0, .inr (2, [.ref xK, .ref xR, .int (nI 0), .int (zb false)])), (xK, .inl (cT 0, 4, .inl (fun j => nI (tk j)))), (xR, .inl (cT 1, 4, .inr (.inl tr))), (hg, .inr (1, [.int (nI lS), .ref aK, .ref aC, .ref aT, .ref aP, .int (nI (zuL lL ch)), .int (nI lC), .int (nI lA), .int (nI lP)])), (aK, .inl (cT 0, 801, .inl (zuKe ks tk lL ch))), (aC, .inl (cT 1, 801, .inr (.inl (zuCe cs tr lL ch)))), (aT, .inl (cT 1, 32, .inr (.inl (zuT tb tk tr ch ch)))), (aP, .inl (cT 0, 8, .inl (fun j => nI ((zuP pn tk lL ch ch) j))))]) := by rw [show zuL lL ch = lL + ch by simp [zuL, c_38], show zuKe ks tk lL ch = zuK ks tk lL ch ch by simp [zuKe, c_38, zuK], show zuCe cs tr lL ch = zuC cs tr lL ch ch by simp [zuCe, c_38, zuC]]; exact hD9
          exact W.vret hx hb hr (fun t ht hW => ⟨⟨(), trivial, rfl, by rw [ht]; exact hP9, hD9⟩, hS.F ht⟩) hS.2.2 d_Tx_undoIn_49
        · refine lv_aload_n hx hb d_Tx_undoIn_41 rfl (lv_at hl 1 rfl) ?_
          refine zw_Q (X := [(h0, .inr (2, [.ref xK, .ref xR, .int (nI ch), .int (zb op)])), (xK, .inl (cT 0, 4, .inl (fun j => nI (tk j)))), (xR, .inl (cT 1, 4, .inr (.inl tr))), (hg, .inr (1, [.int (nI lS), .ref aK, .ref aC, .ref aT, .ref aP, .int (nI (lL + d)), .int (nI lC), .int (nI lA), .int (nI lP)])), (aK, .inl (cT 0, 801, .inl (zuK ks tk lL ch d))), (aC, .inl (cT 1, 801, .inr (.inl (zuC cs tr lL ch d)))), (aT, .inl (cT 1, 32, .inr (.inl (zuT tb tk tr ch d)))), (aP, .inl (cT 0, 8, .inl (fun j => nI ((zuP pn tk lL ch d) j))))]) (pl := []) (va_runV (As := []) (rest := []) ⟨hx, hb, hml, hown, hts⟩ (c_Lg_addEnd l dC dI cT H.size hg lS aK aC aT aP (lL + d) lC lA lP (zuK ks tk lL ch d) (zuC cs tr lL ch d) (by first | omega | assumption)) (cwV 0 hts (zgV wd_244 wd_245 wd_246 wd_4 wd_247) rfl rfl rfl (by decide +kernel) ⟨Nat.le_of_ble_eq_true rfl, Nat.le_of_ble_eq_true rfl⟩) ⟨zPre_blind, va_recv hK hP (ci := 1) (q0 := 3) rfl rfl, zp_Q (X := [(h0, .inr (2, [.ref xK, .ref xR, .int (nI ch), .int (zb op)])), (xK, .inl (cT 0, 4, .inl (fun j => nI (tk j)))), (xR, .inl (cT 1, 4, .inr (.inl tr))), (hg, .inr (1, [.int (nI lS), .ref aK, .ref aC, .ref aT, .ref aP, .int (nI (lL + d)), .int (nI lC), .int (nI lA), .int (nI lP)])), (aK, .inl (cT 0, 801, .inl (zuK ks tk lL ch d))), (aC, .inl (cT 1, 801, .inr (.inl (zuC cs tr lL ch d)))), (aT, .inl (cT 1, 32, .inr (.inl (zuT tb tk tr ch d)))), (aP, .inl (cT 0, 8, .inl (fun j => nI ((zuP pn tk lL ch d) j))))]) (pl := []) hK hE hP hD [3, 4, 5] (by decide) rfl⟩ rfl rfl hl.1 rfl (lv_room (Nat.le_of_ble_eq_true rfl)) d_Tx_undoIn_42 ⟨Nat.le_of_ble_eq_true rfl, Nat.le_of_ble_eq_true rfl⟩) hP hD hS hA [3, 4, 5] [0, 1, 2, 6, 7] rfl (wr := [(h0, .inr (2, [.ref xK, .ref xR, .int (nI ch), .int (zb op)])), (xK, .inl (cT 0, 4, .inl (fun j => nI (tk j)))), (xR, .inl (cT 1, 4, .inr (.inl tr))), (aT, .inl (cT 1, 32, .inr (.inl (zuT tb tk tr ch d)))), (aP, .inl (cT 0, 8, .inl (fun j => nI ((zuP pn tk lL ch d) j))))]) rfl (by decide) (by decide) (fun zu => []) (fun _ => rfl) (fun zu H locs hφ hP hD hS => ?_)
          have hP : va_P (dC, dI) vwCl ([(h0, .inr (2, [.ref xK, .ref xR, .int (nI ch), .int (zb op)])), (xK, .inl (cT 0, 4, .inl (fun j => nI (tk j)))), (xR, .inl (cT 1, 4, .inr (.inl tr))), (aT, .inl (cT 1, 32, .inr (.inl (zuT tb tk tr ch d)))), (aP, .inl (cT 0, 8, .inl (fun j => nI ((zuP pn tk lL ch d) j)))), (hg, .inr (1, [.int (nI lS), .ref aK, .ref aC, .ref aT, .ref aP, .int (nI ((lL + d) + 1)), .int (nI lC), .int (nI lA), .int (nI lP)])), (aK, .inl (cT 0, 801, .inl (va_up (zuK ks tk lL ch d) ((lL + d) + 1) (-2)))), (aC, .inl (cT 1, 801, .inr (.inl (va_up (zuC cs tr lL ch d) ((lL + d) + 1) 1000000000000))))]) H := hP
          have hD : va_D A ([(h0, .inr (2, [.ref xK, .ref xR, .int (nI ch), .int (zb op)])), (xK, .inl (cT 0, 4, .inl (fun j => nI (tk j)))), (xR, .inl (cT 1, 4, .inr (.inl tr))), (aT, .inl (cT 1, 32, .inr (.inl (zuT tb tk tr ch d)))), (aP, .inl (cT 0, 8, .inl (fun j => nI ((zuP pn tk lL ch d) j)))), (hg, .inr (1, [.int (nI lS), .ref aK, .ref aC, .ref aT, .ref aP, .int (nI ((lL + d) + 1)), .int (nI lC), .int (nI lA), .int (nI lP)])), (aK, .inl (cT 0, 801, .inl (va_up (zuK ks tk lL ch d) ((lL + d) + 1) (-2)))), (aC, .inl (cT 1, 801, .inr (.inl (va_up (zuC cs tr lL ch d) ((lL + d) + 1) 1000000000000))))]) := hD
          refine lv_aload_n hx hb d_Tx_undoIn_45 rfl (lv_at hl 0 rfl) ?_
          refine zw_Q (X := [(h0, .inr (2, [.ref xK, .ref xR, .int (nI ch), .int (zb op)])), (xK, .inl (cT 0, 4, .inl (fun j => nI (tk j)))), (xR, .inl (cT 1, 4, .inr (.inl tr))), (aT, .inl (cT 1, 32, .inr (.inl (zuT tb tk tr ch d)))), (aP, .inl (cT 0, 8, .inl (fun j => nI ((zuP pn tk lL ch d) j)))), (hg, .inr (1, [.int (nI lS), .ref aK, .ref aC, .ref aT, .ref aP, .int (nI ((lL + d) + 1)), .int (nI lC), .int (nI lA), .int (nI lP)])), (aK, .inl (cT 0, 801, .inl (va_up (zuK ks tk lL ch d) ((lL + d) + 1) (-2)))), (aC, .inl (cT 1, 801, .inr (.inl (va_up (zuC cs tr lL ch d) ((lL + d) + 1) 1000000000000))))]) (pl := []) (va_runV (As := []) (rest := []) ⟨hx, hb, hml, hown, hts⟩ (c_Tx_close l dC dI cT H.size h0 xK xR ch op) (cwV 0 hts (zgV wd_248 wd_228 wd_229 wd_2 wd_230) rfl rfl rfl (by decide +kernel) ⟨Nat.le_of_ble_eq_true rfl, Nat.le_of_ble_eq_true rfl⟩) ⟨zPre_blind, va_recv hK hP (ci := 2) (q0 := 0) rfl rfl, zp_Q (X := [(h0, .inr (2, [.ref xK, .ref xR, .int (nI ch), .int (zb op)])), (xK, .inl (cT 0, 4, .inl (fun j => nI (tk j)))), (xR, .inl (cT 1, 4, .inr (.inl tr))), (aT, .inl (cT 1, 32, .inr (.inl (zuT tb tk tr ch d)))), (aP, .inl (cT 0, 8, .inl (fun j => nI ((zuP pn tk lL ch d) j)))), (hg, .inr (1, [.int (nI lS), .ref aK, .ref aC, .ref aT, .ref aP, .int (nI ((lL + d) + 1)), .int (nI lC), .int (nI lA), .int (nI lP)])), (aK, .inl (cT 0, 801, .inl (va_up (zuK ks tk lL ch d) ((lL + d) + 1) (-2)))), (aC, .inl (cT 1, 801, .inr (.inl (va_up (zuC cs tr lL ch d) ((lL + d) + 1) 1000000000000))))]) (pl := []) hK hE hP hD [0] (by decide) rfl⟩ rfl rfl hl.1 rfl (lv_room (Nat.le_of_ble_eq_true rfl)) d_Tx_undoIn_46 ⟨Nat.le_of_ble_eq_true rfl, Nat.le_of_ble_eq_true rfl⟩) hP hD hS hA [0] [1, 2, 3, 4, 5, 6, 7] rfl (wr := [(xK, .inl (cT 0, 4, .inl (fun j => nI (tk j)))), (xR, .inl (cT 1, 4, .inr (.inl tr))), (aT, .inl (cT 1, 32, .inr (.inl (zuT tb tk tr ch d)))), (aP, .inl (cT 0, 8, .inl (fun j => nI ((zuP pn tk lL ch d) j)))), (hg, .inr (1, [.int (nI lS), .ref aK, .ref aC, .ref aT, .ref aP, .int (nI ((lL + d) + 1)), .int (nI lC), .int (nI lA), .int (nI lP)])), (aK, .inl (cT 0, 801, .inl (va_up (zuK ks tk lL ch d) ((lL + d) + 1) (-2)))), (aC, .inl (cT 1, 801, .inr (.inl (va_up (zuC cs tr lL ch d) ((lL + d) + 1) 1000000000000))))]) rfl (by decide) (by decide) (fun zu => []) (fun _ => rfl) (fun zu H locs hφ hP hD hS => ?_)
          have hP : va_P (dC, dI) vwCl ([(xK, .inl (cT 0, 4, .inl (fun j => nI (tk j)))), (xR, .inl (cT 1, 4, .inr (.inl tr))), (aT, .inl (cT 1, 32, .inr (.inl (zuT tb tk tr ch d)))), (aP, .inl (cT 0, 8, .inl (fun j => nI ((zuP pn tk lL ch d) j)))), (hg, .inr (1, [.int (nI lS), .ref aK, .ref aC, .ref aT, .ref aP, .int (nI ((lL + d) + 1)), .int (nI lC), .int (nI lA), .int (nI lP)])), (aK, .inl (cT 0, 801, .inl (va_up (zuK ks tk lL ch d) ((lL + d) + 1) (-2)))), (aC, .inl (cT 1, 801, .inr (.inl (va_up (zuC cs tr lL ch d) ((lL + d) + 1) 1000000000000)))), (h0, .inr (2, [.ref xK, .ref xR, .int (nI 0), .int (zb false)]))]) H := hP
          have hD : va_D A ([(xK, .inl (cT 0, 4, .inl (fun j => nI (tk j)))), (xR, .inl (cT 1, 4, .inr (.inl tr))), (aT, .inl (cT 1, 32, .inr (.inl (zuT tb tk tr ch d)))), (aP, .inl (cT 0, 8, .inl (fun j => nI ((zuP pn tk lL ch d) j)))), (hg, .inr (1, [.int (nI lS), .ref aK, .ref aC, .ref aT, .ref aP, .int (nI ((lL + d) + 1)), .int (nI lC), .int (nI lA), .int (nI lP)])), (aK, .inl (cT 0, 801, .inl (va_up (zuK ks tk lL ch d) ((lL + d) + 1) (-2)))), (aC, .inl (cT 1, 801, .inr (.inl (va_up (zuC cs tr lL ch d) ((lL + d) + 1) 1000000000000)))), (h0, .inr (2, [.ref xK, .ref xR, .int (nI 0), .int (zb false)]))]) := hD
          have hP9 := hP.sub (ws' := [(h0, .inr (2, [.ref xK, .ref xR, .int (nI 0), .int (zb false)])), (xK, .inl (cT 0, 4, .inl (fun j => nI (tk j)))), (xR, .inl (cT 1, 4, .inr (.inl tr))), (hg, .inr (1, [.int (nI lS), .ref aK, .ref aC, .ref aT, .ref aP, .int (nI ((lL + d) + 1)), .int (nI lC), .int (nI lA), .int (nI lP)])), (aK, .inl (cT 0, 801, .inl (va_up (zuK ks tk lL ch d) ((lL + d) + 1) (-2)))), (aC, .inl (cT 1, 801, .inr (.inl (va_up (zuC cs tr lL ch d) ((lL + d) + 1) 1000000000000)))), (aT, .inl (cT 1, 32, .inr (.inl (zuT tb tk tr ch d)))), (aP, .inl (cT 0, 8, .inl (fun j => nI ((zuP pn tk lL ch d) j))))]) [7, 0, 1, 4, 5, 6, 2, 3] rfl
          have hD9 := hD.sub (ws' := [(h0, .inr (2, [.ref xK, .ref xR, .int (nI 0), .int (zb false)])), (xK, .inl (cT 0, 4, .inl (fun j => nI (tk j)))), (xR, .inl (cT 1, 4, .inr (.inl tr))), (hg, .inr (1, [.int (nI lS), .ref aK, .ref aC, .ref aT, .ref aP, .int (nI ((lL + d) + 1)), .int (nI lC), .int (nI lA), .int (nI lP)])), (aK, .inl (cT 0, 801, .inl (va_up (zuK ks tk lL ch d) ((lL + d) + 1) (-2)))), (aC, .inl (cT 1, 801, .inr (.inl (va_up (zuC cs tr lL ch d) ((lL + d) + 1) 1000000000000)))), (aT, .inl (cT 1, 32, .inr (.inl (zuT tb tk tr ch d)))), (aP, .inl (cT 0, 8, .inl (fun j => nI ((zuP pn tk lL ch d) j))))]) [7, 0, 1, 4, 5, 6, 2, 3] (by decide) rfl
          rw [hd] at hP9 hD9
          have hP9 : va_P (dC, dI) vwCl ([(h0, .inr (2, [.ref xK, .ref xR, .int (nI 0), .int (zb false)])), (xK, .inl (cT 0, 4, .inl (fun j => nI (tk j)))), (xR, .inl (cT 1, 4, .inr (.inl tr))), (hg, .inr (1, [.int (nI lS), .ref aK, .ref aC, .ref aT, .ref aP, .int (nI (zuL lL ch)), .int (nI lC), .int (nI lA), .int (nI lP)])), (aK, .inl (cT 0, 801, .inl (zuKe ks tk lL ch))), (aC, .inl (cT 1, 801, .inr (.inl (zuCe cs tr lL ch)))), (aT, .inl (cT 1, 32, .inr (.inl (zuT tb tk tr ch ch)))), (aP, .inl (cT 0, 8, .inl (fun j => nI ((zuP pn tk lL ch ch) j))))]) H := by simp only [zuL, zuKe, zuCe, if_neg (show ¬ ch = 0 by omega)]; exact hP9
          have hD9 : va_D A ([(h0, .inr (2, [.ref xK, .ref xR, .int (nI 0), .int (zb false)])), (xK, .inl (cT 0, 4, .inl (fun j => nI (tk j)))), (xR, .inl (cT 1, 4, .inr (.inl tr))), (hg, .inr (1, [.int (nI lS), .ref aK, .ref aC, .ref aT, .ref aP, .int (nI (zuL lL ch)), .int (nI lC), .int (nI lA), .int (nI lP)])), (aK, .inl (cT 0, 801, .inl (zuKe ks tk lL ch))), (aC, .inl (cT 1, 801, .inr (.inl (zuCe cs tr lL ch)))), (aT, .inl (cT 1, 32, .inr (.inl (zuT tb tk tr ch ch)))), (aP, .inl (cT 0, 8, .inl (fun j => nI ((zuP pn tk lL ch ch) j))))]) := by simp only [zuL, zuKe, zuCe, if_neg (show ¬ ch = 0 by omega)]; exact hD9
          exact W.vret hx hb hr (fun t ht hW => ⟨⟨(), trivial, rfl, by rw [ht]; exact hP9, hD9⟩, hS.F ht⟩) hS.2.2 d_Tx_undoIn_49
  exact loop_7 (ch - 0 + 1) 0 (by omega) (by first | omega | assumption) s.heap [] (hP.sub [0, 1, 2, 3, 4, 5, 6, 7] rfl) (hD.sub [0, 1, 2, 3, 4, 5, 6, 7] (by decide) rfl) hS ls (lv_sub hl [1, 2, 0] rfl)
set_option maxHeartbeats 4000000 in
set_option maxRecDepth 100000 in
theorem c_Bk_init (l : Launch) (dC : Nat → ClassId) (dI : Nat → Nat → Nat) (cT : Nat → ClassId) (sz : Nat) (h0 : Nat) (bS : Nat) (bF : Bool) : Met l y_Bk_init w_Bk_init ({ frames := 1, cells := 1, slots := 8, locals := 23 } : Room) (zPre (dC, dI) vwCl (zT cT) [.ref h0, .int (zb bF), .int (nI bS)] ([(h0, .inr (4, [.int (zb false), .int (nI 0), .null, .int (nI 0), .int (nI 0), .int (nI 0)]))]) sz) (zQ (dC, dI) vwCl (S := Nat) (fun zu => True) (fun zu => none) (fun zu => [(h0, .inr (4, [.int (zb bF), .int (nI bS), .ref zu, .int (nI 0), .int (nI 0), .int (nI 0)])), (zu, .inl (cT 0, 8, .inl (zfill (fun _ => nI 0) (-1) 8)))]) (va_A ([(h0, .inr (4, [.int (zb false), .int (nI 0), .null, .int (nI 0), .int (nI 0), .int (nI 0)]))]) sz)) 1 8 (va_A ([(h0, .inr (4, [.int (zb false), .int (nI 0), .null, .int (nI 0), .int (nI 0), .int (nI 0)]))]) sz) := by
  refine Met.ofW (cc := b_Bk_init) (maxL := 3) (ret := none) (by decide) rfl ?_
  intro p e s m args below meth c s₁ B hml hv
  obtain ⟨rfl, hsz, hP, hK, hD0, hE⟩ := hv
  have hx := B.exec
  have hb := B.bytes
  have hr := B.returns
  have hts := fun w h => atoms_spec (ws := w_Bk_init) B.pre w (List.mem_cons_of_mem _ h)
  have hown : s.vm.findClass R_Bk = some m.cls := findClass_of_methodNamed B.named
  have hlocks := B.notSynchronized
  have hin : meth.name = "<init>" := (name_of_methodNamed B.named B.method).1
  subst hsz
  have hD := hD0.self (sz := s.heap.size)
  generalize hAe : va_A ([(h0, .inr (4, [.int (zb false), .int (nI 0), .null, .int (nI 0), .int (nI 0), .int (nI 0)]))]) s.heap.size = A at hD ⊢
  have hA : ∀ q : Nat, s.heap.size ≤ q → A q := fun q h => by rw [← hAe]; exact Or.inr h
  have hS : va_S A s.heap s.heap [] := va_S.rf
  have hl := lv_entry ([.ref h0, .int (zb bF), .int (nI bS)]) (n := 3) (Nat.le_of_ble_eq_true rfl)
  rw [lg_entry_eq]
  generalize (lg_sl ([.ref h0, .int (zb bF), .int (nI bS)]) ++ List.replicate (3 - (lg_sl ([.ref h0, .int (zb bF), .int (nI bS)])).length) Slot.unset).toArray = ls at hl ⊢
  have hl : lv_has ls 3 [(0, .ref h0), (1, .int (zb bF)), (2, .int (nI bS))] := hl
  refine lv_aload_n hx hb d_Bk_init_0 rfl (lv_at hl 0 rfl) ?_
  refine W.objInit hx hb hown (hts _ wd_302) (hts _ wd_23) (hts _ wd_24) rfl (by rw [hml]; exact hl.1) rfl d_Bk_init_1 (Nat.le_of_ble_eq_true rfl) (Nat.le_of_ble_eq_true rfl) ?_
  refine W.eq (g2 := F0 m 4 ls []) rfl ?_
  refine lv_aload_n hx hb d_Bk_init_4 rfl (lv_at hl 0 rfl) ?_
  refine lv_bipush (v := (nI 8)) hx hb d_Bk_init_5 (by decide) ?_
  refine zn_newI (N := 8) hx hb (hts _ wd_44) hK hP hD hS hA 0 rfl (by omega) (Nat.le_of_ble_eq_true rfl) (Nat.le_of_ble_eq_true rfl) d_Bk_init_7 (fun q_1 H hP hD hS => ?_)
  refine W.widen (k := 1) (n := 8) (by omega) (by omega) ?_
  have hP : va_P (dC, dI) vwCl ([(h0, .inr (4, [.int (zb false), .int (nI 0), .null, .int (nI 0), .int (nI 0), .int (nI 0)])), (q_1, .inl (cT 0, 8, .inl (fun _ => nI 0)))]) H := hP
  have hD : va_D A ([(h0, .inr (4, [.int (zb false), .int (nI 0), .null, .int (nI 0), .int (nI 0), .int (nI 0)])), (q_1, .inl (cT 0, 8, .inl (fun _ => nI 0)))]) := hD
  refine va_putF (D := (dC, dI)) (ci := 4) (v := .ref q_1) (ty := (.array .int)) (C := R_Bk) (T := F_Bk) (N := 6) hx hb hts i_Bk t_Bk t_Bk_ok n_Bk hown hK hP hD hS 0 rfl rfl 2 (by decide) (hts _ wd_312) (fun _ h9 => h9) rfl hin rfl (by decide +kernel) rfl rfl (Nat.le_of_ble_eq_true rfl) d_Bk_init_9 (fun H locs hP hD hS => ?_)
  have hP : va_P (dC, dI) vwCl ([(h0, .inr (4, [.int (zb false), .int (nI 0), .ref q_1, .int (nI 0), .int (nI 0), .int (nI 0)])), (q_1, .inl (cT 0, 8, .inl (fun _ => nI 0)))]) H := hP
  have hD : va_D A ([(h0, .inr (4, [.int (zb false), .int (nI 0), .ref q_1, .int (nI 0), .int (nI 0), .int (nI 0)])), (q_1, .inl (cT 0, 8, .inl (fun _ => nI 0)))]) := hD
  refine lv_aload_n hx hb d_Bk_init_12 rfl (lv_at hl 0 rfl) ?_
  refine lv_iconst (v := (nI 0)) hx hb d_Bk_init_13 (by decide) ?_
  refine va_put (D := (dC, dI)) (ci := 4) (v := .int (nI 0)) (ty := .int) (C := R_Bk) (T := F_Bk) (N := 6) hx hb hts i_Bk t_Bk t_Bk_ok n_Bk hown hK hP hD hS 0 rfl rfl 3 (by decide) (hts _ wd_313) (fun _ h9 => h9) rfl (by decide +kernel) rfl rfl (Nat.le_of_ble_eq_true rfl) d_Bk_init_14 (fun H locs hP hD hS => ?_)
  have hP : va_P (dC, dI) vwCl ([(h0, .inr (4, [.int (zb false), .int (nI 0), .ref q_1, .int (nI 0), .int (nI 0), .int (nI 0)])), (q_1, .inl (cT 0, 8, .inl (fun _ => nI 0)))]) H := hP
  have hD : va_D A ([(h0, .inr (4, [.int (zb false), .int (nI 0), .ref q_1, .int (nI 0), .int (nI 0), .int (nI 0)])), (q_1, .inl (cT 0, 8, .inl (fun _ => nI 0)))]) := hD
  refine lv_aload_n hx hb d_Bk_init_17 rfl (lv_at hl 0 rfl) ?_
  refine lv_iconst (v := (nI 0)) hx hb d_Bk_init_18 (by decide) ?_
  refine va_put (D := (dC, dI)) (ci := 4) (v := .int (nI 0)) (ty := .int) (C := R_Bk) (T := F_Bk) (N := 6) hx hb hts i_Bk t_Bk t_Bk_ok n_Bk hown hK hP hD hS 0 rfl rfl 4 (by decide) (hts _ wd_316) (fun _ h9 => h9) rfl (by decide +kernel) rfl rfl (Nat.le_of_ble_eq_true rfl) d_Bk_init_19 (fun H locs hP hD hS => ?_)
  have hP : va_P (dC, dI) vwCl ([(h0, .inr (4, [.int (zb false), .int (nI 0), .ref q_1, .int (nI 0), .int (nI 0), .int (nI 0)])), (q_1, .inl (cT 0, 8, .inl (fun _ => nI 0)))]) H := hP
  have hD : va_D A ([(h0, .inr (4, [.int (zb false), .int (nI 0), .ref q_1, .int (nI 0), .int (nI 0), .int (nI 0)])), (q_1, .inl (cT 0, 8, .inl (fun _ => nI 0)))]) := hD
  refine lv_aload_n hx hb d_Bk_init_22 rfl (lv_at hl 0 rfl) ?_
  refine lv_iconst (v := (nI 0)) hx hb d_Bk_init_23 (by decide) ?_
  refine va_put (D := (dC, dI)) (ci := 4) (v := .int (nI 0)) (ty := .int) (C := R_Bk) (T := F_Bk) (N := 6) hx hb hts i_Bk t_Bk t_Bk_ok n_Bk hown hK hP hD hS 0 rfl rfl 5 (by decide) (hts _ wd_318) (fun _ h9 => h9) rfl (by decide +kernel) rfl rfl (Nat.le_of_ble_eq_true rfl) d_Bk_init_24 (fun H locs hP hD hS => ?_)
  have hP : va_P (dC, dI) vwCl ([(h0, .inr (4, [.int (zb false), .int (nI 0), .ref q_1, .int (nI 0), .int (nI 0), .int (nI 0)])), (q_1, .inl (cT 0, 8, .inl (fun _ => nI 0)))]) H := hP
  have hD : va_D A ([(h0, .inr (4, [.int (zb false), .int (nI 0), .ref q_1, .int (nI 0), .int (nI 0), .int (nI 0)])), (q_1, .inl (cT 0, 8, .inl (fun _ => nI 0)))]) := hD
  refine lv_aload_n hx hb d_Bk_init_27 rfl (lv_at hl 0 rfl) ?_
  refine lv_iload_n hx hb d_Bk_init_28 rfl (lv_at hl 1 rfl) ?_
  refine va_putF (D := (dC, dI)) (ci := 4) (v := .int (zb bF)) (ty := .boolean) (C := R_Bk) (T := F_Bk) (N := 6) hx hb hts i_Bk t_Bk t_Bk_ok n_Bk hown hK hP hD hS 0 rfl rfl 0 (by decide) (hts _ wd_306) (fun _ h9 => h9) rfl hin rfl (by decide +kernel) (zb_narrow _) (zb_fits _) (Nat.le_of_ble_eq_true rfl) d_Bk_init_29 (fun H locs hP hD hS => ?_)
  have hP : va_P (dC, dI) vwCl ([(h0, .inr (4, [.int (zb bF), .int (nI 0), .ref q_1, .int (nI 0), .int (nI 0), .int (nI 0)])), (q_1, .inl (cT 0, 8, .inl (fun _ => nI 0)))]) H := hP
  have hD : va_D A ([(h0, .inr (4, [.int (zb bF), .int (nI 0), .ref q_1, .int (nI 0), .int (nI 0), .int (nI 0)])), (q_1, .inl (cT 0, 8, .inl (fun _ => nI 0)))]) := hD
  refine lv_aload_n hx hb d_Bk_init_32 rfl (lv_at hl 0 rfl) ?_
  refine lv_iload_n hx hb d_Bk_init_33 rfl (lv_at hl 2 rfl) ?_
  refine va_putF (D := (dC, dI)) (ci := 4) (v := .int (nI bS)) (ty := .int) (C := R_Bk) (T := F_Bk) (N := 6) hx hb hts i_Bk t_Bk t_Bk_ok n_Bk hown hK hP hD hS 0 rfl rfl 1 (by decide) (hts _ wd_309) (fun _ h9 => h9) rfl hin rfl (by decide +kernel) rfl rfl (Nat.le_of_ble_eq_true rfl) d_Bk_init_34 (fun H locs hP hD hS => ?_)
  have hP : va_P (dC, dI) vwCl ([(h0, .inr (4, [.int (zb bF), .int (nI bS), .ref q_1, .int (nI 0), .int (nI 0), .int (nI 0)])), (q_1, .inl (cT 0, 8, .inl (fun _ => nI 0)))]) H := hP
  have hD : va_D A ([(h0, .inr (4, [.int (zb bF), .int (nI bS), .ref q_1, .int (nI 0), .int (nI 0), .int (nI 0)])), (q_1, .inl (cT 0, 8, .inl (fun _ => nI 0)))]) := hD
  refine lv_aload_n hx hb d_Bk_init_37 rfl (lv_at hl 0 rfl) ?_
  refine va_get (D := (dC, dI)) (ci := 4) (v := .ref q_1) (C := R_Bk) (T := F_Bk) (N := 6) hx hb hts i_Bk hown hK hP 0 rfl rfl 2 (by decide) (hts _ wd_312) (fun _ h9 => h9) rfl d_Bk_init_38 ?_
  refine lv_iconst (v := (-1)) hx hb d_Bk_init_41 (by decide) ?_
  refine zw_Q (X := [(h0, .inr (4, [.int (zb bF), .int (nI bS), .ref q_1, .int (nI 0), .int (nI 0), .int (nI 0)])), (q_1, .inl (cT 0, 8, .inl (fun _ => nI 0)))]) (pl := []) (va_runS (As := [.ref q_1, .int (-1)]) (rest := []) ⟨hx, hb, hml, hown, hts⟩ (c_Ar_fill_2I l dC dI cT H.size q_1 8 (fun _ => nI 0) (-1) (by first | omega | assumption)) (va_cwS 2 hts (zgS wd_303 wd_304 wd_6 wd_305) rfl rfl rfl (by decide +kernel) ⟨Nat.le_of_ble_eq_true rfl, Nat.le_of_ble_eq_true rfl⟩) ⟨zPre_blind, zp_Q (X := [(h0, .inr (4, [.int (zb bF), .int (nI bS), .ref q_1, .int (nI 0), .int (nI 0), .int (nI 0)])), (q_1, .inl (cT 0, 8, .inl (fun _ => nI 0)))]) (pl := []) hK hE hP hD [1] (by decide) rfl⟩ rfl rfl hl.1 rfl (lv_room (Nat.le_of_ble_eq_true rfl)) d_Bk_init_42 ⟨Nat.le_of_ble_eq_true rfl, Nat.le_of_ble_eq_true rfl⟩) hP hD hS hA [1] [0] rfl (wr := [(h0, .inr (4, [.int (zb bF), .int (nI bS), .ref q_1, .int (nI 0), .int (nI 0), .int (nI 0)]))]) rfl (by decide) (by decide) (fun zu => []) (fun _ => rfl) (fun zu H locs hφ hP hD hS => ?_)
  have hP : va_P (dC, dI) vwCl ([(h0, .inr (4, [.int (zb bF), .int (nI bS), .ref q_1, .int (nI 0), .int (nI 0), .int (nI 0)])), (q_1, .inl (cT 0, 8, .inl (zfill (fun _ => nI 0) (-1) 8)))]) H := hP
  have hD : va_D A ([(h0, .inr (4, [.int (zb bF), .int (nI bS), .ref q_1, .int (nI 0), .int (nI 0), .int (nI 0)])), (q_1, .inl (cT 0, 8, .inl (zfill (fun _ => nI 0) (-1) 8)))]) := hD
  have hP9 := hP.sub (ws' := [(h0, .inr (4, [.int (zb bF), .int (nI bS), .ref q_1, .int (nI 0), .int (nI 0), .int (nI 0)])), (q_1, .inl (cT 0, 8, .inl (zfill (fun _ => nI 0) (-1) 8)))]) [0, 1] rfl
  have hD9 := hD.sub (ws' := [(h0, .inr (4, [.int (zb bF), .int (nI bS), .ref q_1, .int (nI 0), .int (nI 0), .int (nI 0)])), (q_1, .inl (cT 0, 8, .inl (zfill (fun _ => nI 0) (-1) 8)))]) [0, 1] (by decide) rfl
  exact W.vret hx hb hr (fun t ht hW => ⟨⟨q_1, trivial, rfl, by rw [ht]; exact hP9, hD9⟩, hS.F ht⟩) hS.2.2 d_Bk_init_45
set_option maxHeartbeats 4000000 in
set_option maxRecDepth 100000 in
theorem c_Bk_takeImage (l : Launch) (dC : Nat → ClassId) (dI : Nat → Nat → Nat) (cT : Nat → ClassId) (sz : Nat) (h0 : Nat) (bS : Nat) (bA : Nat) (bE : Nat) (bM : Nat) (bV : Nat) (bF : Bool) (k : Nat) (n : Nat) (im : Nat → Int32) (hk : k < 8) (hM : bM < 2 ^ 30) : Met l y_Bk_takeImage w_Bk_takeImage ({ frames := 0, cells := 0, slots := 0, locals := 0 } : Room) (zPre (dC, dI) vwCl (zT cT) [.ref h0, .int (nI k), .int (nI n)] ([(h0, .inr (4, [.int (zb bF), .int (nI bS), .ref bA, .int (nI bE), .int (nI bM), .int (nI bV)])), (bA, .inl (cT 0, 8, .inl im))]) sz) (zQ (dC, dI) vwCl (S := Unit) (fun zu => True) (fun zu => none) (fun zu => [(h0, .inr (4, [.int (zb bF), .int (nI bS), .ref bA, .int (nI bE), .int (nI (bM + 1)), .int (nI bV)])), (bA, .inl (cT 0, 8, .inl (va_up im k (nI n))))]) (va_A ([(h0, .inr (4, [.int (zb bF), .int (nI bS), .ref bA, .int (nI bE), .int (nI bM), .int (nI bV)])), (bA, .inl (cT 0, 8, .inl im))]) sz)) 0 0 (va_A ([(h0, .inr (4, [.int (zb bF), .int (nI bS), .ref bA, .int (nI bE), .int (nI bM), .int (nI bV)])), (bA, .inl (cT 0, 8, .inl im))]) sz) := by
  refine Met.ofW (cc := b_Bk_takeImage) (maxL := 3) (ret := none) (by decide) rfl ?_
  intro p e s m args below meth c s₁ B hml hv
  obtain ⟨rfl, hsz, hP, hK, hD0, hE⟩ := hv
  have hx := B.exec
  have hb := B.bytes
  have hr := B.returns
  have hts := fun w h => atoms_spec (ws := w_Bk_takeImage) B.pre w (List.mem_cons_of_mem _ h)
  have hown : s.vm.findClass R_Bk = some m.cls := findClass_of_methodNamed B.named
  have hlocks := B.notSynchronized
  subst hsz
  have hD := hD0.self (sz := s.heap.size)
  generalize hAe : va_A ([(h0, .inr (4, [.int (zb bF), .int (nI bS), .ref bA, .int (nI bE), .int (nI bM), .int (nI bV)])), (bA, .inl (cT 0, 8, .inl im))]) s.heap.size = A at hD ⊢
  have hA : ∀ q : Nat, s.heap.size ≤ q → A q := fun q h => by rw [← hAe]; exact Or.inr h
  have hS : va_S A s.heap s.heap [] := va_S.rf
  have hl := lv_entry ([.ref h0, .int (nI k), .int (nI n)]) (n := 3) (Nat.le_of_ble_eq_true rfl)
  rw [lg_entry_eq]
  generalize (lg_sl ([.ref h0, .int (nI k), .int (nI n)]) ++ List.replicate (3 - (lg_sl ([.ref h0, .int (nI k), .int (nI n)])).length) Slot.unset).toArray = ls at hl ⊢
  have hl : lv_has ls 3 [(0, .ref h0), (1, .int (nI k)), (2, .int (nI n))] := hl
  refine lv_aload_n hx hb d_Bk_takeImage_0 rfl (lv_at hl 0 rfl) ?_
  refine va_get (D := (dC, dI)) (ci := 4) (v := .ref bA) (C := R_Bk) (T := F_Bk) (N := 6) hx hb hts i_Bk hown hK hP 0 rfl rfl 2 (by decide) (hts _ wd_312) (fun _ h9 => h9) rfl d_Bk_takeImage_1 ?_
  refine lv_iload_n hx hb d_Bk_takeImage_4 rfl (lv_at hl 1 rfl) ?_
  refine lv_iload_n hx hb d_Bk_takeImage_5 rfl (lv_at hl 2 rfl) ?_
  refine zn_iast hx hb hK hP hD hS 1 0 rfl rfl (i := k) (x := (nI n)) (by omega) (by omega) d_Bk_takeImage_6 (fun H locs hP hD hS => ?_)
  have hP : va_P (dC, dI) vwCl ([(h0, .inr (4, [.int (zb bF), .int (nI bS), .ref bA, .int (nI bE), .int (nI bM), .int (nI bV)])), (bA, .inl (cT 0, 8, .inl (va_up im k (nI n))))]) H := hP
  have hD : va_D A ([(h0, .inr (4, [.int (zb bF), .int (nI bS), .ref bA, .int (nI bE), .int (nI bM), .int (nI bV)])), (bA, .inl (cT 0, 8, .inl (va_up im k (nI n))))]) := hD
  refine lv_aload_n hx hb d_Bk_takeImage_7 rfl (lv_at hl 0 rfl) ?_
  refine lv_dup hx hb d_Bk_takeImage_8 rfl ?_
  refine va_get (D := (dC, dI)) (ci := 4) (v := .int (nI bM)) (C := R_Bk) (T := F_Bk) (N := 6) hx hb hts i_Bk hown hK hP 0 rfl rfl 4 (by decide) (hts _ wd_316) (fun _ h9 => h9) rfl d_Bk_takeImage_9 ?_
  refine lv_iconst (v := (nI 1)) hx hb d_Bk_takeImage_12 (by decide) ?_
  refine zn_iadd hx hb d_Bk_takeImage_13 ?_
  refine va_put (D := (dC, dI)) (ci := 4) (v := .int (nI (bM + 1))) (ty := .int) (C := R_Bk) (T := F_Bk) (N := 6) hx hb hts i_Bk t_Bk t_Bk_ok n_Bk hown hK hP hD hS 0 rfl rfl 4 (by decide) (hts _ wd_316) (fun _ h9 => h9) rfl (by decide +kernel) rfl rfl (Nat.le_of_ble_eq_true rfl) d_Bk_takeImage_14 (fun H locs hP hD hS => ?_)
  have hP : va_P (dC, dI) vwCl ([(h0, .inr (4, [.int (zb bF), .int (nI bS), .ref bA, .int (nI bE), .int (nI (bM + 1)), .int (nI bV)])), (bA, .inl (cT 0, 8, .inl (va_up im k (nI n))))]) H := hP
  have hD : va_D A ([(h0, .inr (4, [.int (zb bF), .int (nI bS), .ref bA, .int (nI bE), .int (nI (bM + 1)), .int (nI bV)])), (bA, .inl (cT 0, 8, .inl (va_up im k (nI n))))]) := hD
  have hP9 := hP.sub (ws' := [(h0, .inr (4, [.int (zb bF), .int (nI bS), .ref bA, .int (nI bE), .int (nI (bM + 1)), .int (nI bV)])), (bA, .inl (cT 0, 8, .inl (va_up im k (nI n))))]) [0, 1] rfl
  have hD9 := hD.sub (ws' := [(h0, .inr (4, [.int (zb bF), .int (nI bS), .ref bA, .int (nI bE), .int (nI (bM + 1)), .int (nI bV)])), (bA, .inl (cT 0, 8, .inl (va_up im k (nI n))))]) [0, 1] (by decide) rfl
  exact W.vret hx hb hr (fun t ht hW => ⟨⟨(), trivial, rfl, by rw [ht]; exact hP9, hD9⟩, hS.F ht⟩) hS.2.2 d_Bk_takeImage_17
set_option maxHeartbeats 4000000 in
set_option maxRecDepth 100000 in
theorem c_Bk_hasImageOf (l : Launch) (dC : Nat → ClassId) (dI : Nat → Nat → Nat) (cT : Nat → ClassId) (h0 : Nat) (bS : Nat) (bA : Nat) (bE : Nat) (bM : Nat) (bV : Nat) (bF : Bool) (k : Nat) (im : Nat → Int32) (hk : k < 8) : Met l y_Bk_hasImageOf w_Bk_hasImageOf ({ frames := 0, cells := 0, slots := 0, locals := 0 } : Room) (zPreR (dC, dI) vwCl (zT cT) [.ref h0, .int (nI k)] ([(h0, .inr (4, [.int (zb bF), .int (nI bS), .ref bA, .int (nI bE), .int (nI bM), .int (nI bV)])), (bA, .inl (cT 0, 8, .inl im))])) (k2_QcV (.int (zb (decide (¬ im k = -1))))) 0 0 (fun _ => False) := by
  refine Met.ofW (cc := b_Bk_hasImageOf) (maxL := 2) (ret := (some .boolean)) (by decide) rfl ?_
  intro p e s m args below meth c s₁ B hml hv
  obtain ⟨rfl, hP, hK, hE⟩ := hv
  have hx := B.exec
  have hb := B.bytes
  have hr := B.returns
  have hts := fun w h => atoms_spec (ws := w_Bk_hasImageOf) B.pre w (List.mem_cons_of_mem _ h)
  have hown : s.vm.findClass R_Bk = some m.cls := findClass_of_methodNamed B.named
  have hlocks := B.notSynchronized
  have hl := lv_entry ([.ref h0, .int (nI k)]) (n := 2) (Nat.le_of_ble_eq_true rfl)
  rw [lg_entry_eq]
  generalize (lg_sl ([.ref h0, .int (nI k)]) ++ List.replicate (2 - (lg_sl ([.ref h0, .int (nI k)])).length) Slot.unset).toArray = ls at hl ⊢
  have hl : lv_has ls 2 [(0, .ref h0), (1, .int (nI k))] := hl
  refine lv_aload_n hx hb d_Bk_hasImageOf_0 rfl (lv_at hl 0 rfl) ?_
  refine va_get (D := (dC, dI)) (ci := 4) (v := .ref bA) (C := R_Bk) (T := F_Bk) (N := 6) hx hb hts i_Bk hown hK hP 0 rfl rfl 2 (by decide) (hts _ wd_312) (fun _ h9 => h9) rfl d_Bk_hasImageOf_1 ?_
  refine lv_iload_n hx hb d_Bk_hasImageOf_4 rfl (lv_at hl 1 rfl) ?_
  refine zn_iald hx hb hK hP 1 0 rfl rfl (i := k) (by omega) (by omega) d_Bk_hasImageOf_5 ?_
  refine lv_iconst (v := (-1)) hx hb d_Bk_hasImageOf_6 (by decide) ?_
  refine lv_icmp_eq (tgt := 14) hx hb d_Bk_hasImageOf_7 (by decide) (fun c_7 => ?_) (fun c_7 => ?_)
  · refine lv_iconst (v := (nI 0)) hx hb d_Bk_hasImageOf_14 (by decide) ?_
    refine W.eq (g2 := F0 m 15 ls [.int (zb false)]) rfl ?_
    exact W.zret hx hb hr (zb_narrow _) (fun t ht hW => ⟨by rw [decide_eq_false (by simp [c_7])], ht⟩) (fun q h => by cases h) d_Bk_hasImageOf_15
  · refine lv_iconst (v := (nI 1)) hx hb d_Bk_hasImageOf_10 (by decide) ?_
    refine lv_goto (tgt := 15) hx hb d_Bk_hasImageOf_11 (by decide) ?_
    refine W.eq (g2 := F0 m 15 ls [.int (zb true)]) rfl ?_
    exact W.zret hx hb hr (zb_narrow _) (fun t ht hW => ⟨by rw [decide_eq_true c_7], ht⟩) (fun q h => by cases h) d_Bk_hasImageOf_15
set_option maxHeartbeats 4000000 in
set_option maxRecDepth 100000 in
theorem c_Bk_imageNumberOf (l : Launch) (dC : Nat → ClassId) (dI : Nat → Nat → Nat) (cT : Nat → ClassId) (h0 : Nat) (bS : Nat) (bA : Nat) (bE : Nat) (bM : Nat) (bV : Nat) (bF : Bool) (k : Nat) (im : Nat → Int32) (hk : k < 8) : Met l y_Bk_imageNumberOf w_Bk_imageNumberOf ({ frames := 0, cells := 0, slots := 0, locals := 0 } : Room) (zPreR (dC, dI) vwCl (zT cT) [.ref h0, .int (nI k)] ([(h0, .inr (4, [.int (zb bF), .int (nI bS), .ref bA, .int (nI bE), .int (nI bM), .int (nI bV)])), (bA, .inl (cT 0, 8, .inl im))])) (k2_QcV (.int (im k))) 0 0 (fun _ => False) := by
  refine Met.ofW (cc := b_Bk_imageNumberOf) (maxL := 2) (ret := (some .int)) (by decide) rfl ?_
  intro p e s m args below meth c s₁ B hml hv
  obtain ⟨rfl, hP, hK, hE⟩ := hv
  have hx := B.exec
  have hb := B.bytes
  have hr := B.returns
  have hts := fun w h => atoms_spec (ws := w_Bk_imageNumberOf) B.pre w (List.mem_cons_of_mem _ h)
  have hown : s.vm.findClass R_Bk = some m.cls := findClass_of_methodNamed B.named
  have hlocks := B.notSynchronized
  have hl := lv_entry ([.ref h0, .int (nI k)]) (n := 2) (Nat.le_of_ble_eq_true rfl)
  rw [lg_entry_eq]
  generalize (lg_sl ([.ref h0, .int (nI k)]) ++ List.replicate (2 - (lg_sl ([.ref h0, .int (nI k)])).length) Slot.unset).toArray = ls at hl ⊢
  have hl : lv_has ls 2 [(0, .ref h0), (1, .int (nI k))] := hl
  refine lv_aload_n hx hb d_Bk_imageNumberOf_0 rfl (lv_at hl 0 rfl) ?_
  refine va_get (D := (dC, dI)) (ci := 4) (v := .ref bA) (C := R_Bk) (T := F_Bk) (N := 6) hx hb hts i_Bk hown hK hP 0 rfl rfl 2 (by decide) (hts _ wd_312) (fun _ h9 => h9) rfl d_Bk_imageNumberOf_1 ?_
  refine lv_iload_n hx hb d_Bk_imageNumberOf_4 rfl (lv_at hl 1 rfl) ?_
  refine zn_iald hx hb hK hP 1 0 rfl rfl (i := k) (by omega) (by omega) d_Bk_imageNumberOf_5 ?_
  exact W.iret hx hb hr (fun t ht hW => ⟨rfl, ht⟩) (fun q h => by cases h) d_Bk_imageNumberOf_6
end
section
/-! the reference's own words -/
def zaf (mk mv : Nat → Int32) (mh : Nat → Bool) (k : Int32) : Nat → Int64
  | 0 => 1000000000000
  | n + 1 => if mk (n + 1) = k then (if mh (n + 1) = true then (mv (n + 1)).toInt64 else 1000000000000) else zaf mk mv mh k n
theorem zaf_pos {mk mv : Nat → Int32} {mh : Nat → Bool} {k : Int32} {i : Nat} (h : 0 < i) : zaf mk mv mh k i = if mk i = k then (if mh i = true then (mv i).toInt64 else 1000000000000) else zaf mk mv mh k (i - 1) := by
  cases i with
  | zero => omega
  | succ n => rfl
def znum (mk : Nat → Int32) (pg : Nat) : Nat → Nat
  | 0 => 0
  | n + 1 => if isIn (mk (n + 1)) 32 = true ∧ kN (mk (n + 1)) / 4 = pg then n + 1 else znum mk pg n
theorem znum_pos {mk : Nat → Int32} {pg i : Nat} (h : 0 < i) : znum mk pg i = if isIn (mk i) 32 = true ∧ kN (mk i) / 4 = pg then i else znum mk pg (i - 1) := by
  cases i with
  | zero => omega
  | succ n => rfl
theorem znum_le (mk : Nat → Int32) (pg : Nat) : ∀ n, znum mk pg n ≤ n
  | 0 => Nat.le_refl _
  | n + 1 => by
    have := znum_le mk pg n
    simp only [znum]
    split <;> omega
def zcho (mk : Nat → Int32) (pg a : Nat) : Nat → Nat
  | 0 => 0
  | n + 1 => zcho mk pg a n + (if a < n + 1 ∧ isIn (mk (n + 1)) 32 = true ∧ kN (mk (n + 1)) / 4 = pg then 1 else 0)
theorem zcho_pos {mk : Nat → Int32} {pg a i : Nat} (h : 0 < i) : zcho mk pg a i = zcho mk pg a (i - 1) + (if a < i ∧ isIn (mk i) 32 = true ∧ kN (mk i) / 4 = pg then 1 else 0) := by
  cases i with
  | zero => omega
  | succ n => rfl
theorem zcho_0 (mk : Nat → Int32) (pg a : Nat) : ∀ n, n ≤ a → zcho mk pg a n = 0
  | 0, _ => rfl
  | n + 1, h => by
    simp only [zcho, zcho_0 mk pg a n (by omega)]
    rw [if_neg (fun q => by have := q.1; omega)]
theorem zcho_le (mk : Nat → Int32) (pg a : Nat) : ∀ n, zcho mk pg a n ≤ n
  | 0 => Nat.le_refl _
  | n + 1 => by
    have := zcho_le mk pg a n
    simp only [zcho]
    split <;> omega
theorem zcom_pos {mk : Nat → Int32} {i : Nat} (h : 0 < i) : zcom mk i = zcom mk (i - 1) + (if mk i = -1 then 1 else 0) := by
  cases i with
  | zero => omega
  | succ n => rfl
def zful (mt mf : Nat → Bool) : Nat → Nat
  | 0 => 0
  | n + 1 => zful mt mf n + (if mt (n + 1) = true ∧ mf (n + 1) = true then 1 else 0)
theorem zful_pos {mt mf : Nat → Bool} {i : Nat} (h : 0 < i) : zful mt mf i = zful mt mf (i - 1) + (if mt i = true ∧ mf i = true then 1 else 0) := by
  cases i with
  | zero => omega
  | succ n => rfl
theorem zful_le (mt mf : Nat → Bool) : ∀ n, zful mt mf n ≤ n
  | 0 => Nat.le_refl _
  | n + 1 => by
    have := zful_le mt mf n
    simp only [zful]
    split <;> omega
/-- what a place for an image's number can hold -/
def okc (x : Int32) : Prop := x = -1 ∨ (x = nI (kN x) ∧ kN x ≤ 1000)
theorem kN_m1 : kN (-1) = 0 := by decide
theorem okc_le {x : Int32} {n : Nat} (h : okc x) (hn : n < 2 ^ 31) : x ≤ nI n ↔ kN x ≤ n := by
  rcases h with h | ⟨h1, h2⟩
  · subst h
    rw [kN_m1]
    refine ⟨fun _ => Nat.zero_le _, fun _ => ?_⟩
    rw [Int32.le_iff_toInt_le, nI_toInt hn]
    have : (-1 : Int32).toInt = -1 := by decide
    omega
  · have := nI_leI (a := kN x) (b := n) (by omega) hn
    rw [← h1] at this
    exact this
def zbst (mt : Nat → Bool) (cp : Nat → Int32) (pg b0 : Nat) : Nat → Nat
  | 0 => b0
  | n + 1 => if mt (n + 1) = true then max (zbst mt cp pg b0 n) (kN (cp ((n + 1) * 8 + pg))) else zbst mt cp pg b0 n
theorem zbst_pos {mt : Nat → Bool} {cp : Nat → Int32} {pg b0 i : Nat} (h : 0 < i) : zbst mt cp pg b0 i = if mt i = true then max (zbst mt cp pg b0 (i - 1)) (kN (cp (i * 8 + pg))) else zbst mt cp pg b0 (i - 1) := by
  cases i with
  | zero => omega
  | succ n => rfl
set_option maxHeartbeats 4000000 in
set_option maxRecDepth 100000 in
theorem c_Md_in (l : Launch) (dC : Nat → ClassId) (dI : Nat → Nat → Nat) (cT : Nat → ClassId) (x : Int32) (n : Nat) : Met l y_Md_in w_Md_in ({ frames := 0, cells := 0, slots := 0, locals := 0 } : Room) (zPreR (dC, dI) vwCl (zT cT) [.int x, .int (nI n)] ([])) (k2_QcV (.int (zb (isIn x n)))) 0 0 (fun _ => False) := by
  refine Met.ofW (cc := b_Md_in) (maxL := 2) (ret := (some .boolean)) (by decide) rfl ?_
  intro p e s m args below meth c s₁ B hml hv
  obtain ⟨rfl, hP, hK, hE⟩ := hv
  have hx := B.exec
  have hb := B.bytes
  have hr := B.returns
  have hts := fun w h => atoms_spec (ws := w_Md_in) B.pre w (List.mem_cons_of_mem _ h)
  have hown : s.vm.findClass R_Md = some m.cls := findClass_of_methodNamed B.named
  have hlocks := B.notSynchronized
  have hl := lv_entry ([.int x, .int (nI n)]) (n := 2) (Nat.le_of_ble_eq_true rfl)
  rw [lg_entry_eq]
  generalize (lg_sl ([.int x, .int (nI n)]) ++ List.replicate (2 - (lg_sl ([.int x, .int (nI n)])).length) Slot.unset).toArray = ls at hl ⊢
  have hl : lv_has ls 2 [(0, .int x), (1, .int (nI n))] := hl
  refine lv_iload_n hx hb d_Md_in_0 rfl (lv_at hl 0 rfl) ?_
  refine lv_if_lt (tgt := 13) hx hb d_Md_in_1 (by decide) (fun c_1 => ?_) (fun c_1 => ?_)
  · refine lv_iconst (v := (nI 0)) hx hb d_Md_in_13 (by decide) ?_
    refine W.eq (g2 := F0 m 14 ls [.int (zb false)]) rfl ?_
    exact W.zret hx hb hr (zb_narrow _) (fun t ht hW => ⟨by rw [isIn_f1 c_1], ht⟩) (fun q h => by cases h) d_Md_in_14
  · refine lv_iload_n hx hb d_Md_in_4 rfl (lv_at hl 0 rfl) ?_
    refine lv_iload_n hx hb d_Md_in_5 rfl (lv_at hl 1 rfl) ?_
    refine lv_icmp_ge (tgt := 13) hx hb d_Md_in_6 (by decide) (fun c_6 => ?_) (fun c_6 => ?_)
    · refine lv_iconst (v := (nI 0)) hx hb d_Md_in_13 (by decide) ?_
      refine W.eq (g2 := F0 m 14 ls [.int (zb false)]) rfl ?_
      exact W.zret hx hb hr (zb_narrow _) (fun t ht hW => ⟨by rw [isIn_f2 c_6], ht⟩) (fun q h => by cases h) d_Md_in_14
    · refine lv_iconst (v := (nI 1)) hx hb d_Md_in_9 (by decide) ?_
      refine lv_goto (tgt := 14) hx hb d_Md_in_10 (by decide) ?_
      refine W.eq (g2 := F0 m 14 ls [.int (zb true)]) rfl ?_
      exact W.zret hx hb hr (zb_narrow _) (fun t ht hW => ⟨by rw [isIn_t c_1 c_6], ht⟩) (fun q h => by cases h) d_Md_in_14
set_option maxHeartbeats 4000000 in
set_option maxRecDepth 100000 in
theorem c_Md_room (l : Launch) (dC : Nat → ClassId) (dI : Nat → Nat → Nat) (cT : Nat → ClassId) (h0 : Nat) (mS : Nat) (mQ : Nat) (gK : Nat) (gV : Nat) (gH : Nat) (mL : Nat) (mo : Bool) (gM : Nat) (mch : Nat) (mA : Nat) (mP : Nat) (gI : Nat) (gR : Nat) (gT : Nat) (gF : Nat) (gS : Nat) (gE : Nat) (gC : Nat) (mB : Nat) (ml : Int32) (mz : Int32) (hr0 : mL ≤ (mA + 4) * mS) : Met l y_Md_room w_Md_room ({ frames := 0, cells := 0, slots := 0, locals := 0 } : Room) (zPreR (dC, dI) vwCl (zT cT) [.ref h0] ([(h0, .inr (6, [.int (nI mS), .int (nI mQ), .ref gK, .ref gV, .ref gH, .int (nI mL), .int (zb mo), .ref gM, .int (nI mch), .int (nI mA), .int (nI mP), .ref gI, .ref gR, .ref gT, .ref gF, .ref gS, .ref gE, .ref gC, .int (nI mB), .int ml, .int mz]))])) (k2_QcV (.int (nI ((mA + 4) * mS - mL)))) 0 0 (fun _ => False) := by
  refine Met.ofW (cc := b_Md_room) (maxL := 1) (ret := (some .int)) (by decide) rfl ?_
  intro p e s m args below meth c s₁ B hml hv
  obtain ⟨rfl, hP, hK, hE⟩ := hv
  have hx := B.exec
  have hb := B.bytes
  have hr := B.returns
  have hts := fun w h => atoms_spec (ws := w_Md_room) B.pre w (List.mem_cons_of_mem _ h)
  have hown : s.vm.findClass R_Md = some m.cls := findClass_of_methodNamed B.named
  have hlocks := B.notSynchronized
  have hl := lv_entry ([.ref h0]) (n := 1) (Nat.le_of_ble_eq_true rfl)
  rw [lg_entry_eq]
  generalize (lg_sl ([.ref h0]) ++ List.replicate (1 - (lg_sl ([.ref h0])).length) Slot.unset).toArray = ls at hl ⊢
  have hl : lv_has ls 1 [(0, .ref h0)] := hl
  refine lv_aload_n hx hb d_Md_room_0 rfl (lv_at hl 0 rfl) ?_
  refine va_get (D := (dC, dI)) (ci := 6) (v := .int (nI mA)) (C := R_Md) (T := F_Md) (N := 21) hx hb hts i_Md hown hK hP 0 rfl rfl 9 (by decide) (hts _ wd_572) (fun _ h9 => h9) rfl d_Md_room_1 ?_
  refine lv_iconst (v := (nI 4)) hx hb d_Md_room_4 (by decide) ?_
  refine zn_iadd hx hb d_Md_room_5 ?_
  refine lv_aload_n hx hb d_Md_room_6 rfl (lv_at hl 0 rfl) ?_
  refine va_get (D := (dC, dI)) (ci := 6) (v := .int (nI mS)) (C := R_Md) (T := F_Md) (N := 21) hx hb hts i_Md hown hK hP 0 rfl rfl 0 (by decide) (hts _ wd_563) (fun _ h9 => h9) rfl d_Md_room_7 ?_
  refine zn_imul hx hb d_Md_room_10 ?_
  refine lv_aload_n hx hb d_Md_room_11 rfl (lv_at hl 0 rfl) ?_
  refine va_get (D := (dC, dI)) (ci := 6) (v := .int (nI mL)) (C := R_Md) (T := F_Md) (N := 21) hx hb hts i_Md hown hK hP 0 rfl rfl 5 (by decide) (hts _ wd_568) (fun _ h9 => h9) rfl d_Md_room_12 ?_
  refine zn_isub hx hb (by omega) d_Md_room_15 ?_
  exact W.iret hx hb hr (fun t ht hW => ⟨rfl, ht⟩) (fun q h => by cases h) d_Md_room_16
set_option maxHeartbeats 4000000 in
set_option maxRecDepth 100000 in
theorem c_Md_begun (l : Launch) (dC : Nat → ClassId) (dI : Nat → Nat → Nat) (cT : Nat → ClassId) (h0 : Nat) (mS : Nat) (mQ : Nat) (gK : Nat) (gV : Nat) (gH : Nat) (mL : Nat) (mo : Bool) (gM : Nat) (mch : Nat) (mA : Nat) (mP : Nat) (gI : Nat) (gR : Nat) (gT : Nat) (gF : Nat) (gS : Nat) (gE : Nat) (gC : Nat) (mB : Nat) (ml : Int32) (mz : Int32) (hL : mL ≤ 1000) (hs0 : 0 < mS) (hs8 : mS ≤ 8) : Met l y_Md_begun w_Md_begun ({ frames := 0, cells := 0, slots := 0, locals := 0 } : Room) (zPreR (dC, dI) vwCl (zT cT) [.ref h0] ([(h0, .inr (6, [.int (nI mS), .int (nI mQ), .ref gK, .ref gV, .ref gH, .int (nI mL), .int (zb mo), .ref gM, .int (nI mch), .int (nI mA), .int (nI mP), .ref gI, .ref gR, .ref gT, .ref gF, .ref gS, .ref gE, .ref gC, .int (nI mB), .int ml, .int mz]))])) (k2_QcV (.int (nI ((mL + mS - 1) / mS)))) 0 0 (fun _ => False) := by
  refine Met.ofW (cc := b_Md_begun) (maxL := 1) (ret := (some .int)) (by decide) rfl ?_
  intro p e s m args below meth c s₁ B hml hv
  obtain ⟨rfl, hP, hK, hE⟩ := hv
  have hx := B.exec
  have hb := B.bytes
  have hr := B.returns
  have hts := fun w h => atoms_spec (ws := w_Md_begun) B.pre w (List.mem_cons_of_mem _ h)
  have hown : s.vm.findClass R_Md = some m.cls := findClass_of_methodNamed B.named
  have hlocks := B.notSynchronized
  have hl := lv_entry ([.ref h0]) (n := 1) (Nat.le_of_ble_eq_true rfl)
  rw [lg_entry_eq]
  generalize (lg_sl ([.ref h0]) ++ List.replicate (1 - (lg_sl ([.ref h0])).length) Slot.unset).toArray = ls at hl ⊢
  have hl : lv_has ls 1 [(0, .ref h0)] := hl
  refine lv_aload_n hx hb d_Md_begun_0 rfl (lv_at hl 0 rfl) ?_
  refine va_get (D := (dC, dI)) (ci := 6) (v := .int (nI mL)) (C := R_Md) (T := F_Md) (N := 21) hx hb hts i_Md hown hK hP 0 rfl rfl 5 (by decide) (hts _ wd_568) (fun _ h9 => h9) rfl d_Md_begun_1 ?_
  refine lv_aload_n hx hb d_Md_begun_4 rfl (lv_at hl 0 rfl) ?_
  refine va_get (D := (dC, dI)) (ci := 6) (v := .int (nI mS)) (C := R_Md) (T := F_Md) (N := 21) hx hb hts i_Md hown hK hP 0 rfl rfl 0 (by decide) (hts _ wd_563) (fun _ h9 => h9) rfl d_Md_begun_5 ?_
  refine zn_iadd hx hb d_Md_begun_8 ?_
  refine lv_iconst (v := (nI 1)) hx hb d_Md_begun_9 (by decide) ?_
  refine zn_isub hx hb (by omega) d_Md_begun_10 ?_
  refine lv_aload_n hx hb d_Md_begun_11 rfl (lv_at hl 0 rfl) ?_
  refine va_get (D := (dC, dI)) (ci := 6) (v := .int (nI mS)) (C := R_Md) (T := F_Md) (N := 21) hx hb hts i_Md hown hK hP 0 rfl rfl 0 (by decide) (hts _ wd_563) (fun _ h9 => h9) rfl d_Md_begun_12 ?_
  refine zn_idiv hx hb (by omega) (by omega) (by omega) d_Md_begun_15 ?_
  exact W.iret hx hb hr (fun t ht hW => ⟨rfl, ht⟩) (fun q h => by cases h) d_Md_begun_16
set_option maxHeartbeats 4000000 in
set_option maxRecDepth 100000 in
theorem c_Md_log (l : Launch) (dC : Nat → ClassId) (dI : Nat → Nat → Nat) (cT : Nat → ClassId) (sz : Nat) (h0 : Nat) (mS : Nat) (mQ : Nat) (gK : Nat) (gV : Nat) (gH : Nat) (mL : Nat) (mo : Bool) (gM : Nat) (mch : Nat) (mA : Nat) (mP : Nat) (gI : Nat) (gR : Nat) (gT : Nat) (gF : Nat) (gS : Nat) (gE : Nat) (gC : Nat) (mB : Nat) (ml : Int32) (mz : Int32) (k : Int32) (v : Int32) (b : Bool) (mk : Nat → Int32) (mv : Nat → Int32) (mh : Nat → Bool) (hL : mL < 1000) : Met l y_Md_log w_Md_log ({ frames := 0, cells := 0, slots := 0, locals := 0 } : Room) (zPre (dC, dI) vwCl (zT cT) [.ref h0, .int k, .int v, .int (zb b)] ([(h0, .inr (6, [.int (nI mS), .int (nI mQ), .ref gK, .ref gV, .ref gH, .int (nI mL), .int (zb mo), .ref gM, .int (nI mch), .int (nI mA), .int (nI mP), .ref gI, .ref gR, .ref gT, .ref gF, .ref gS, .ref gE, .ref gC, .int (nI mB), .int ml, .int mz])), (gK, .inl (cT 0, 1100, .inl mk)), (gV, .inl (cT 0, 1100, .inl mv)), (gH, .inl (cT 2, 1100, .inl (fun j => zb (mh j))))]) sz) (zQ (dC, dI) vwCl (S := Unit) (fun zu => True) (fun zu => some (.int (nI (mL + 1)))) (fun zu => [(h0, .inr (6, [.int (nI mS), .int (nI mQ), .ref gK, .ref gV, .ref gH, .int (nI (mL + 1)), .int (zb mo), .ref gM, .int (nI mch), .int (nI mA), .int (nI mP), .ref gI, .ref gR, .ref gT, .ref gF, .ref gS, .ref gE, .ref gC, .int (nI mB), .int ml, .int mz])), (gK, .inl (cT 0, 1100, .inl (va_up mk (mL + 1) k))), (gV, .inl (cT 0, 1100, .inl (va_up mv (mL + 1) v))), (gH, .inl (cT 2, 1100, .inl (fun j => zb ((va_up mh (mL + 1) b) j))))]) (va_A ([(h0, .inr (6, [.int (nI mS), .int (nI mQ), .ref gK, .ref gV, .ref gH, .int (nI mL), .int (zb mo), .ref gM, .int (nI mch), .int (nI mA), .int (nI mP), .ref gI, .ref gR, .ref gT, .ref gF, .ref gS, .ref gE, .ref gC, .int (nI mB), .int ml, .int mz])), (gK, .inl (cT 0, 1100, .inl mk)), (gV, .inl (cT 0, 1100, .inl mv)), (gH, .inl (cT 2, 1100, .inl (fun j => zb (mh j))))]) sz)) 0 0 (va_A ([(h0, .inr (6, [.int (nI mS), .int (nI mQ), .ref gK, .ref gV, .ref gH, .int (nI mL), .int (zb mo), .ref gM, .int (nI mch), .int (nI mA), .int (nI mP), .ref gI, .ref gR, .ref gT, .ref gF, .ref gS, .ref gE, .ref gC, .int (nI mB), .int ml, .int mz])), (gK, .inl (cT 0, 1100, .inl mk)), (gV, .inl (cT 0, 1100, .inl mv)), (gH, .inl (cT 2, 1100, .inl (fun j => zb (mh j))))]) sz) := by
  refine Met.ofW (cc := b_Md_log) (maxL := 4) (ret := (some .int)) (by decide) rfl ?_
  intro p e s m args below meth c s₁ B hml hv
  obtain ⟨rfl, hsz, hP, hK, hD0, hE⟩ := hv
  have hx := B.exec
  have hb := B.bytes
  have hr := B.returns
  have hts := fun w h => atoms_spec (ws := w_Md_log) B.pre w (List.mem_cons_of_mem _ h)
  have hown : s.vm.findClass R_Md = some m.cls := findClass_of_methodNamed B.named
  have hlocks := B.notSynchronized
  subst hsz
  have hD := hD0.self (sz := s.heap.size)
  generalize hAe : va_A ([(h0, .inr (6, [.int (nI mS), .int (nI mQ), .ref gK, .ref gV, .ref gH, .int (nI mL), .int (zb mo), .ref gM, .int (nI mch), .int (nI mA), .int (nI mP), .ref gI, .ref gR, .ref gT, .ref gF, .ref gS, .ref gE, .ref gC, .int (nI mB), .int ml, .int mz])), (gK, .inl (cT 0, 1100, .inl mk)), (gV, .inl (cT 0, 1100, .inl mv)), (gH, .inl (cT 2, 1100, .inl (fun j => zb (mh j))))]) s.heap.size = A at hD ⊢
  have hA : ∀ q : Nat, s.heap.size ≤ q → A q := fun q h => by rw [← hAe]; exact Or.inr h
  have hS : va_S A s.heap s.heap [] := va_S.rf
  have hl := lv_entry ([.ref h0, .int k, .int v, .int (zb b)]) (n := 4) (Nat.le_of_ble_eq_true rfl)
  rw [lg_entry_eq]
  generalize (lg_sl ([.ref h0, .int k, .int v, .int (zb b)]) ++ List.replicate (4 - (lg_sl ([.ref h0, .int k, .int v, .int (zb b)])).length) Slot.unset).toArray = ls at hl ⊢
  have hl : lv_has ls 4 [(0, .ref h0), (1, .int k), (2, .int v), (3, .int (zb b))] := hl
  refine lv_aload_n hx hb d_Md_log_0 rfl (lv_at hl 0 rfl) ?_
  refine lv_dup hx hb d_Md_log_1 rfl ?_
  refine va_get (D := (dC, dI)) (ci := 6) (v := .int (nI mL)) (C := R_Md) (T := F_Md) (N := 21) hx hb hts i_Md hown hK hP 0 rfl rfl 5 (by decide) (hts _ wd_568) (fun _ h9 => h9) rfl d_Md_log_2 ?_
  refine lv_iconst (v := (nI 1)) hx hb d_Md_log_5 (by decide) ?_
  refine zn_iadd hx hb d_Md_log_6 ?_
  refine va_put (D := (dC, dI)) (ci := 6) (v := .int (nI (mL + 1))) (ty := .int) (C := R_Md) (T := F_Md) (N := 21) hx hb hts i_Md t_Md t_Md_ok n_Md hown hK hP hD hS 0 rfl rfl 5 (by decide) (hts _ wd_568) (fun _ h9 => h9) rfl (by decide +kernel) rfl rfl (Nat.le_of_ble_eq_true rfl) d_Md_log_7 (fun H locs hP hD hS => ?_)
  have hP : va_P (dC, dI) vwCl ([(h0, .inr (6, [.int (nI mS), .int (nI mQ), .ref gK, .ref gV, .ref gH, .int (nI (mL + 1)), .int (zb mo), .ref gM, .int (nI mch), .int (nI mA), .int (nI mP), .ref gI, .ref gR, .ref gT, .ref gF, .ref gS, .ref gE, .ref gC, .int (nI mB), .int ml, .int mz])), (gK, .inl (cT 0, 1100, .inl mk)), (gV, .inl (cT 0, 1100, .inl mv)), (gH, .inl (cT 2, 1100, .inl (fun j => zb (mh j))))]) H := hP
  have hD : va_D A ([(h0, .inr (6, [.int (nI mS), .int (nI mQ), .ref gK, .ref gV, .ref gH, .int (nI (mL + 1)), .int (zb mo), .ref gM, .int (nI mch), .int (nI mA), .int (nI mP), .ref gI, .ref gR, .ref gT, .ref gF, .ref gS, .ref gE, .ref gC, .int (nI mB), .int ml, .int mz])), (gK, .inl (cT 0, 1100, .inl mk)), (gV, .inl (cT 0, 1100, .inl mv)), (gH, .inl (cT 2, 1100, .inl (fun j => zb (mh j))))]) := hD
  refine lv_aload_n hx hb d_Md_log_10 rfl (lv_at hl 0 rfl) ?_
  refine va_get (D := (dC, dI)) (ci := 6) (v := .ref gK) (C := R_Md) (T := F_Md) (N := 21) hx hb hts i_Md hown hK hP 0 rfl rfl 2 (by decide) (hts _ wd_565) (fun _ h9 => h9) rfl d_Md_log_11 ?_
  refine lv_aload_n hx hb d_Md_log_14 rfl (lv_at hl 0 rfl) ?_
  refine va_get (D := (dC, dI)) (ci := 6) (v := .int (nI (mL + 1))) (C := R_Md) (T := F_Md) (N := 21) hx hb hts i_Md hown hK hP 0 rfl rfl 5 (by decide) (hts _ wd_568) (fun _ h9 => h9) rfl d_Md_log_15 ?_
  refine lv_iload_n hx hb d_Md_log_18 rfl (lv_at hl 1 rfl) ?_
  refine zn_iast hx hb hK hP hD hS 1 0 rfl rfl (i := mL + 1) (x := k) (by omega) (by omega) d_Md_log_19 (fun H locs hP hD hS => ?_)
  have hP : va_P (dC, dI) vwCl ([(h0, .inr (6, [.int (nI mS), .int (nI mQ), .ref gK, .ref gV, .ref gH, .int (nI (mL + 1)), .int (zb mo), .ref gM, .int (nI mch), .int (nI mA), .int (nI mP), .ref gI, .ref gR, .ref gT, .ref gF, .ref gS, .ref gE, .ref gC, .int (nI mB), .int ml, .int mz])), (gK, .inl (cT 0, 1100, .inl (va_up mk (mL + 1) k))), (gV, .inl (cT 0, 1100, .inl mv)), (gH, .inl (cT 2, 1100, .inl (fun j => zb (mh j))))]) H := hP
  have hD : va_D A ([(h0, .inr (6, [.int (nI mS), .int (nI mQ), .ref gK, .ref gV, .ref gH, .int (nI (mL + 1)), .int (zb mo), .ref gM, .int (nI mch), .int (nI mA), .int (nI mP), .ref gI, .ref gR, .ref gT, .ref gF, .ref gS, .ref gE, .ref gC, .int (nI mB), .int ml, .int mz])), (gK, .inl (cT 0, 1100, .inl (va_up mk (mL + 1) k))), (gV, .inl (cT 0, 1100, .inl mv)), (gH, .inl (cT 2, 1100, .inl (fun j => zb (mh j))))]) := hD
  refine lv_aload_n hx hb d_Md_log_20 rfl (lv_at hl 0 rfl) ?_
  refine va_get (D := (dC, dI)) (ci := 6) (v := .ref gV) (C := R_Md) (T := F_Md) (N := 21) hx hb hts i_Md hown hK hP 0 rfl rfl 3 (by decide) (hts _ wd_566) (fun _ h9 => h9) rfl d_Md_log_21 ?_
  refine lv_aload_n hx hb d_Md_log_24 rfl (lv_at hl 0 rfl) ?_
  refine va_get (D := (dC, dI)) (ci := 6) (v := .int (nI (mL + 1))) (C := R_Md) (T := F_Md) (N := 21) hx hb hts i_Md hown hK hP 0 rfl rfl 5 (by decide) (hts _ wd_568) (fun _ h9 => h9) rfl d_Md_log_25 ?_
  refine lv_iload_n hx hb d_Md_log_28 rfl (lv_at hl 2 rfl) ?_
  refine zn_iast hx hb hK hP hD hS 2 0 rfl rfl (i := mL + 1) (x := v) (by omega) (by omega) d_Md_log_29 (fun H locs hP hD hS => ?_)
  have hP : va_P (dC, dI) vwCl ([(h0, .inr (6, [.int (nI mS), .int (nI mQ), .ref gK, .ref gV, .ref gH, .int (nI (mL + 1)), .int (zb mo), .ref gM, .int (nI mch), .int (nI mA), .int (nI mP), .ref gI, .ref gR, .ref gT, .ref gF, .ref gS, .ref gE, .ref gC, .int (nI mB), .int ml, .int mz])), (gK, .inl (cT 0, 1100, .inl (va_up mk (mL + 1) k))), (gV, .inl (cT 0, 1100, .inl (va_up mv (mL + 1) v))), (gH, .inl (cT 2, 1100, .inl (fun j => zb (mh j))))]) H := hP
  have hD : va_D A ([(h0, .inr (6, [.int (nI mS), .int (nI mQ), .ref gK, .ref gV, .ref gH, .int (nI (mL + 1)), .int (zb mo), .ref gM, .int (nI mch), .int (nI mA), .int (nI mP), .ref gI, .ref gR, .ref gT, .ref gF, .ref gS, .ref gE, .ref gC, .int (nI mB), .int ml, .int mz])), (gK, .inl (cT 0, 1100, .inl (va_up mk (mL + 1) k))), (gV, .inl (cT 0, 1100, .inl (va_up mv (mL + 1) v))), (gH, .inl (cT 2, 1100, .inl (fun j => zb (mh j))))]) := hD
  refine lv_aload_n hx hb d_Md_log_30 rfl (lv_at hl 0 rfl) ?_
  refine va_get (D := (dC, dI)) (ci := 6) (v := .ref gH) (C := R_Md) (T := F_Md) (N := 21) hx hb hts i_Md hown hK hP 0 rfl rfl 4 (by decide) (hts _ wd_567) (fun _ h9 => h9) rfl d_Md_log_31 ?_
  refine lv_aload_n hx hb d_Md_log_34 rfl (lv_at hl 0 rfl) ?_
  refine va_get (D := (dC, dI)) (ci := 6) (v := .int (nI (mL + 1))) (C := R_Md) (T := F_Md) (N := 21) hx hb hts i_Md hown hK hP 0 rfl rfl 5 (by decide) (hts _ wd_568) (fun _ h9 => h9) rfl d_Md_log_35 ?_
  refine lv_iload_n hx hb d_Md_log_38 rfl (lv_at hl 3 rfl) ?_
  refine zn_zastB hx hb hK hP hD hS 3 2 rfl rfl (i := mL + 1) (x := b) (by omega) (by omega) d_Md_log_39 (fun H locs hP hD hS => ?_)
  have hP : va_P (dC, dI) vwCl ([(h0, .inr (6, [.int (nI mS), .int (nI mQ), .ref gK, .ref gV, .ref gH, .int (nI (mL + 1)), .int (zb mo), .ref gM, .int (nI mch), .int (nI mA), .int (nI mP), .ref gI, .ref gR, .ref gT, .ref gF, .ref gS, .ref gE, .ref gC, .int (nI mB), .int ml, .int mz])), (gK, .inl (cT 0, 1100, .inl (va_up mk (mL + 1) k))), (gV, .inl (cT 0, 1100, .inl (va_up mv (mL + 1) v))), (gH, .inl (cT 2, 1100, .inl (fun j => zb ((va_up mh (mL + 1) b) j))))]) H := hP
  have hD : va_D A ([(h0, .inr (6, [.int (nI mS), .int (nI mQ), .ref gK, .ref gV, .ref gH, .int (nI (mL + 1)), .int (zb mo), .ref gM, .int (nI mch), .int (nI mA), .int (nI mP), .ref gI, .ref gR, .ref gT, .ref gF, .ref gS, .ref gE, .ref gC, .int (nI mB), .int ml, .int mz])), (gK, .inl (cT 0, 1100, .inl (va_up mk (mL + 1) k))), (gV, .inl (cT 0, 1100, .inl (va_up mv (mL + 1) v))), (gH, .inl (cT 2, 1100, .inl (fun j => zb ((va_up mh (mL + 1) b) j))))]) := hD
  refine lv_aload_n hx hb d_Md_log_40 rfl (lv_at hl 0 rfl) ?_
  refine va_get (D := (dC, dI)) (ci := 6) (v := .int (nI (mL + 1))) (C := R_Md) (T := F_Md) (N := 21) hx hb hts i_Md hown hK hP 0 rfl rfl 5 (by decide) (hts _ wd_568) (fun _ h9 => h9) rfl d_Md_log_41 ?_
  have hP9 := hP.sub (ws' := [(h0, .inr (6, [.int (nI mS), .int (nI mQ), .ref gK, .ref gV, .ref gH, .int (nI (mL + 1)), .int (zb mo), .ref gM, .int (nI mch), .int (nI mA), .int (nI mP), .ref gI, .ref gR, .ref gT, .ref gF, .ref gS, .ref gE, .ref gC, .int (nI mB), .int ml, .int mz])), (gK, .inl (cT 0, 1100, .inl (va_up mk (mL + 1) k))), (gV, .inl (cT 0, 1100, .inl (va_up mv (mL + 1) v))), (gH, .inl (cT 2, 1100, .inl (fun j => zb ((va_up mh (mL + 1) b) j))))]) [0, 1, 2, 3] rfl
  have hD9 := hD.sub (ws' := [(h0, .inr (6, [.int (nI mS), .int (nI mQ), .ref gK, .ref gV, .ref gH, .int (nI (mL + 1)), .int (zb mo), .ref gM, .int (nI mch), .int (nI mA), .int (nI mP), .ref gI, .ref gR, .ref gT, .ref gF, .ref gS, .ref gE, .ref gC, .int (nI mB), .int ml, .int mz])), (gK, .inl (cT 0, 1100, .inl (va_up mk (mL + 1) k))), (gV, .inl (cT 0, 1100, .inl (va_up mv (mL + 1) v))), (gH, .inl (cT 2, 1100, .inl (fun j => zb ((va_up mh (mL + 1) b) j))))]) [0, 1, 2, 3] (by decide) rfl
  exact W.iret hx hb hr (fun t ht hW => ⟨⟨(), trivial, rfl, by rw [ht]; exact hP9, hD9⟩, hS.F ht⟩) hS.2.2 d_Md_log_44
set_option maxHeartbeats 4000000 in
set_option maxRecDepth 100000 in
theorem c_Md_after (l : Launch) (dC : Nat → ClassId) (dI : Nat → Nat → Nat) (cT : Nat → ClassId) (h0 : Nat) (mS : Nat) (mQ : Nat) (gK : Nat) (gV : Nat) (gH : Nat) (mL : Nat) (mo : Bool) (gM : Nat) (mch : Nat) (mA : Nat) (mP : Nat) (gI : Nat) (gR : Nat) (gT : Nat) (gF : Nat) (gS : Nat) (gE : Nat) (gC : Nat) (mB : Nat) (ml : Int32) (mz : Int32) (u : Nat) (k : Int32) (mk : Nat → Int32) (mv : Nat → Int32) (mh : Nat → Bool) (hu : u ≤ 1000) : Met l y_Md_after w_Md_after ({ frames := 0, cells := 0, slots := 0, locals := 0 } : Room) (zPreR (dC, dI) vwCl (zT cT) [.ref h0, .int (nI u), .int k] ([(h0, .inr (6, [.int (nI mS), .int (nI mQ), .ref gK, .ref gV, .ref gH, .int (nI mL), .int (zb mo), .ref gM, .int (nI mch), .int (nI mA), .int (nI mP), .ref gI, .ref gR, .ref gT, .ref gF, .ref gS, .ref gE, .ref gC, .int (nI mB), .int ml, .int mz])), (gK, .inl (cT 0, 1100, .inl mk)), (gV, .inl (cT 0, 1100, .inl mv)), (gH, .inl (cT 2, 1100, .inl (fun j => zb (mh j))))])) (k2_QcV (.long (zaf mk mv mh k u))) 0 0 (fun _ => False) := by
  refine Met.ofW (cc := b_Md_after) (maxL := 4) (ret := (some .long)) (by decide) rfl ?_
  intro p e s m args below meth c s₁ B hml hv
  obtain ⟨rfl, hP, hK, hE⟩ := hv
  have hx := B.exec
  have hb := B.bytes
  have hr := B.returns
  have hts := fun w h => atoms_spec (ws := w_Md_after) B.pre w (List.mem_cons_of_mem _ h)
  have hown : s.vm.findClass R_Md = some m.cls := findClass_of_methodNamed B.named
  have hlocks := B.notSynchronized
  have hl := lv_entry ([.ref h0, .int (nI u), .int k]) (n := 4) (Nat.le_of_ble_eq_true rfl)
  rw [lg_entry_eq]
  generalize (lg_sl ([.ref h0, .int (nI u), .int k]) ++ List.replicate (4 - (lg_sl ([.ref h0, .int (nI u), .int k])).length) Slot.unset).toArray = ls at hl ⊢
  have hl : lv_has ls 4 [(0, .ref h0), (1, .int (nI u)), (2, .int k)] := hl
  refine lv_iload_n hx hb d_Md_after_0 rfl (lv_at hl 1 rfl) ?_
  refine lv_istore_n (lv' := [(3, .int (nI u)), (0, .ref h0), (1, .int (nI u)), (2, .int k)]) hx hb d_Md_after_1 rfl hl (by decide) rfl (fun ls hl => ?_)
  have loop_2 : ∀ (fu : Nat) (i : Nat), i < fu → (i ≤ u) → (zaf mk mv mh k u = zaf mk mv mh k i) → ∀ (ls : Array Slot), lv_has ls 4 [(0, .ref h0), (2, .int k), (3, .int (nI i))] → W p l e (headSpec w_Md_after ({ frames := 0, cells := 0, slots := 0, locals := 0 } : Room)).room s m ([.ref h0, .int (nI u), .int k] : List Value).toArray below meth c s.heap [] 0 0 (MQ below (k2_QcV (.long (zaf mk mv mh k u))) ([.ref h0, .int (nI u), .int k] : List Value).toArray s 0 0 (fun _ => False)) (F0 m 2 ls []) := by
    intro fu
    induction fu with
    | zero => intro _ hm; exact absurd hm (Nat.not_lt_zero _)
    | succ fu ih =>
      intro i hm h1 h2 ls hl
      refine lv_iload_n hx hb d_Md_after_2 rfl (lv_at hl 2 rfl) ?_
      refine zn_if_le (tgt := 45) hx hb (a := i) (by omega) d_Md_after_3 (by decide) (fun c_3 => ?_) (fun c_3 => ?_)
      · refine lv_ldc2 (v := 1000000000000) hx hb hown (hts _ wd_666) d_Md_after_45 ?_
        exact W.lret hx hb hr (fun t ht hW => ⟨by rw [h2, c_3]; rfl, ht⟩) (fun q h => by cases h) d_Md_after_48
      · refine lv_aload_n hx hb d_Md_after_6 rfl (lv_at hl 0 rfl) ?_
        refine va_get (D := (dC, dI)) (ci := 6) (v := .ref gK) (C := R_Md) (T := F_Md) (N := 21) hx hb hts i_Md hown hK hP 0 rfl rfl 2 (by decide) (hts _ wd_565) (fun _ h9 => h9) rfl d_Md_after_7 ?_
        refine lv_iload_n hx hb d_Md_after_10 rfl (lv_at hl 2 rfl) ?_
        refine zn_iald hx hb hK hP 1 0 rfl rfl (i := i) (by omega) (by omega) d_Md_after_11 ?_
        refine lv_iload_n hx hb d_Md_after_12 rfl (lv_at hl 1 rfl) ?_
        refine lv_icmp_ne (tgt := 39) hx hb d_Md_after_13 (by decide) (fun c_13 => ?_) (fun c_13 => ?_)
        · refine lv_iinc (v := (nI (i - 1))) (lv' := [(3, .int (nI (i - 1))), (0, .ref h0), (2, .int k)]) hx hb d_Md_after_39 hl (k := 2) rfl (sb_m1 (by omega)) (by decide) rfl (fun ls hl => ?_)
          refine lv_goto (tgt := 2) hx hb d_Md_after_42 (by decide) ?_
          exact ih (i - 1) (by omega) (by first | omega | assumption) (by rw [h2, zaf_pos c_3, if_neg c_13]) ls (lv_sub hl [1, 2, 0] rfl)
        · refine lv_aload_n hx hb d_Md_after_16 rfl (lv_at hl 0 rfl) ?_
          refine va_get (D := (dC, dI)) (ci := 6) (v := .ref gH) (C := R_Md) (T := F_Md) (N := 21) hx hb hts i_Md hown hK hP 0 rfl rfl 4 (by decide) (hts _ wd_567) (fun _ h9 => h9) rfl d_Md_after_17 ?_
          refine lv_iload_n hx hb d_Md_after_20 rfl (lv_at hl 2 rfl) ?_
          refine zn_zald hx hb hK hP 3 2 rfl rfl (i := i) (by omega) (by omega) d_Md_after_21 ?_
          refine zb_if_eq (tgt := 35) hx hb d_Md_after_22 (by decide) (fun c_22 => ?_) (fun c_22 => ?_)
          · refine lv_ldc2 (v := 1000000000000) hx hb hown (hts _ wd_666) d_Md_after_35 ?_
            exact W.lret hx hb hr (fun t ht hW => ⟨by rw [h2, zaf_pos c_3, if_pos c_13, if_neg (by rw [c_22]; decide)], ht⟩) (fun q h => by cases h) d_Md_after_38
          · refine lv_aload_n hx hb d_Md_after_25 rfl (lv_at hl 0 rfl) ?_
            refine va_get (D := (dC, dI)) (ci := 6) (v := .ref gV) (C := R_Md) (T := F_Md) (N := 21) hx hb hts i_Md hown hK hP 0 rfl rfl 3 (by decide) (hts _ wd_566) (fun _ h9 => h9) rfl d_Md_after_26 ?_
            refine lv_iload_n hx hb d_Md_after_29 rfl (lv_at hl 2 rfl) ?_
            refine zn_iald hx hb hK hP 2 0 rfl rfl (i := i) (by omega) (by omega) d_Md_after_30 ?_
            refine lv_i2l hx hb d_Md_after_31 rfl ?_
            refine lv_goto (tgt := 38) hx hb d_Md_after_32 (by decide) ?_
            exact W.lret hx hb hr (fun t ht hW => ⟨by rw [h2, zaf_pos c_3, if_pos c_13, if_pos c_22], ht⟩) (fun q h => by cases h) d_Md_after_38
  exact loop_2 (u + 1) u (by omega) (by first | omega | assumption) rfl ls (lv_sub hl [1, 3, 0] rfl)
set_option maxHeartbeats 4000000 in
set_option maxRecDepth 100000 in
theorem c_Md_numberOf (l : Launch) (dC : Nat → ClassId) (dI : Nat → Nat → Nat) (cT : Nat → ClassId) (h0 : Nat) (mS : Nat) (mQ : Nat) (gK : Nat) (gV : Nat) (gH : Nat) (mL : Nat) (mo : Bool) (gM : Nat) (mch : Nat) (mA : Nat) (mP : Nat) (gI : Nat) (gR : Nat) (gT : Nat) (gF : Nat) (gS : Nat) (gE : Nat) (gC : Nat) (mB : Nat) (ml : Int32) (mz : Int32) (pg : Nat) (mk : Nat → Int32) (hL : mL ≤ 1000) (hkey : ∀ i, 1 ≤ i → i ≤ mL → ¬ mk i < 0 → isIn (mk i) 32 = true) (hp : pg < 8) : Met l y_Md_numberOf w_Md_numberOf ({ frames := 0, cells := 0, slots := 0, locals := 0 } : Room) (zPreR (dC, dI) vwCl (zT cT) [.ref h0, .int (nI pg)] ([(h0, .inr (6, [.int (nI mS), .int (nI mQ), .ref gK, .ref gV, .ref gH, .int (nI mL), .int (zb mo), .ref gM, .int (nI mch), .int (nI mA), .int (nI mP), .ref gI, .ref gR, .ref gT, .ref gF, .ref gS, .ref gE, .ref gC, .int (nI mB), .int ml, .int mz])), (gK, .inl (cT 0, 1100, .inl mk))])) (k2_QcV (.int (nI (znum mk pg mL)))) 0 0 (fun _ => False) := by
  refine Met.ofW (cc := b_Md_numberOf) (maxL := 3) (ret := (some .int)) (by decide) rfl ?_
  intro p e s m args below meth c s₁ B hml hv
  obtain ⟨rfl, hP, hK, hE⟩ := hv
  have hx := B.exec
  have hb := B.bytes
  have hr := B.returns
  have hts := fun w h => atoms_spec (ws := w_Md_numberOf) B.pre w (List.mem_cons_of_mem _ h)
  have hown : s.vm.findClass R_Md = some m.cls := findClass_of_methodNamed B.named
  have hlocks := B.notSynchronized
  have hl := lv_entry ([.ref h0, .int (nI pg)]) (n := 3) (Nat.le_of_ble_eq_true rfl)
  rw [lg_entry_eq]
  generalize (lg_sl ([.ref h0, .int (nI pg)]) ++ List.replicate (3 - (lg_sl ([.ref h0, .int (nI pg)])).length) Slot.unset).toArray = ls at hl ⊢
  have hl : lv_has ls 3 [(0, .ref h0), (1, .int (nI pg))] := hl
  refine lv_aload_n hx hb d_Md_numberOf_0 rfl (lv_at hl 0 rfl) ?_
  refine va_get (D := (dC, dI)) (ci := 6) (v := .int (nI mL)) (C := R_Md) (T := F_Md) (N := 21) hx hb hts i_Md hown hK hP 0 rfl rfl 5 (by decide) (hts _ wd_568) (fun _ h9 => h9) rfl d_Md_numberOf_1 ?_
  refine lv_istore_n (lv' := [(2, .int (nI mL)), (0, .ref h0), (1, .int (nI pg))]) hx hb d_Md_numberOf_4 rfl hl (by decide) rfl (fun ls hl => ?_)
  have loop_5 : ∀ (fu : Nat) (i : Nat), i < fu → (i ≤ mL) → (znum mk pg mL = znum mk pg i) → ∀ (ls : Array Slot), lv_has ls 3 [(0, .ref h0), (1, .int (nI pg)), (2, .int (nI i))] → W p l e (headSpec w_Md_numberOf ({ frames := 0, cells := 0, slots := 0, locals := 0 } : Room)).room s m ([.ref h0, .int (nI pg)] : List Value).toArray below meth c s.heap [] 0 0 (MQ below (k2_QcV (.int (nI (znum mk pg mL)))) ([.ref h0, .int (nI pg)] : List Value).toArray s 0 0 (fun _ => False)) (F0 m 5 ls []) := by
    intro fu
    induction fu with
    | zero => intro _ hm; exact absurd hm (Nat.not_lt_zero _)
    | succ fu ih =>
      intro i hm h1 h2 ls hl
      refine lv_iload_n hx hb d_Md_numberOf_5 rfl (lv_at hl 2 rfl) ?_
      refine zn_if_le (tgt := 38) hx hb (a := i) (by omega) d_Md_numberOf_6 (by decide) (fun c_6 => ?_) (fun c_6 => ?_)
      · refine lv_iconst (v := (nI 0)) hx hb d_Md_numberOf_38 (by decide) ?_
        exact W.iret hx hb hr (fun t ht hW => ⟨by rw [h2, c_6]; rfl, ht⟩) (fun q h => by cases h) d_Md_numberOf_39
      · refine lv_aload_n hx hb d_Md_numberOf_9 rfl (lv_at hl 0 rfl) ?_
        refine va_get (D := (dC, dI)) (ci := 6) (v := .ref gK) (C := R_Md) (T := F_Md) (N := 21) hx hb hts i_Md hown hK hP 0 rfl rfl 2 (by decide) (hts _ wd_565) (fun _ h9 => h9) rfl d_Md_numberOf_10 ?_
        refine lv_iload_n hx hb d_Md_numberOf_13 rfl (lv_at hl 2 rfl) ?_
        refine zn_iald hx hb hK hP 1 0 rfl rfl (i := i) (by omega) (by omega) d_Md_numberOf_14 ?_
        refine lv_if_lt (tgt := 32) hx hb d_Md_numberOf_15 (by decide) (fun c_15 => ?_) (fun c_15 => ?_)
        · refine lv_iinc (v := (nI (i - 1))) (lv' := [(2, .int (nI (i - 1))), (0, .ref h0), (1, .int (nI pg))]) hx hb d_Md_numberOf_32 hl (k := 2) rfl (sb_m1 (by omega)) (by decide) rfl (fun ls hl => ?_)
          refine lv_goto (tgt := 5) hx hb d_Md_numberOf_35 (by decide) ?_
          exact ih (i - 1) (by omega) (by first | omega | assumption) (by rw [h2, znum_pos c_6, if_neg (fun q => by rw [isIn_f1 c_15] at q; exact absurd q.1 (by decide))]) ls (lv_sub hl [1, 2, 0] rfl)
        · refine lv_aload_n hx hb d_Md_numberOf_18 rfl (lv_at hl 0 rfl) ?_
          refine va_get (D := (dC, dI)) (ci := 6) (v := .ref gK) (C := R_Md) (T := F_Md) (N := 21) hx hb hts i_Md hown hK hP 0 rfl rfl 2 (by decide) (hts _ wd_565) (fun _ h9 => h9) rfl d_Md_numberOf_19 ?_
          refine lv_iload_n hx hb d_Md_numberOf_22 rfl (lv_at hl 2 rfl) ?_
          refine zn_iald hx hb hK hP 1 0 rfl rfl (i := i) (by omega) (by omega) d_Md_numberOf_23 ?_
          have h7 := hkey i (by omega) (by omega) c_15
          obtain ⟨hk1, hk2⟩ := isIn_of (by decide) h7
          refine W.eq (congrArg (fun z => F0 m 24 ls [.int z]) hk1) ?_
          refine lv_iconst (v := (nI 4)) hx hb d_Md_numberOf_24 (by decide) ?_
          refine zn_idiv hx hb (by omega) (by omega) (by omega) d_Md_numberOf_25 ?_
          refine lv_iload_n hx hb d_Md_numberOf_26 rfl (lv_at hl 1 rfl) ?_
          refine zn_icmp_ne (tgt := 32) hx hb (a := (kN (mk i)) / 4) (b := pg) (by omega) (by omega) d_Md_numberOf_27 (by decide) (fun c_27 => ?_) (fun c_27 => ?_)
          · refine lv_iinc (v := (nI (i - 1))) (lv' := [(2, .int (nI (i - 1))), (0, .ref h0), (1, .int (nI pg))]) hx hb d_Md_numberOf_32 hl (k := 2) rfl (sb_m1 (by omega)) (by decide) rfl (fun ls hl => ?_)
            refine lv_goto (tgt := 5) hx hb d_Md_numberOf_35 (by decide) ?_
            exact ih (i - 1) (by omega) (by first | omega | assumption) (by rw [h2, znum_pos c_6, if_neg (fun q => c_27 q.2)]) ls (lv_sub hl [1, 2, 0] rfl)
          · refine lv_iload_n hx hb d_Md_numberOf_30 rfl (lv_at hl 2 rfl) ?_
            exact W.iret hx hb hr (fun t ht hW => ⟨by rw [h2, znum_pos c_6, if_pos ⟨h7, c_27⟩], ht⟩) (fun q h => by cases h) d_Md_numberOf_31
  exact loop_5 (mL + 1) mL (by omega) (by first | omega | assumption) rfl ls (lv_sub hl [1, 2, 0] rfl)
set_option maxHeartbeats 4000000 in
set_option maxRecDepth 100000 in
theorem c_Md_changesOn (l : Launch) (dC : Nat → ClassId) (dI : Nat → Nat → Nat) (cT : Nat → ClassId) (h0 : Nat) (mS : Nat) (mQ : Nat) (gK : Nat) (gV : Nat) (gH : Nat) (mL : Nat) (mo : Bool) (gM : Nat) (mch : Nat) (mA : Nat) (mP : Nat) (gI : Nat) (gR : Nat) (gT : Nat) (gF : Nat) (gS : Nat) (gE : Nat) (gC : Nat) (mB : Nat) (ml : Int32) (mz : Int32) (pg : Nat) (a : Nat) (u : Nat) (mk : Nat → Int32) (hL : mL ≤ 1000) (hkey : ∀ i, 1 ≤ i → i ≤ mL → ¬ mk i < 0 → isIn (mk i) 32 = true) (hp : pg < 8) (hu : u ≤ mL) (ha : a ≤ u) : Met l y_Md_changesOn w_Md_changesOn ({ frames := 0, cells := 0, slots := 0, locals := 0 } : Room) (zPreR (dC, dI) vwCl (zT cT) [.ref h0, .int (nI pg), .int (nI a), .int (nI u)] ([(h0, .inr (6, [.int (nI mS), .int (nI mQ), .ref gK, .ref gV, .ref gH, .int (nI mL), .int (zb mo), .ref gM, .int (nI mch), .int (nI mA), .int (nI mP), .ref gI, .ref gR, .ref gT, .ref gF, .ref gS, .ref gE, .ref gC, .int (nI mB), .int ml, .int mz])), (gK, .inl (cT 0, 1100, .inl mk))])) (k2_QcV (.int (nI (zcho mk pg a u)))) 0 0 (fun _ => False) := by
  refine Met.ofW (cc := b_Md_changesOn) (maxL := 6) (ret := (some .int)) (by decide) rfl ?_
  intro p e s m args below meth c s₁ B hml hv
  obtain ⟨rfl, hP, hK, hE⟩ := hv
  have hx := B.exec
  have hb := B.bytes
  have hr := B.returns
  have hts := fun w h => atoms_spec (ws := w_Md_changesOn) B.pre w (List.mem_cons_of_mem _ h)
  have hown : s.vm.findClass R_Md = some m.cls := findClass_of_methodNamed B.named
  have hlocks := B.notSynchronized
  have hl := lv_entry ([.ref h0, .int (nI pg), .int (nI a), .int (nI u)]) (n := 6) (Nat.le_of_ble_eq_true rfl)
  rw [lg_entry_eq]
  generalize (lg_sl ([.ref h0, .int (nI pg), .int (nI a), .int (nI u)]) ++ List.replicate (6 - (lg_sl ([.ref h0, .int (nI pg), .int (nI a), .int (nI u)])).length) Slot.unset).toArray = ls at hl ⊢
  have hl : lv_has ls 6 [(0, .ref h0), (1, .int (nI pg)), (2, .int (nI a)), (3, .int (nI u))] := hl
  refine lv_iconst (v := (nI 0)) hx hb d_Md_changesOn_0 (by decide) ?_
  refine lv_istore (lv' := [(4, .int (nI 0)), (0, .ref h0), (1, .int (nI pg)), (2, .int (nI a)), (3, .int (nI u))]) hx hb d_Md_changesOn_1 hl (by decide) rfl (fun ls hl => ?_)
  refine lv_iload_n hx hb d_Md_changesOn_3 rfl (lv_at hl 3 rfl) ?_
  refine lv_iconst (v := (nI 1)) hx hb d_Md_changesOn_4 (by decide) ?_
  refine zn_iadd hx hb d_Md_changesOn_5 ?_
  refine lv_istore (lv' := [(5, .int (nI (a + 1))), (4, .int (nI 0)), (0, .ref h0), (1, .int (nI pg)), (2, .int (nI a)), (3, .int (nI u))]) hx hb d_Md_changesOn_6 hl (by decide) rfl (fun ls hl => ?_)
  have loop_8 : ∀ (fu : Nat) (i : Nat) (n : Nat), u + 1 - i < fu → (a + 1 ≤ i) → (i ≤ u + 1) → (n = zcho mk pg a (i - 1)) → (n ≤ i) → ∀ (ls : Array Slot), lv_has ls 6 [(0, .ref h0), (1, .int (nI pg)), (2, .int (nI a)), (3, .int (nI u)), (4, .int (nI n)), (5, .int (nI i))] → W p l e (headSpec w_Md_changesOn ({ frames := 0, cells := 0, slots := 0, locals := 0 } : Room)).room s m ([.ref h0, .int (nI pg), .int (nI a), .int (nI u)] : List Value).toArray below meth c s.heap [] 0 0 (MQ below (k2_QcV (.int (nI (zcho mk pg a u)))) ([.ref h0, .int (nI pg), .int (nI a), .int (nI u)] : List Value).toArray s 0 0 (fun _ => False)) (F0 m 8 ls []) := by
    intro fu
    induction fu with
    | zero => intro _ _ hm; exact absurd hm (Nat.not_lt_zero _)
    | succ fu ih =>
      intro i n hm h1 h2 h3 h4 ls hl
      refine lv_iload hx hb d_Md_changesOn_8 (lv_at hl 5 rfl) ?_
      refine lv_iload_n hx hb d_Md_changesOn_10 rfl (lv_at hl 3 rfl) ?_
      refine zn_icmp_gt (tgt := 46) hx hb (a := i) (b := u) (by omega) (by omega) d_Md_changesOn_11 (by decide) (fun c_11 => ?_) (fun c_11 => ?_)
      · refine lv_iload hx hb d_Md_changesOn_46 (lv_at hl 4 rfl) ?_
        exact W.iret hx hb hr (fun t ht hW => ⟨by rw [h3, show i - 1 = u by omega], ht⟩) (fun q h => by cases h) d_Md_changesOn_48
      · refine lv_aload_n hx hb d_Md_changesOn_14 rfl (lv_at hl 0 rfl) ?_
        refine va_get (D := (dC, dI)) (ci := 6) (v := .ref gK) (C := R_Md) (T := F_Md) (N := 21) hx hb hts i_Md hown hK hP 0 rfl rfl 2 (by decide) (hts _ wd_565) (fun _ h9 => h9) rfl d_Md_changesOn_15 ?_
        refine lv_iload hx hb d_Md_changesOn_18 (lv_at hl 5 rfl) ?_
        refine zn_iald hx hb hK hP 1 0 rfl rfl (i := i) (by omega) (by omega) d_Md_changesOn_20 ?_
        refine lv_if_lt (tgt := 40) hx hb d_Md_changesOn_21 (by decide) (fun c_21 => ?_) (fun c_21 => ?_)
        · refine lv_iinc (v := (nI (i + 1))) (lv' := [(5, .int (nI (i + 1))), (0, .ref h0), (1, .int (nI pg)), (2, .int (nI a)), (3, .int (nI u)), (4, .int (nI n))]) hx hb d_Md_changesOn_40 hl (k := 5) rfl (nI_1 _) (by decide) rfl (fun ls hl => ?_)
          refine lv_goto (tgt := 8) hx hb d_Md_changesOn_43 (by decide) ?_
          exact ih (i + 1) n (by omega) (by first | omega | assumption) (by first | omega | assumption) (by rw [Nat.add_sub_cancel, zcho_pos (by omega), if_neg (fun q => by rw [isIn_f1 c_21] at q; exact absurd q.2.1 (by decide)), h3]; rfl) (by omega) ls (lv_sub hl [1, 2, 3, 4, 5, 0] rfl)
        · refine lv_aload_n hx hb d_Md_changesOn_24 rfl (lv_at hl 0 rfl) ?_
          refine va_get (D := (dC, dI)) (ci := 6) (v := .ref gK) (C := R_Md) (T := F_Md) (N := 21) hx hb hts i_Md hown hK hP 0 rfl rfl 2 (by decide) (hts _ wd_565) (fun _ h9 => h9) rfl d_Md_changesOn_25 ?_
          refine lv_iload hx hb d_Md_changesOn_28 (lv_at hl 5 rfl) ?_
          refine zn_iald hx hb hK hP 1 0 rfl rfl (i := i) (by omega) (by omega) d_Md_changesOn_30 ?_
          have h7 := hkey i (by omega) (by omega) c_21
          obtain ⟨hk1, hk2⟩ := isIn_of (by decide) h7
          refine W.eq (congrArg (fun z => F0 m 31 ls [.int z]) hk1) ?_
          refine lv_iconst (v := (nI 4)) hx hb d_Md_changesOn_31 (by decide) ?_
          refine zn_idiv hx hb (by omega) (by omega) (by omega) d_Md_changesOn_32 ?_
          refine lv_iload_n hx hb d_Md_changesOn_33 rfl (lv_at hl 1 rfl) ?_
          refine zn_icmp_ne (tgt := 40) hx hb (a := (kN (mk i)) / 4) (b := pg) (by omega) (by omega) d_Md_changesOn_34 (by decide) (fun c_34 => ?_) (fun c_34 => ?_)
          · refine lv_iinc (v := (nI (i + 1))) (lv' := [(5, .int (nI (i + 1))), (0, .ref h0), (1, .int (nI pg)), (2, .int (nI a)), (3, .int (nI u)), (4, .int (nI n))]) hx hb d_Md_changesOn_40 hl (k := 5) rfl (nI_1 _) (by decide) rfl (fun ls hl => ?_)
            refine lv_goto (tgt := 8) hx hb d_Md_changesOn_43 (by decide) ?_
            exact ih (i + 1) n (by omega) (by first | omega | assumption) (by first | omega | assumption) (by rw [Nat.add_sub_cancel, zcho_pos (by omega), if_neg (fun q => c_34 q.2.2), h3]; rfl) (by omega) ls (lv_sub hl [1, 2, 3, 4, 5, 0] rfl)
          · refine lv_iinc (v := (nI (n + 1))) (lv' := [(4, .int (nI (n + 1))), (0, .ref h0), (1, .int (nI pg)), (2, .int (nI a)), (3, .int (nI u)), (5, .int (nI i))]) hx hb d_Md_changesOn_37 hl (k := 4) rfl (nI_1 _) (by decide) rfl (fun ls hl => ?_)
            refine lv_iinc (v := (nI (i + 1))) (lv' := [(5, .int (nI (i + 1))), (4, .int (nI (n + 1))), (0, .ref h0), (1, .int (nI pg)), (2, .int (nI a)), (3, .int (nI u))]) hx hb d_Md_changesOn_40 hl (k := 5) rfl (nI_1 _) (by decide) rfl (fun ls hl => ?_)
            refine lv_goto (tgt := 8) hx hb d_Md_changesOn_43 (by decide) ?_
            exact ih (i + 1) (n + 1) (by omega) (by first | omega | assumption) (by first | omega | assumption) (by rw [Nat.add_sub_cancel, zcho_pos (by omega), if_pos ⟨by omega, h7, c_34⟩, h3]) (by omega) ls (lv_sub hl [2, 3, 4, 5, 1, 0] rfl)
  exact loop_8 (u + 1 - (a + 1) + 1) (a + 1) 0 (by omega) (by first | omega | assumption) (by first | omega | assumption) (by rw [Nat.add_sub_cancel, zcho_0 mk pg a a (Nat.le_refl _)]) (by omega) ls (lv_sub hl [2, 3, 4, 5, 1, 0] rfl)
set_option maxHeartbeats 4000000 in
set_option maxRecDepth 100000 in
theorem c_Md_commits (l : Launch) (dC : Nat → ClassId) (dI : Nat → Nat → Nat) (cT : Nat → ClassId) (h0 : Nat) (mS : Nat) (mQ : Nat) (gK : Nat) (gV : Nat) (gH : Nat) (mL : Nat) (mo : Bool) (gM : Nat) (mch : Nat) (mA : Nat) (mP : Nat) (gI : Nat) (gR : Nat) (gT : Nat) (gF : Nat) (gS : Nat) (gE : Nat) (gC : Nat) (mB : Nat) (ml : Int32) (mz : Int32) (mk : Nat → Int32) (hL : mL ≤ 1000) : Met l y_Md_commits w_Md_commits ({ frames := 0, cells := 0, slots := 0, locals := 0 } : Room) (zPreR (dC, dI) vwCl (zT cT) [.ref h0] ([(h0, .inr (6, [.int (nI mS), .int (nI mQ), .ref gK, .ref gV, .ref gH, .int (nI mL), .int (zb mo), .ref gM, .int (nI mch), .int (nI mA), .int (nI mP), .ref gI, .ref gR, .ref gT, .ref gF, .ref gS, .ref gE, .ref gC, .int (nI mB), .int ml, .int mz])), (gK, .inl (cT 0, 1100, .inl mk))])) (k2_QcV (.int (nI (zcom mk mL)))) 0 0 (fun _ => False) := by
  refine Met.ofW (cc := b_Md_commits) (maxL := 3) (ret := (some .int)) (by decide) rfl ?_
  intro p e s m args below meth c s₁ B hml hv
  obtain ⟨rfl, hP, hK, hE⟩ := hv
  have hx := B.exec
  have hb := B.bytes
  have hr := B.returns
  have hts := fun w h => atoms_spec (ws := w_Md_commits) B.pre w (List.mem_cons_of_mem _ h)
  have hown : s.vm.findClass R_Md = some m.cls := findClass_of_methodNamed B.named
  have hlocks := B.notSynchronized
  have hl := lv_entry ([.ref h0]) (n := 3) (Nat.le_of_ble_eq_true rfl)
  rw [lg_entry_eq]
  generalize (lg_sl ([.ref h0]) ++ List.replicate (3 - (lg_sl ([.ref h0])).length) Slot.unset).toArray = ls at hl ⊢
  have hl : lv_has ls 3 [(0, .ref h0)] := hl
  refine lv_iconst (v := (nI 0)) hx hb d_Md_commits_0 (by decide) ?_
  refine lv_istore_n (lv' := [(1, .int (nI 0)), (0, .ref h0)]) hx hb d_Md_commits_1 rfl hl (by decide) rfl (fun ls hl => ?_)
  refine lv_iconst (v := (nI 1)) hx hb d_Md_commits_2 (by decide) ?_
  refine lv_istore_n (lv' := [(2, .int (nI 1)), (1, .int (nI 0)), (0, .ref h0)]) hx hb d_Md_commits_3 rfl hl (by decide) rfl (fun ls hl => ?_)
  have loop_4 : ∀ (fu : Nat) (i : Nat) (n : Nat), mL + 1 - i < fu → (1 ≤ i) → (i ≤ mL + 1) → (n = zcom mk (i - 1)) → (n ≤ i) → ∀ (ls : Array Slot), lv_has ls 3 [(0, .ref h0), (1, .int (nI n)), (2, .int (nI i))] → W p l e (headSpec w_Md_commits ({ frames := 0, cells := 0, slots := 0, locals := 0 } : Room)).room s m ([.ref h0] : List Value).toArray below meth c s.heap [] 0 0 (MQ below (k2_QcV (.int (nI (zcom mk mL)))) ([.ref h0] : List Value).toArray s 0 0 (fun _ => False)) (F0 m 4 ls []) := by
    intro fu
    induction fu with
    | zero => intro _ _ hm; exact absurd hm (Nat.not_lt_zero _)
    | succ fu ih =>
      intro i n hm h1 h2 h3 h4 ls hl
      refine lv_iload_n hx hb d_Md_commits_4 rfl (lv_at hl 2 rfl) ?_
      refine lv_aload_n hx hb d_Md_commits_5 rfl (lv_at hl 0 rfl) ?_
      refine va_get (D := (dC, dI)) (ci := 6) (v := .int (nI mL)) (C := R_Md) (T := F_Md) (N := 21) hx hb hts i_Md hown hK hP 0 rfl rfl 5 (by decide) (hts _ wd_568) (fun _ h9 => h9) rfl d_Md_commits_6 ?_
      refine zn_icmp_gt (tgt := 31) hx hb (a := i) (b := mL) (by omega) (by omega) d_Md_commits_9 (by decide) (fun c_9 => ?_) (fun c_9 => ?_)
      · refine lv_iload_n hx hb d_Md_commits_31 rfl (lv_at hl 1 rfl) ?_
        exact W.iret hx hb hr (fun t ht hW => ⟨by rw [h3, show i - 1 = mL by omega], ht⟩) (fun q h => by cases h) d_Md_commits_32
      · refine lv_aload_n hx hb d_Md_commits_12 rfl (lv_at hl 0 rfl) ?_
        refine va_get (D := (dC, dI)) (ci := 6) (v := .ref gK) (C := R_Md) (T := F_Md) (N := 21) hx hb hts i_Md hown hK hP 0 rfl rfl 2 (by decide) (hts _ wd_565) (fun _ h9 => h9) rfl d_Md_commits_13 ?_
        refine lv_iload_n hx hb d_Md_commits_16 rfl (lv_at hl 2 rfl) ?_
        refine zn_iald hx hb hK hP 1 0 rfl rfl (i := i) (by omega) (by omega) d_Md_commits_17 ?_
        refine lv_iconst (v := (-1)) hx hb d_Md_commits_18 (by decide) ?_
        refine lv_icmp_ne (tgt := 25) hx hb d_Md_commits_19 (by decide) (fun c_19 => ?_) (fun c_19 => ?_)
        · refine lv_iinc (v := (nI (i + 1))) (lv' := [(2, .int (nI (i + 1))), (0, .ref h0), (1, .int (nI n))]) hx hb d_Md_commits_25 hl (k := 2) rfl (nI_1 _) (by decide) rfl (fun ls hl => ?_)
          refine lv_goto (tgt := 4) hx hb d_Md_commits_28 (by decide) ?_
          exact ih (i + 1) n (by omega) (by first | omega | assumption) (by first | omega | assumption) (by rw [Nat.add_sub_cancel, zcom_pos (by omega), if_neg c_19, h3]; rfl) (by omega) ls (lv_sub hl [1, 2, 0] rfl)
        · refine lv_iinc (v := (nI (n + 1))) (lv' := [(1, .int (nI (n + 1))), (0, .ref h0), (2, .int (nI i))]) hx hb d_Md_commits_22 hl (k := 1) rfl (nI_1 _) (by decide) rfl (fun ls hl => ?_)
          refine lv_iinc (v := (nI (i + 1))) (lv' := [(2, .int (nI (i + 1))), (1, .int (nI (n + 1))), (0, .ref h0)]) hx hb d_Md_commits_25 hl (k := 2) rfl (nI_1 _) (by decide) rfl (fun ls hl => ?_)
          refine lv_goto (tgt := 4) hx hb d_Md_commits_28 (by decide) ?_
          exact ih (i + 1) (n + 1) (by omega) (by first | omega | assumption) (by first | omega | assumption) (by rw [Nat.add_sub_cancel, zcom_pos (by omega), if_pos c_19, h3]) (by omega) ls (lv_sub hl [2, 1, 0] rfl)
  exact loop_4 (mL + 1 - 1 + 1) 1 0 (by omega) (by first | omega | assumption) (by first | omega | assumption) rfl (by omega) ls (lv_sub hl [2, 1, 0] rfl)
set_option maxHeartbeats 4000000 in
set_option maxRecDepth 100000 in
theorem c_Md_fulls (l : Launch) (dC : Nat → ClassId) (dI : Nat → Nat → Nat) (cT : Nat → ClassId) (h0 : Nat) (mS : Nat) (mQ : Nat) (gK : Nat) (gV : Nat) (gH : Nat) (mL : Nat) (mo : Bool) (gM : Nat) (mch : Nat) (mA : Nat) (mP : Nat) (gI : Nat) (gR : Nat) (gT : Nat) (gF : Nat) (gS : Nat) (gE : Nat) (gC : Nat) (mB : Nat) (ml : Int32) (mz : Int32) (mt : Nat → Bool) (mf : Nat → Bool) (hB : mB ≤ 256) : Met l y_Md_fulls w_Md_fulls ({ frames := 0, cells := 0, slots := 0, locals := 0 } : Room) (zPreR (dC, dI) vwCl (zT cT) [.ref h0] ([(h0, .inr (6, [.int (nI mS), .int (nI mQ), .ref gK, .ref gV, .ref gH, .int (nI mL), .int (zb mo), .ref gM, .int (nI mch), .int (nI mA), .int (nI mP), .ref gI, .ref gR, .ref gT, .ref gF, .ref gS, .ref gE, .ref gC, .int (nI mB), .int ml, .int mz])), (gT, .inl (cT 2, 260, .inl (fun j => zb (mt j)))), (gF, .inl (cT 2, 260, .inl (fun j => zb (mf j))))])) (k2_QcV (.int (nI (zful mt mf mB)))) 0 0 (fun _ => False) := by
  refine Met.ofW (cc := b_Md_fulls) (maxL := 3) (ret := (some .int)) (by decide) rfl ?_
  intro p e s m args below meth c s₁ B hml hv
  obtain ⟨rfl, hP, hK, hE⟩ := hv
  have hx := B.exec
  have hb := B.bytes
  have hr := B.returns
  have hts := fun w h => atoms_spec (ws := w_Md_fulls) B.pre w (List.mem_cons_of_mem _ h)
  have hown : s.vm.findClass R_Md = some m.cls := findClass_of_methodNamed B.named
  have hlocks := B.notSynchronized
  have hl := lv_entry ([.ref h0]) (n := 3) (Nat.le_of_ble_eq_true rfl)
  rw [lg_entry_eq]
  generalize (lg_sl ([.ref h0]) ++ List.replicate (3 - (lg_sl ([.ref h0])).length) Slot.unset).toArray = ls at hl ⊢
  have hl : lv_has ls 3 [(0, .ref h0)] := hl
  refine lv_iconst (v := (nI 0)) hx hb d_Md_fulls_0 (by decide) ?_
  refine lv_istore_n (lv' := [(1, .int (nI 0)), (0, .ref h0)]) hx hb d_Md_fulls_1 rfl hl (by decide) rfl (fun ls hl => ?_)
  refine lv_iconst (v := (nI 1)) hx hb d_Md_fulls_2 (by decide) ?_
  refine lv_istore_n (lv' := [(2, .int (nI 1)), (1, .int (nI 0)), (0, .ref h0)]) hx hb d_Md_fulls_3 rfl hl (by decide) rfl (fun ls hl => ?_)
  have loop_4 : ∀ (fu : Nat) (i : Nat) (n : Nat), mB + 1 - i < fu → (1 ≤ i) → (i ≤ mB + 1) → (n = zful mt mf (i - 1)) → (n ≤ i) → ∀ (ls : Array Slot), lv_has ls 3 [(0, .ref h0), (1, .int (nI n)), (2, .int (nI i))] → W p l e (headSpec w_Md_fulls ({ frames := 0, cells := 0, slots := 0, locals := 0 } : Room)).room s m ([.ref h0] : List Value).toArray below meth c s.heap [] 0 0 (MQ below (k2_QcV (.int (nI (zful mt mf mB)))) ([.ref h0] : List Value).toArray s 0 0 (fun _ => False)) (F0 m 4 ls []) := by
    intro fu
    induction fu with
    | zero => intro _ _ hm; exact absurd hm (Nat.not_lt_zero _)
    | succ fu ih =>
      intro i n hm h1 h2 h3 h4 ls hl
      refine lv_iload_n hx hb d_Md_fulls_4 rfl (lv_at hl 2 rfl) ?_
      refine lv_aload_n hx hb d_Md_fulls_5 rfl (lv_at hl 0 rfl) ?_
      refine va_get (D := (dC, dI)) (ci := 6) (v := .int (nI mB)) (C := R_Md) (T := F_Md) (N := 21) hx hb hts i_Md hown hK hP 0 rfl rfl 18 (by decide) (hts _ wd_581) (fun _ h9 => h9) rfl d_Md_fulls_6 ?_
      refine zn_icmp_gt (tgt := 39) hx hb (a := i) (b := mB) (by omega) (by omega) d_Md_fulls_9 (by decide) (fun c_9 => ?_) (fun c_9 => ?_)
      · refine lv_iload_n hx hb d_Md_fulls_39 rfl (lv_at hl 1 rfl) ?_
        exact W.iret hx hb hr (fun t ht hW => ⟨by rw [h3, show i - 1 = mB by omega], ht⟩) (fun q h => by cases h) d_Md_fulls_40
      · refine lv_aload_n hx hb d_Md_fulls_12 rfl (lv_at hl 0 rfl) ?_
        refine va_get (D := (dC, dI)) (ci := 6) (v := .ref gT) (C := R_Md) (T := F_Md) (N := 21) hx hb hts i_Md hown hK hP 0 rfl rfl 13 (by decide) (hts _ wd_576) (fun _ h9 => h9) rfl d_Md_fulls_13 ?_
        refine lv_iload_n hx hb d_Md_fulls_16 rfl (lv_at hl 2 rfl) ?_
        refine zn_zald hx hb hK hP 1 2 rfl rfl (i := i) (by omega) (by omega) d_Md_fulls_17 ?_
        refine zb_if_eq (tgt := 33) hx hb d_Md_fulls_18 (by decide) (fun c_18 => ?_) (fun c_18 => ?_)
        · refine lv_iinc (v := (nI (i + 1))) (lv' := [(2, .int (nI (i + 1))), (0, .ref h0), (1, .int (nI n))]) hx hb d_Md_fulls_33 hl (k := 2) rfl (nI_1 _) (by decide) rfl (fun ls hl => ?_)
          refine lv_goto (tgt := 4) hx hb d_Md_fulls_36 (by decide) ?_
          exact ih (i + 1) n (by omega) (by first | omega | assumption) (by first | omega | assumption) (by rw [Nat.add_sub_cancel, zful_pos (by omega), if_neg (fun q => by rw [c_18] at q; exact absurd q.1 (by decide)), h3]; rfl) (by omega) ls (lv_sub hl [1, 2, 0] rfl)
        · refine lv_aload_n hx hb d_Md_fulls_21 rfl (lv_at hl 0 rfl) ?_
          refine va_get (D := (dC, dI)) (ci := 6) (v := .ref gF) (C := R_Md) (T := F_Md) (N := 21) hx hb hts i_Md hown hK hP 0 rfl rfl 14 (by decide) (hts _ wd_577) (fun _ h9 => h9) rfl d_Md_fulls_22 ?_
          refine lv_iload_n hx hb d_Md_fulls_25 rfl (lv_at hl 2 rfl) ?_
          refine zn_zald hx hb hK hP 2 2 rfl rfl (i := i) (by omega) (by omega) d_Md_fulls_26 ?_
          refine zb_if_eq (tgt := 33) hx hb d_Md_fulls_27 (by decide) (fun c_27 => ?_) (fun c_27 => ?_)
          · refine lv_iinc (v := (nI (i + 1))) (lv' := [(2, .int (nI (i + 1))), (0, .ref h0), (1, .int (nI n))]) hx hb d_Md_fulls_33 hl (k := 2) rfl (nI_1 _) (by decide) rfl (fun ls hl => ?_)
            refine lv_goto (tgt := 4) hx hb d_Md_fulls_36 (by decide) ?_
            exact ih (i + 1) n (by omega) (by first | omega | assumption) (by first | omega | assumption) (by rw [Nat.add_sub_cancel, zful_pos (by omega), if_neg (fun q => by rw [c_27] at q; exact absurd q.2 (by decide)), h3]; rfl) (by omega) ls (lv_sub hl [1, 2, 0] rfl)
          · refine lv_iinc (v := (nI (n + 1))) (lv' := [(1, .int (nI (n + 1))), (0, .ref h0), (2, .int (nI i))]) hx hb d_Md_fulls_30 hl (k := 1) rfl (nI_1 _) (by decide) rfl (fun ls hl => ?_)
            refine lv_iinc (v := (nI (i + 1))) (lv' := [(2, .int (nI (i + 1))), (1, .int (nI (n + 1))), (0, .ref h0)]) hx hb d_Md_fulls_33 hl (k := 2) rfl (nI_1 _) (by decide) rfl (fun ls hl => ?_)
            refine lv_goto (tgt := 4) hx hb d_Md_fulls_36 (by decide) ?_
            exact ih (i + 1) (n + 1) (by omega) (by first | omega | assumption) (by first | omega | assumption) (by rw [Nat.add_sub_cancel, zful_pos (by omega), if_pos ⟨c_18, c_27⟩, h3]) (by omega) ls (lv_sub hl [2, 1, 0] rfl)
  exact loop_4 (mB + 1 - 1 + 1) 1 0 (by omega) (by first | omega | assumption) (by first | omega | assumption) rfl (by omega) ls (lv_sub hl [2, 1, 0] rfl)
set_option maxHeartbeats 4000000 in
set_option maxRecDepth 100000 in
theorem c_Md_firstFull (l : Launch) (dC : Nat → ClassId) (dI : Nat → Nat → Nat) (cT : Nat → ClassId) (h0 : Nat) (mS : Nat) (mQ : Nat) (gK : Nat) (gV : Nat) (gH : Nat) (mL : Nat) (mo : Bool) (gM : Nat) (mch : Nat) (mA : Nat) (mP : Nat) (gI : Nat) (gR : Nat) (gT : Nat) (gF : Nat) (gS : Nat) (gE : Nat) (gC : Nat) (mB : Nat) (ml : Int32) (mz : Int32) (b0 : Nat) (r : Nat) (mt : Nat → Bool) (mf : Nat → Bool) (hB : mB ≤ 256) (h1r : b0 ≤ r) (h2r : r ≤ mB + 1) (h3r : ∀ b, b0 ≤ b → b < r → ¬ (mt b = true ∧ mf b = true)) (h4r : r ≤ mB → mt r = true ∧ mf r = true) : Met l y_Md_firstFull w_Md_firstFull ({ frames := 0, cells := 0, slots := 0, locals := 0 } : Room) (zPreR (dC, dI) vwCl (zT cT) [.ref h0, .int (nI b0)] ([(h0, .inr (6, [.int (nI mS), .int (nI mQ), .ref gK, .ref gV, .ref gH, .int (nI mL), .int (zb mo), .ref gM, .int (nI mch), .int (nI mA), .int (nI mP), .ref gI, .ref gR, .ref gT, .ref gF, .ref gS, .ref gE, .ref gC, .int (nI mB), .int ml, .int mz])), (gT, .inl (cT 2, 260, .inl (fun j => zb (mt j)))), (gF, .inl (cT 2, 260, .inl (fun j => zb (mf j))))])) (k2_QcV (.int (nI r))) 0 0 (fun _ => False) := by
  refine Met.ofW (cc := b_Md_firstFull) (maxL := 3) (ret := (some .int)) (by decide) rfl ?_
  intro p e s m args below meth c s₁ B hml hv
  obtain ⟨rfl, hP, hK, hE⟩ := hv
  have hx := B.exec
  have hb := B.bytes
  have hr := B.returns
  have hts := fun w h => atoms_spec (ws := w_Md_firstFull) B.pre w (List.mem_cons_of_mem _ h)
  have hown : s.vm.findClass R_Md = some m.cls := findClass_of_methodNamed B.named
  have hlocks := B.notSynchronized
  have hl := lv_entry ([.ref h0, .int (nI b0)]) (n := 3) (Nat.le_of_ble_eq_true rfl)
  rw [lg_entry_eq]
  generalize (lg_sl ([.ref h0, .int (nI b0)]) ++ List.replicate (3 - (lg_sl ([.ref h0, .int (nI b0)])).length) Slot.unset).toArray = ls at hl ⊢
  have hl : lv_has ls 3 [(0, .ref h0), (1, .int (nI b0))] := hl
  refine lv_iload_n hx hb d_Md_firstFull_0 rfl (lv_at hl 1 rfl) ?_
  refine lv_istore_n (lv' := [(2, .int (nI b0)), (0, .ref h0), (1, .int (nI b0))]) hx hb d_Md_firstFull_1 rfl hl (by decide) rfl (fun ls hl => ?_)
  have loop_2 : ∀ (fu : Nat) (i : Nat), r - i < fu → (b0 ≤ i) → (i ≤ r) → ∀ (ls : Array Slot), lv_has ls 3 [(0, .ref h0), (1, .int (nI b0)), (2, .int (nI i))] → W p l e (headSpec w_Md_firstFull ({ frames := 0, cells := 0, slots := 0, locals := 0 } : Room)).room s m ([.ref h0, .int (nI b0)] : List Value).toArray below meth c s.heap [] 0 0 (MQ below (k2_QcV (.int (nI r))) ([.ref h0, .int (nI b0)] : List Value).toArray s 0 0 (fun _ => False)) (F0 m 2 ls []) := by
    intro fu
    induction fu with
    | zero => intro _ hm; exact absurd hm (Nat.not_lt_zero _)
    | succ fu ih =>
      intro i hm h1 h2 ls hl
      refine lv_iload_n hx hb d_Md_firstFull_2 rfl (lv_at hl 2 rfl) ?_
      refine lv_aload_n hx hb d_Md_firstFull_3 rfl (lv_at hl 0 rfl) ?_
      refine va_get (D := (dC, dI)) (ci := 6) (v := .int (nI mB)) (C := R_Md) (T := F_Md) (N := 21) hx hb hts i_Md hown hK hP 0 rfl rfl 18 (by decide) (hts _ wd_581) (fun _ h9 => h9) rfl d_Md_firstFull_4 ?_
      refine zn_icmp_gt (tgt := 36) hx hb (a := i) (b := mB) (by omega) (by omega) d_Md_firstFull_7 (by decide) (fun c_7 => ?_) (fun c_7 => ?_)
      · refine lv_aload_n hx hb d_Md_firstFull_36 rfl (lv_at hl 0 rfl) ?_
        refine va_get (D := (dC, dI)) (ci := 6) (v := .int (nI mB)) (C := R_Md) (T := F_Md) (N := 21) hx hb hts i_Md hown hK hP 0 rfl rfl 18 (by decide) (hts _ wd_581) (fun _ h9 => h9) rfl d_Md_firstFull_37 ?_
        refine lv_iconst (v := (nI 1)) hx hb d_Md_firstFull_40 (by decide) ?_
        refine zn_iadd hx hb d_Md_firstFull_41 ?_
        exact W.iret hx hb hr (fun t ht hW => ⟨by rw [show mB + 1 = r by omega], ht⟩) (fun q h => by cases h) d_Md_firstFull_42
      · refine lv_aload_n hx hb d_Md_firstFull_10 rfl (lv_at hl 0 rfl) ?_
        refine va_get (D := (dC, dI)) (ci := 6) (v := .ref gT) (C := R_Md) (T := F_Md) (N := 21) hx hb hts i_Md hown hK hP 0 rfl rfl 13 (by decide) (hts _ wd_576) (fun _ h9 => h9) rfl d_Md_firstFull_11 ?_
        refine lv_iload_n hx hb d_Md_firstFull_14 rfl (lv_at hl 2 rfl) ?_
        refine zn_zald hx hb hK hP 1 2 rfl rfl (i := i) (by omega) (by omega) d_Md_firstFull_15 ?_
        refine zb_if_eq (tgt := 30) hx hb d_Md_firstFull_16 (by decide) (fun c_16 => ?_) (fun c_16 => ?_)
        · have h6 : i < r := by rcases Nat.lt_or_ge i r with q | q; exact q; exact absurd (h4r (by omega)) (fun z => by rw [show r = i by omega, c_16] at z; exact absurd z.1 (by decide))
          refine lv_iinc (v := (nI (i + 1))) (lv' := [(2, .int (nI (i + 1))), (0, .ref h0), (1, .int (nI b0))]) hx hb d_Md_firstFull_30 hl (k := 2) rfl (nI_1 _) (by decide) rfl (fun ls hl => ?_)
          refine lv_goto (tgt := 2) hx hb d_Md_firstFull_33 (by decide) ?_
          exact ih (i + 1) (by omega) (by first | omega | assumption) (by first | omega | assumption) ls (lv_sub hl [1, 2, 0] rfl)
        · refine lv_aload_n hx hb d_Md_firstFull_19 rfl (lv_at hl 0 rfl) ?_
          refine va_get (D := (dC, dI)) (ci := 6) (v := .ref gF) (C := R_Md) (T := F_Md) (N := 21) hx hb hts i_Md hown hK hP 0 rfl rfl 14 (by decide) (hts _ wd_577) (fun _ h9 => h9) rfl d_Md_firstFull_20 ?_
          refine lv_iload_n hx hb d_Md_firstFull_23 rfl (lv_at hl 2 rfl) ?_
          refine zn_zald hx hb hK hP 2 2 rfl rfl (i := i) (by omega) (by omega) d_Md_firstFull_24 ?_
          refine zb_if_eq (tgt := 30) hx hb d_Md_firstFull_25 (by decide) (fun c_25 => ?_) (fun c_25 => ?_)
          · have h6 : i < r := by rcases Nat.lt_or_ge i r with q | q; exact q; exact absurd (h4r (by omega)) (fun z => by rw [show r = i by omega, c_25] at z; exact absurd z.2 (by decide))
            refine lv_iinc (v := (nI (i + 1))) (lv' := [(2, .int (nI (i + 1))), (0, .ref h0), (1, .int (nI b0))]) hx hb d_Md_firstFull_30 hl (k := 2) rfl (nI_1 _) (by decide) rfl (fun ls hl => ?_)
            refine lv_goto (tgt := 2) hx hb d_Md_firstFull_33 (by decide) ?_
            exact ih (i + 1) (by omega) (by first | omega | assumption) (by first | omega | assumption) ls (lv_sub hl [1, 2, 0] rfl)
          · refine lv_iload_n hx hb d_Md_firstFull_28 rfl (lv_at hl 2 rfl) ?_
            exact W.iret hx hb hr (fun t ht hW => ⟨by rw [show i = r from by rcases Nat.lt_or_ge i r with q | q; exact absurd ⟨c_16, c_25⟩ (h3r i h1 q); omega], ht⟩) (fun q h => by cases h) d_Md_firstFull_29
  exact loop_2 (r - b0 + 1) b0 (by omega) (by first | omega | assumption) (by first | omega | assumption) ls (lv_sub hl [1, 2, 0] rfl)
set_option maxHeartbeats 4000000 in
set_option maxRecDepth 100000 in
theorem c_Md_commitRecord (l : Launch) (dC : Nat → ClassId) (dI : Nat → Nat → Nat) (cT : Nat → ClassId) (h0 : Nat) (mS : Nat) (mQ : Nat) (gK : Nat) (gV : Nat) (gH : Nat) (mL : Nat) (mo : Bool) (gM : Nat) (mch : Nat) (mA : Nat) (mP : Nat) (gI : Nat) (gR : Nat) (gT : Nat) (gF : Nat) (gS : Nat) (gE : Nat) (gC : Nat) (mB : Nat) (ml : Int32) (mz : Int32) (k : Nat) (r : Nat) (mk : Nat → Int32) (hL : mL ≤ 1000) (h1r : 1 ≤ r) (hrL : r ≤ mL) (hk0 : 0 < k) (hkr : zcom mk r = k) (hlt : ∀ j, j < r → zcom mk j < k) : Met l y_Md_commitRecord w_Md_commitRecord ({ frames := 0, cells := 0, slots := 0, locals := 0 } : Room) (zPreR (dC, dI) vwCl (zT cT) [.ref h0, .int (nI k)] ([(h0, .inr (6, [.int (nI mS), .int (nI mQ), .ref gK, .ref gV, .ref gH, .int (nI mL), .int (zb mo), .ref gM, .int (nI mch), .int (nI mA), .int (nI mP), .ref gI, .ref gR, .ref gT, .ref gF, .ref gS, .ref gE, .ref gC, .int (nI mB), .int ml, .int mz])), (gK, .inl (cT 0, 1100, .inl mk))])) (k2_QcV (.int (nI r))) 0 0 (fun _ => False) := by
  refine Met.ofW (cc := b_Md_commitRecord) (maxL := 4) (ret := (some .int)) (by decide) rfl ?_
  intro p e s m args below meth c s₁ B hml hv
  obtain ⟨rfl, hP, hK, hE⟩ := hv
  have hx := B.exec
  have hb := B.bytes
  have hr := B.returns
  have hts := fun w h => atoms_spec (ws := w_Md_commitRecord) B.pre w (List.mem_cons_of_mem _ h)
  have hown : s.vm.findClass R_Md = some m.cls := findClass_of_methodNamed B.named
  have hlocks := B.notSynchronized
  have hl := lv_entry ([.ref h0, .int (nI k)]) (n := 4) (Nat.le_of_ble_eq_true rfl)
  rw [lg_entry_eq]
  generalize (lg_sl ([.ref h0, .int (nI k)]) ++ List.replicate (4 - (lg_sl ([.ref h0, .int (nI k)])).length) Slot.unset).toArray = ls at hl ⊢
  have hl : lv_has ls 4 [(0, .ref h0), (1, .int (nI k))] := hl
  refine lv_iconst (v := (nI 0)) hx hb d_Md_commitRecord_0 (by decide) ?_
  refine lv_istore_n (lv' := [(2, .int (nI 0)), (0, .ref h0), (1, .int (nI k))]) hx hb d_Md_commitRecord_1 rfl hl (by decide) rfl (fun ls hl => ?_)
  refine lv_iconst (v := (nI 1)) hx hb d_Md_commitRecord_2 (by decide) ?_
  refine lv_istore_n (lv' := [(3, .int (nI 1)), (2, .int (nI 0)), (0, .ref h0), (1, .int (nI k))]) hx hb d_Md_commitRecord_3 rfl hl (by decide) rfl (fun ls hl => ?_)
  have loop_4 : ∀ (fu : Nat) (i : Nat) (a : Nat), r - i < fu → (1 ≤ i) → (i ≤ r) → (a = zcom mk (i - 1)) → (a ≤ i) → ∀ (ls : Array Slot), lv_has ls 4 [(0, .ref h0), (1, .int (nI k)), (2, .int (nI a)), (3, .int (nI i))] → W p l e (headSpec w_Md_commitRecord ({ frames := 0, cells := 0, slots := 0, locals := 0 } : Room)).room s m ([.ref h0, .int (nI k)] : List Value).toArray below meth c s.heap [] 0 0 (MQ below (k2_QcV (.int (nI r))) ([.ref h0, .int (nI k)] : List Value).toArray s 0 0 (fun _ => False)) (F0 m 4 ls []) := by
    intro fu
    induction fu with
    | zero => intro _ _ hm; exact absurd hm (Nat.not_lt_zero _)
    | succ fu ih =>
      intro i a hm h1 h2 h3 h4 ls hl
      refine lv_iload_n hx hb d_Md_commitRecord_4 rfl (lv_at hl 3 rfl) ?_
      refine lv_aload_n hx hb d_Md_commitRecord_5 rfl (lv_at hl 0 rfl) ?_
      refine va_get (D := (dC, dI)) (ci := 6) (v := .int (nI mL)) (C := R_Md) (T := F_Md) (N := 21) hx hb hts i_Md hown hK hP 0 rfl rfl 5 (by decide) (hts _ wd_568) (fun _ h9 => h9) rfl d_Md_commitRecord_6 ?_
      refine zn_icmp_gt (tgt := 38) hx hb (a := i) (b := mL) (by omega) (by omega) d_Md_commitRecord_9 (by decide) (fun c_9 => absurd c_9 (by omega)) (fun c_9 => ?_)
      refine lv_aload_n hx hb d_Md_commitRecord_12 rfl (lv_at hl 0 rfl) ?_
      refine va_get (D := (dC, dI)) (ci := 6) (v := .ref gK) (C := R_Md) (T := F_Md) (N := 21) hx hb hts i_Md hown hK hP 0 rfl rfl 2 (by decide) (hts _ wd_565) (fun _ h9 => h9) rfl d_Md_commitRecord_13 ?_
      refine lv_iload_n hx hb d_Md_commitRecord_16 rfl (lv_at hl 3 rfl) ?_
      refine zn_iald hx hb hK hP 1 0 rfl rfl (i := i) (by omega) (by omega) d_Md_commitRecord_17 ?_
      refine lv_iconst (v := (-1)) hx hb d_Md_commitRecord_18 (by decide) ?_
      refine lv_icmp_ne (tgt := 25) hx hb d_Md_commitRecord_19 (by decide) (fun c_19 => ?_) (fun c_19 => ?_)
      · have h5 : a = zcom mk i := by rw [zcom_pos (by omega), if_neg c_19, h3]; rfl
        have h7 : a ≤ 1000 := by have := zcom_le mk i; omega
        have h8 : k ≤ 1001 := by rw [← hkr]; have := zcom_le mk r; omega
        refine lv_iload_n hx hb d_Md_commitRecord_25 rfl (lv_at hl 2 rfl) ?_
        refine lv_iload_n hx hb d_Md_commitRecord_26 rfl (lv_at hl 1 rfl) ?_
        refine zn_icmp_ne (tgt := 32) hx hb (a := a) (b := k) (by omega) (by omega) d_Md_commitRecord_27 (by decide) (fun c_27 => ?_) (fun c_27 => ?_)
        · have h6 : i < r := by
            rcases Nat.lt_or_ge i r with q | q
            · exact q
            · exact absurd (by rw [h5, show i = r by omega, hkr]) c_27
          refine lv_iinc (v := (nI (i + 1))) (lv' := [(3, .int (nI (i + 1))), (0, .ref h0), (1, .int (nI k)), (2, .int (nI a))]) hx hb d_Md_commitRecord_32 hl (k := 3) rfl (nI_1 _) (by decide) rfl (fun ls hl => ?_)
          refine lv_goto (tgt := 4) hx hb d_Md_commitRecord_35 (by decide) ?_
          exact ih (i + 1) a (by omega) (by first | omega | assumption) (by first | omega | assumption) (by rw [Nat.add_sub_cancel]; exact h5) (by omega) ls (lv_sub hl [1, 2, 3, 0] rfl)
        · refine lv_iload_n hx hb d_Md_commitRecord_30 rfl (lv_at hl 3 rfl) ?_
          exact W.iret hx hb hr (fun t ht hW => ⟨by rw [show i = r from by rcases Nat.lt_or_ge i r with q | q; exact absurd (hlt i q) (by omega); omega], ht⟩) (fun q h => by cases h) d_Md_commitRecord_31
      · refine lv_iinc (v := (nI (a + 1))) (lv' := [(2, .int (nI (a + 1))), (0, .ref h0), (1, .int (nI k)), (3, .int (nI i))]) hx hb d_Md_commitRecord_22 hl (k := 2) rfl (nI_1 _) (by decide) rfl (fun ls hl => ?_)
        have h5 : a + 1 = zcom mk i := by rw [zcom_pos (by omega), if_pos c_19, h3]
        have h7 : a + 1 ≤ 1000 := by have := zcom_le mk i; omega
        have h8 : k ≤ 1001 := by rw [← hkr]; have := zcom_le mk r; omega
        refine lv_iload_n hx hb d_Md_commitRecord_25 rfl (lv_at hl 0 rfl) ?_
        refine lv_iload_n hx hb d_Md_commitRecord_26 rfl (lv_at hl 2 rfl) ?_
        refine zn_icmp_ne (tgt := 32) hx hb (a := a + 1) (b := k) (by omega) (by omega) d_Md_commitRecord_27 (by decide) (fun c_27 => ?_) (fun c_27 => ?_)
        · have h6 : i < r := by
            rcases Nat.lt_or_ge i r with q | q
            · exact q
            · exact absurd (by rw [h5, show i = r by omega, hkr]) c_27
          refine lv_iinc (v := (nI (i + 1))) (lv' := [(3, .int (nI (i + 1))), (2, .int (nI (a + 1))), (0, .ref h0), (1, .int (nI k))]) hx hb d_Md_commitRecord_32 hl (k := 3) rfl (nI_1 _) (by decide) rfl (fun ls hl => ?_)
          refine lv_goto (tgt := 4) hx hb d_Md_commitRecord_35 (by decide) ?_
          exact ih (i + 1) (a + 1) (by omega) (by first | omega | assumption) (by first | omega | assumption) (by rw [Nat.add_sub_cancel]; exact h5) (by omega) ls (lv_sub hl [2, 3, 1, 0] rfl)
        · refine lv_iload_n hx hb d_Md_commitRecord_30 rfl (lv_at hl 3 rfl) ?_
          exact W.iret hx hb hr (fun t ht hW => ⟨by rw [show i = r from by rcases Nat.lt_or_ge i r with q | q; exact absurd (hlt i q) (by omega); omega], ht⟩) (fun q h => by cases h) d_Md_commitRecord_31
  exact loop_4 (r - 1 + 1) 1 0 (by omega) (by first | omega | assumption) (by first | omega | assumption) rfl (by omega) ls (lv_sub hl [2, 3, 1, 0] rfl)
set_option maxHeartbeats 4000000 in
set_option maxRecDepth 100000 in
theorem c_Md_best (l : Launch) (dC : Nat → ClassId) (dI : Nat → Nat → Nat) (cT : Nat → ClassId) (h0 : Nat) (mS : Nat) (mQ : Nat) (gK : Nat) (gV : Nat) (gH : Nat) (mL : Nat) (mo : Bool) (gM : Nat) (mch : Nat) (mA : Nat) (mP : Nat) (gI : Nat) (gR : Nat) (gT : Nat) (gF : Nat) (gS : Nat) (gE : Nat) (gC : Nat) (mB : Nat) (ml : Int32) (mz : Int32) (pg : Nat) (mr : Nat → Bool) (mi : Nat → Nat) (mt : Nat → Bool) (cp : Nat → Int32) (hB : mB ≤ 256) (hcp : ∀ j, okc (cp j)) (hp : pg < 8) (hi0 : mi pg ≤ 1000) : Met l y_Md_best w_Md_best ({ frames := 0, cells := 0, slots := 0, locals := 0 } : Room) (zPreR (dC, dI) vwCl (zT cT) [.ref h0, .int (nI pg)] ([(h0, .inr (6, [.int (nI mS), .int (nI mQ), .ref gK, .ref gV, .ref gH, .int (nI mL), .int (zb mo), .ref gM, .int (nI mch), .int (nI mA), .int (nI mP), .ref gI, .ref gR, .ref gT, .ref gF, .ref gS, .ref gE, .ref gC, .int (nI mB), .int ml, .int mz])), (gR, .inl (cT 2, 8, .inl (fun j => zb (mr j)))), (gI, .inl (cT 0, 8, .inl (fun j => nI (mi j)))), (gT, .inl (cT 2, 260, .inl (fun j => zb (mt j)))), (gC, .inl (cT 0, 2080, .inl cp))])) (k2_QcV (.int (nI (zbst mt cp pg (if mr pg = true then mi pg else 0) mB)))) 0 0 (fun _ => False) := by
  refine Met.ofW (cc := b_Md_best) (maxL := 4) (ret := (some .int)) (by decide) rfl ?_
  intro p e s m args below meth c s₁ B hml hv
  obtain ⟨rfl, hP, hK, hE⟩ := hv
  have hx := B.exec
  have hb := B.bytes
  have hr := B.returns
  have hts := fun w h => atoms_spec (ws := w_Md_best) B.pre w (List.mem_cons_of_mem _ h)
  have hown : s.vm.findClass R_Md = some m.cls := findClass_of_methodNamed B.named
  have hlocks := B.notSynchronized
  have hl := lv_entry ([.ref h0, .int (nI pg)]) (n := 4) (Nat.le_of_ble_eq_true rfl)
  rw [lg_entry_eq]
  generalize (lg_sl ([.ref h0, .int (nI pg)]) ++ List.replicate (4 - (lg_sl ([.ref h0, .int (nI pg)])).length) Slot.unset).toArray = ls at hl ⊢
  have hl : lv_has ls 4 [(0, .ref h0), (1, .int (nI pg))] := hl
  refine lv_aload_n hx hb d_Md_best_0 rfl (lv_at hl 0 rfl) ?_
  refine va_get (D := (dC, dI)) (ci := 6) (v := .ref gR) (C := R_Md) (T := F_Md) (N := 21) hx hb hts i_Md hown hK hP 0 rfl rfl 12 (by decide) (hts _ wd_575) (fun _ h9 => h9) rfl d_Md_best_1 ?_
  refine lv_iload_n hx hb d_Md_best_4 rfl (lv_at hl 1 rfl) ?_
  refine zn_zald hx hb hK hP 1 2 rfl rfl (i := pg) (by omega) (by omega) d_Md_best_5 ?_
  refine zb_if_eq (tgt := 18) hx hb d_Md_best_6 (by decide) (fun c_6 => ?_) (fun c_6 => ?_)
  · refine lv_iconst (v := (nI 0)) hx hb d_Md_best_18 (by decide) ?_
    refine lv_istore_n (lv' := [(2, .int (nI 0)), (0, .ref h0), (1, .int (nI pg))]) hx hb d_Md_best_19 rfl hl (by decide) rfl (fun ls hl => ?_)
    refine lv_iconst (v := (nI 1)) hx hb d_Md_best_20 (by decide) ?_
    refine lv_istore_n (lv' := [(3, .int (nI 1)), (2, .int (nI 0)), (0, .ref h0), (1, .int (nI pg))]) hx hb d_Md_best_21 rfl hl (by decide) rfl (fun ls hl => ?_)
    have loop_22 : ∀ (fu : Nat) (i : Nat) (n : Nat), mB + 1 - i < fu → (1 ≤ i) → (i ≤ mB + 1) → (n = zbst mt cp pg (if mr pg = true then mi pg else 0) (i - 1)) → (n ≤ 1000) → ∀ (ls : Array Slot), lv_has ls 4 [(0, .ref h0), (1, .int (nI pg)), (2, .int (nI n)), (3, .int (nI i))] → W p l e (headSpec w_Md_best ({ frames := 0, cells := 0, slots := 0, locals := 0 } : Room)).room s m ([.ref h0, .int (nI pg)] : List Value).toArray below meth c s.heap [] 0 0 (MQ below (k2_QcV (.int (nI (zbst mt cp pg (if mr pg = true then mi pg else 0) mB)))) ([.ref h0, .int (nI pg)] : List Value).toArray s 0 0 (fun _ => False)) (F0 m 22 ls []) := by
      intro fu
      induction fu with
      | zero => intro _ _ hm; exact absurd hm (Nat.not_lt_zero _)
      | succ fu ih =>
        intro i n hm h1 h2 h3 h4 ls hl
        refine lv_iload_n hx hb d_Md_best_22 rfl (lv_at hl 3 rfl) ?_
        refine lv_aload_n hx hb d_Md_best_23 rfl (lv_at hl 0 rfl) ?_
        refine va_get (D := (dC, dI)) (ci := 6) (v := .int (nI mB)) (C := R_Md) (T := F_Md) (N := 21) hx hb hts i_Md hown hK hP 0 rfl rfl 18 (by decide) (hts _ wd_581) (fun _ h9 => h9) rfl d_Md_best_24 ?_
        refine zn_icmp_gt (tgt := 72) hx hb (a := i) (b := mB) (by omega) (by omega) d_Md_best_27 (by decide) (fun c_27 => ?_) (fun c_27 => ?_)
        · refine lv_iload_n hx hb d_Md_best_72 rfl (lv_at hl 2 rfl) ?_
          exact W.iret hx hb hr (fun t ht hW => ⟨by rw [h3, show i - 1 = mB by omega], ht⟩) (fun q h => by cases h) d_Md_best_73
        · refine lv_aload_n hx hb d_Md_best_30 rfl (lv_at hl 0 rfl) ?_
          refine va_get (D := (dC, dI)) (ci := 6) (v := .ref gT) (C := R_Md) (T := F_Md) (N := 21) hx hb hts i_Md hown hK hP 0 rfl rfl 13 (by decide) (hts _ wd_576) (fun _ h9 => h9) rfl d_Md_best_31 ?_
          refine lv_iload_n hx hb d_Md_best_34 rfl (lv_at hl 3 rfl) ?_
          refine zn_zald hx hb hK hP 3 2 rfl rfl (i := i) (by omega) (by omega) d_Md_best_35 ?_
          refine zb_if_eq (tgt := 66) hx hb d_Md_best_36 (by decide) (fun c_36 => ?_) (fun c_36 => ?_)
          · refine lv_iinc (v := (nI (i + 1))) (lv' := [(3, .int (nI (i + 1))), (0, .ref h0), (1, .int (nI pg)), (2, .int (nI n))]) hx hb d_Md_best_66 hl (k := 3) rfl (nI_1 _) (by decide) rfl (fun ls hl => ?_)
            refine lv_goto (tgt := 22) hx hb d_Md_best_69 (by decide) ?_
            exact ih (i + 1) n (by omega) (by first | omega | assumption) (by first | omega | assumption) (by rw [Nat.add_sub_cancel, zbst_pos (by omega), if_neg (by rw [c_36]; decide)]; exact h3) (by omega) ls (lv_sub hl [1, 2, 3, 0] rfl)
          · refine lv_aload_n hx hb d_Md_best_39 rfl (lv_at hl 0 rfl) ?_
            refine va_get (D := (dC, dI)) (ci := 6) (v := .ref gC) (C := R_Md) (T := F_Md) (N := 21) hx hb hts i_Md hown hK hP 0 rfl rfl 17 (by decide) (hts _ wd_580) (fun _ h9 => h9) rfl d_Md_best_40 ?_
            refine lv_iload_n hx hb d_Md_best_43 rfl (lv_at hl 3 rfl) ?_
            refine lv_bipush (v := (nI 8)) hx hb d_Md_best_44 (by decide) ?_
            refine zn_imul hx hb d_Md_best_46 ?_
            refine lv_iload_n hx hb d_Md_best_47 rfl (lv_at hl 1 rfl) ?_
            refine zn_iadd hx hb d_Md_best_48 ?_
            refine zn_iald hx hb hK hP 4 0 rfl rfl (i := (i * 8) + pg) (by omega) (by omega) d_Md_best_49 ?_
            refine lv_iload_n hx hb d_Md_best_50 rfl (lv_at hl 2 rfl) ?_
            refine lv_icmp_le (tgt := 66) hx hb d_Md_best_51 (by decide) (fun c_51 => ?_) (fun c_51 => ?_)
            · have h7 := (okc_le (hcp (i * 8 + pg)) (by omega)).mp c_51
              refine lv_iinc (v := (nI (i + 1))) (lv' := [(3, .int (nI (i + 1))), (0, .ref h0), (1, .int (nI pg)), (2, .int (nI n))]) hx hb d_Md_best_66 hl (k := 3) rfl (nI_1 _) (by decide) rfl (fun ls hl => ?_)
              refine lv_goto (tgt := 22) hx hb d_Md_best_69 (by decide) ?_
              exact ih (i + 1) n (by omega) (by first | omega | assumption) (by first | omega | assumption) (by rw [Nat.add_sub_cancel, zbst_pos (by omega), if_pos c_36, ← h3, Nat.max_eq_left h7]) (by omega) ls (lv_sub hl [1, 2, 3, 0] rfl)
            · refine lv_aload_n hx hb d_Md_best_54 rfl (lv_at hl 0 rfl) ?_
              refine va_get (D := (dC, dI)) (ci := 6) (v := .ref gC) (C := R_Md) (T := F_Md) (N := 21) hx hb hts i_Md hown hK hP 0 rfl rfl 17 (by decide) (hts _ wd_580) (fun _ h9 => h9) rfl d_Md_best_55 ?_
              refine lv_iload_n hx hb d_Md_best_58 rfl (lv_at hl 3 rfl) ?_
              refine lv_bipush (v := (nI 8)) hx hb d_Md_best_59 (by decide) ?_
              refine zn_imul hx hb d_Md_best_61 ?_
              refine lv_iload_n hx hb d_Md_best_62 rfl (lv_at hl 1 rfl) ?_
              refine zn_iadd hx hb d_Md_best_63 ?_
              refine zn_iald hx hb hK hP 4 0 rfl rfl (i := (i * 8) + pg) (by omega) (by omega) d_Md_best_64 ?_
              refine lv_istore_n (lv' := [(2, .int (cp ((i * 8) + pg))), (0, .ref h0), (1, .int (nI pg)), (3, .int (nI i))]) hx hb d_Md_best_65 rfl hl (by decide) rfl (fun ls hl => ?_)
              have h7 : ¬ kN (cp (i * 8 + pg)) ≤ n := fun q => c_51 ((okc_le (hcp (i * 8 + pg)) (by omega)).mpr q)
              obtain ⟨h8, h9⟩ : cp (i * 8 + pg) = nI (kN (cp (i * 8 + pg))) ∧ kN (cp (i * 8 + pg)) ≤ 1000 := by
                rcases hcp (i * 8 + pg) with q | q
                · rw [q, kN_m1] at h7; omega
                · exact q
              have hl : lv_has ls 4 [(2, .int (nI (kN (cp (i * 8 + pg))))), (0, .ref h0), (1, .int (nI pg)), (3, .int (nI i))] := by rw [← h8]; exact hl
              refine lv_iinc (v := (nI (i + 1))) (lv' := [(3, .int (nI (i + 1))), (2, .int (nI (kN (cp (i * 8 + pg))))), (0, .ref h0), (1, .int (nI pg))]) hx hb d_Md_best_66 hl (k := 3) rfl (nI_1 _) (by decide) rfl (fun ls hl => ?_)
              refine lv_goto (tgt := 22) hx hb d_Md_best_69 (by decide) ?_
              exact ih (i + 1) (kN (cp (i * 8 + pg))) (by omega) (by first | omega | assumption) (by first | omega | assumption) (by rw [Nat.add_sub_cancel, zbst_pos (by omega), if_pos c_36, ← h3, Nat.max_eq_right (by omega)]) (by omega) ls (lv_sub hl [2, 3, 1, 0] rfl)
    exact loop_22 (mB + 1 - 1 + 1) 1 0 (by omega) (by first | omega | assumption) (by first | omega | assumption) (by simp [zbst, c_6]) (by omega) ls (lv_sub hl [2, 3, 1, 0] rfl)
  · refine lv_aload_n hx hb d_Md_best_9 rfl (lv_at hl 0 rfl) ?_
    refine va_get (D := (dC, dI)) (ci := 6) (v := .ref gI) (C := R_Md) (T := F_Md) (N := 21) hx hb hts i_Md hown hK hP 0 rfl rfl 11 (by decide) (hts _ wd_574) (fun _ h9 => h9) rfl d_Md_best_10 ?_
    refine lv_iload_n hx hb d_Md_best_13 rfl (lv_at hl 1 rfl) ?_
    refine zn_iald hx hb hK hP 2 0 rfl rfl (i := pg) (by omega) (by omega) d_Md_best_14 ?_
    refine lv_goto (tgt := 19) hx hb d_Md_best_15 (by decide) ?_
    refine lv_istore_n (lv' := [(2, .int (nI (mi pg))), (0, .ref h0), (1, .int (nI pg))]) hx hb d_Md_best_19 rfl hl (by decide) rfl (fun ls hl => ?_)
    refine lv_iconst (v := (nI 1)) hx hb d_Md_best_20 (by decide) ?_
    refine lv_istore_n (lv' := [(3, .int (nI 1)), (2, .int (nI (mi pg))), (0, .ref h0), (1, .int (nI pg))]) hx hb d_Md_best_21 rfl hl (by decide) rfl (fun ls hl => ?_)
    have loop_22 : ∀ (fu : Nat) (i : Nat) (n : Nat), mB + 1 - i < fu → (1 ≤ i) → (i ≤ mB + 1) → (n = zbst mt cp pg (if mr pg = true then mi pg else 0) (i - 1)) → (n ≤ 1000) → ∀ (ls : Array Slot), lv_has ls 4 [(0, .ref h0), (1, .int (nI pg)), (2, .int (nI n)), (3, .int (nI i))] → W p l e (headSpec w_Md_best ({ frames := 0, cells := 0, slots := 0, locals := 0 } : Room)).room s m ([.ref h0, .int (nI pg)] : List Value).toArray below meth c s.heap [] 0 0 (MQ below (k2_QcV (.int (nI (zbst mt cp pg (if mr pg = true then mi pg else 0) mB)))) ([.ref h0, .int (nI pg)] : List Value).toArray s 0 0 (fun _ => False)) (F0 m 22 ls []) := by
      intro fu
      induction fu with
      | zero => intro _ _ hm; exact absurd hm (Nat.not_lt_zero _)
      | succ fu ih =>
        intro i n hm h1 h2 h3 h4 ls hl
        refine lv_iload_n hx hb d_Md_best_22 rfl (lv_at hl 3 rfl) ?_
        refine lv_aload_n hx hb d_Md_best_23 rfl (lv_at hl 0 rfl) ?_
        refine va_get (D := (dC, dI)) (ci := 6) (v := .int (nI mB)) (C := R_Md) (T := F_Md) (N := 21) hx hb hts i_Md hown hK hP 0 rfl rfl 18 (by decide) (hts _ wd_581) (fun _ h9 => h9) rfl d_Md_best_24 ?_
        refine zn_icmp_gt (tgt := 72) hx hb (a := i) (b := mB) (by omega) (by omega) d_Md_best_27 (by decide) (fun c_27 => ?_) (fun c_27 => ?_)
        · refine lv_iload_n hx hb d_Md_best_72 rfl (lv_at hl 2 rfl) ?_
          exact W.iret hx hb hr (fun t ht hW => ⟨by rw [h3, show i - 1 = mB by omega], ht⟩) (fun q h => by cases h) d_Md_best_73
        · refine lv_aload_n hx hb d_Md_best_30 rfl (lv_at hl 0 rfl) ?_
          refine va_get (D := (dC, dI)) (ci := 6) (v := .ref gT) (C := R_Md) (T := F_Md) (N := 21) hx hb hts i_Md hown hK hP 0 rfl rfl 13 (by decide) (hts _ wd_576) (fun _ h9 => h9) rfl d_Md_best_31 ?_
          refine lv_iload_n hx hb d_Md_best_34 rfl (lv_at hl 3 rfl) ?_
          refine zn_zald hx hb hK hP 3 2 rfl rfl (i := i) (by omega) (by omega) d_Md_best_35 ?_
          refine zb_if_eq (tgt := 66) hx hb d_Md_best_36 (by decide) (fun c_36 => ?_) (fun c_36 => ?_)
          · refine lv_iinc (v := (nI (i + 1))) (lv' := [(3, .int (nI (i + 1))), (0, .ref h0), (1, .int (nI pg)), (2, .int (nI n))]) hx hb d_Md_best_66 hl (k := 3) rfl (nI_1 _) (by decide) rfl (fun ls hl => ?_)
            refine lv_goto (tgt := 22) hx hb d_Md_best_69 (by decide) ?_
            exact ih (i + 1) n (by omega) (by first | omega | assumption) (by first | omega | assumption) (by rw [Nat.add_sub_cancel, zbst_pos (by omega), if_neg (by rw [c_36]; decide)]; exact h3) (by omega) ls (lv_sub hl [1, 2, 3, 0] rfl)
          · refine lv_aload_n hx hb d_Md_best_39 rfl (lv_at hl 0 rfl) ?_
            refine va_get (D := (dC, dI)) (ci := 6) (v := .ref gC) (C := R_Md) (T := F_Md) (N := 21) hx hb hts i_Md hown hK hP 0 rfl rfl 17 (by decide) (hts _ wd_580) (fun _ h9 => h9) rfl d_Md_best_40 ?_
            refine lv_iload_n hx hb d_Md_best_43 rfl (lv_at hl 3 rfl) ?_
            refine lv_bipush (v := (nI 8)) hx hb d_Md_best_44 (by decide) ?_
            refine zn_imul hx hb d_Md_best_46 ?_
            refine lv_iload_n hx hb d_Md_best_47 rfl (lv_at hl 1 rfl) ?_
            refine zn_iadd hx hb d_Md_best_48 ?_
            refine zn_iald hx hb hK hP 4 0 rfl rfl (i := (i * 8) + pg) (by omega) (by omega) d_Md_best_49 ?_
            refine lv_iload_n hx hb d_Md_best_50 rfl (lv_at hl 2 rfl) ?_
            refine lv_icmp_le (tgt := 66) hx hb d_Md_best_51 (by decide) (fun c_51 => ?_) (fun c_51 => ?_)
            · have h7 := (okc_le (hcp (i * 8 + pg)) (by omega)).mp c_51
              refine lv_iinc (v := (nI (i + 1))) (lv' := [(3, .int (nI (i + 1))), (0, .ref h0), (1, .int (nI pg)), (2, .int (nI n))]) hx hb d_Md_best_66 hl (k := 3) rfl (nI_1 _) (by decide) rfl (fun ls hl => ?_)
              refine lv_goto (tgt := 22) hx hb d_Md_best_69 (by decide) ?_
              exact ih (i + 1) n (by omega) (by first | omega | assumption) (by first | omega | assumption) (by rw [Nat.add_sub_cancel, zbst_pos (by omega), if_pos c_36, ← h3, Nat.max_eq_left h7]) (by omega) ls (lv_sub hl [1, 2, 3, 0] rfl)
            · refine lv_aload_n hx hb d_Md_best_54 rfl (lv_at hl 0 rfl) ?_
              refine va_get (D := (dC, dI)) (ci := 6) (v := .ref gC) (C := R_Md) (T := F_Md) (N := 21) hx hb hts i_Md hown hK hP 0 rfl rfl 17 (by decide) (hts _ wd_580) (fun _ h9 => h9) rfl d_Md_best_55 ?_
              refine lv_iload_n hx hb d_Md_best_58 rfl (lv_at hl 3 rfl) ?_
              refine lv_bipush (v := (nI 8)) hx hb d_Md_best_59 (by decide) ?_
              refine zn_imul hx hb d_Md_best_61 ?_
              refine lv_iload_n hx hb d_Md_best_62 rfl (lv_at hl 1 rfl) ?_
              refine zn_iadd hx hb d_Md_best_63 ?_
              refine zn_iald hx hb hK hP 4 0 rfl rfl (i := (i * 8) + pg) (by omega) (by omega) d_Md_best_64 ?_
              refine lv_istore_n (lv' := [(2, .int (cp ((i * 8) + pg))), (0, .ref h0), (1, .int (nI pg)), (3, .int (nI i))]) hx hb d_Md_best_65 rfl hl (by decide) rfl (fun ls hl => ?_)
              have h7 : ¬ kN (cp (i * 8 + pg)) ≤ n := fun q => c_51 ((okc_le (hcp (i * 8 + pg)) (by omega)).mpr q)
              obtain ⟨h8, h9⟩ : cp (i * 8 + pg) = nI (kN (cp (i * 8 + pg))) ∧ kN (cp (i * 8 + pg)) ≤ 1000 := by
                rcases hcp (i * 8 + pg) with q | q
                · rw [q, kN_m1] at h7; omega
                · exact q
              have hl : lv_has ls 4 [(2, .int (nI (kN (cp (i * 8 + pg))))), (0, .ref h0), (1, .int (nI pg)), (3, .int (nI i))] := by rw [← h8]; exact hl
              refine lv_iinc (v := (nI (i + 1))) (lv' := [(3, .int (nI (i + 1))), (2, .int (nI (kN (cp (i * 8 + pg))))), (0, .ref h0), (1, .int (nI pg))]) hx hb d_Md_best_66 hl (k := 3) rfl (nI_1 _) (by decide) rfl (fun ls hl => ?_)
              refine lv_goto (tgt := 22) hx hb d_Md_best_69 (by decide) ?_
              exact ih (i + 1) (kN (cp (i * 8 + pg))) (by omega) (by first | omega | assumption) (by first | omega | assumption) (by rw [Nat.add_sub_cancel, zbst_pos (by omega), if_pos c_36, ← h3, Nat.max_eq_right (by omega)]) (by omega) ls (lv_sub hl [2, 3, 1, 0] rfl)
    exact loop_22 (mB + 1 - 1 + 1) 1 (mi pg) (by omega) (by first | omega | assumption) (by first | omega | assumption) (by simp [zbst, c_6]) (by omega) ls (lv_sub hl [2, 3, 1, 0] rfl)
end
section
/-! the reference's UNDO, in its own steps -/
def zvv (w : Int64) : Int32 := if w = 1000000000000 then 0 else w.toInt32
def zv (mk mv : Nat → Int32) (mh : Nat → Bool) (mm : Nat → Nat) (L ch : Nat) : Nat → (Nat → Int32) × (Nat → Int32) × (Nat → Bool)
  | 0 => (mk, mv, mh)
  | d + 1 => (va_up (zv mk mv mh mm L ch d).1 (L + d + 1) ((zv mk mv mh mm L ch d).1 (mm (ch - (d + 1)))),
      va_up (zv mk mv mh mm L ch d).2.1 (L + d + 1) (zvv (zaf (zv mk mv mh mm L ch d).1 (zv mk mv mh mm L ch d).2.1 (zv mk mv mh mm L ch d).2.2 ((zv mk mv mh mm L ch d).1 (mm (ch - (d + 1)))) (mm (ch - (d + 1)) - 1))),
      va_up (zv mk mv mh mm L ch d).2.2 (L + d + 1) (decide (¬ zaf (zv mk mv mh mm L ch d).1 (zv mk mv mh mm L ch d).2.1 (zv mk mv mh mm L ch d).2.2 ((zv mk mv mh mm L ch d).1 (mm (ch - (d + 1)))) (mm (ch - (d + 1)) - 1) = 1000000000000)))
def zvK (mk mv : Nat → Int32) (mh : Nat → Bool) (mm : Nat → Nat) (L ch : Nat) : Nat → Int32 := if ch = 0 then mk else va_up (zv mk mv mh mm L ch ch).1 (L + ch + 1) (-2)
def zvV (mk mv : Nat → Int32) (mh : Nat → Bool) (mm : Nat → Nat) (L ch : Nat) : Nat → Int32 := if ch = 0 then mv else va_up (zv mk mv mh mm L ch ch).2.1 (L + ch + 1) (nI 0)
def zvH (mk mv : Nat → Int32) (mh : Nat → Bool) (mm : Nat → Nat) (L ch : Nat) : Nat → Bool := if ch = 0 then mh else va_up (zv mk mv mh mm L ch ch).2.2 (L + ch + 1) false
theorem lgz {x y : Int64} : lg_cmp x y = 0 ↔ x = y := by
  unfold lg_cmp
  by_cases h1 : y < x
  · simp only [h1, if_true]
    refine ⟨fun h => absurd h (by decide), fun h => ?_⟩
    subst h
    exact absurd h1 Int64.lt_irrefl
  · by_cases h2 : x = y
    · subst h2; simp [h1]
    · simp only [h1, h2, if_false]
      exact ⟨fun h => absurd h (by decide), fun h => h.elim⟩
/-- kept backups whose number is below next are kept no more -/
def zdrop (mt : Nat → Bool) : Nat → Nat → Bool
  | 0 => mt
  | n + 1 => va_up (zdrop mt n) n false
/-- images taken while pages a .. a + j are visited -/
def zvis (cp : Nat → Int32) (nu : Nat → Nat) (b p0 s0 : Nat) (fl : Bool) : Nat → Nat → Int32
  | 0 => cp
  | j + 1 => if fl = true ∨ s0 < nu (p0 + j) then va_up (zvis cp nu b p0 s0 fl j) (b * 8 + (p0 + j)) (nI (nu (p0 + j))) else zvis cp nu b p0 s0 fl j
def zclr (cp : Nat → Int32) (b : Nat) : Nat → Nat → Int32
  | 0 => cp
  | j + 1 => va_up (zclr cp b j) (b * 8 + j) (-1)
/-- sums of changes over the pages -/
def zsum (mk : Nat → Int32) (a : Nat → Nat) (u : Nat) : Nat → Nat
  | 0 => 0
  | p + 1 => zsum mk a u p + zcho mk p (a p) u
theorem zsum_le (mk : Nat → Int32) (a : Nat → Nat) (u : Nat) : ∀ p, zsum mk a u p ≤ p * u
  | 0 => by simp [zsum]
  | p + 1 => by
    have h1 := zsum_le mk a u p
    have h2 := zcho_le mk p (a p) u
    simp only [zsum]
    rw [Nat.add_mul]
    omega
def zunr (mr : Nat → Bool) : Nat → Nat → Bool
  | 0 => mr
  | n + 1 => va_up (zunr mr n) n false
/-- how many places of a kind say that there is an image -/
def zimk (mt : Nat → Bool) (cp : Nat → Int32) (pg : Nat) : Nat → Nat
  | 0 => 0
  | n + 1 => zimk mt cp pg n + (if mt (n + 1) = true ∧ ¬ cp ((n + 1) * 8 + pg) < 0 then 1 else 0)
theorem zimk_pos {mt : Nat → Bool} {cp : Nat → Int32} {pg i : Nat} (h : 0 < i) : zimk mt cp pg i = zimk mt cp pg (i - 1) + (if mt i = true ∧ ¬ cp (i * 8 + pg) < 0 then 1 else 0) := by
  cases i with
  | zero => omega
  | succ n => rfl
def zimb (cp : Nat → Int32) (b : Nat) : Nat → Nat
  | 0 => 0
  | p + 1 => zimb cp b p + (if ¬ cp (b * 8 + p) < 0 then 1 else 0)
/-- the last kept backup whose END is below m, 0 if none -/
def zlst (mt : Nat → Bool) (me : Nat → Nat) (m : Nat) : Nat → Nat
  | 0 => 0
  | n + 1 => if mt (n + 1) = true ∧ me (n + 1) < m then n + 1 else zlst mt me m n
theorem zlst_pos {mt : Nat → Bool} {me : Nat → Nat} {m i : Nat} (h : 0 < i) : zlst mt me m i = if mt i = true ∧ me i < m then i else zlst mt me m (i - 1) := by
  cases i with
  | zero => omega
  | succ n => rfl
theorem zlst_le (mt : Nat → Bool) (me : Nat → Nat) (m : Nat) : ∀ n, zlst mt me m n ≤ n
  | 0 => Nat.le_refl _
  | n + 1 => by
    have := zlst_le mt me m n
    simp only [zlst]
    split <;> omega
/-- the number of the page's latest image in the backups up to b, 0 if none -/
def zimg (cp : Nat → Int32) (pg : Nat) : Nat → Nat
  | 0 => 0
  | n + 1 => if ¬ cp ((n + 1) * 8 + pg) < 0 then kN (cp ((n + 1) * 8 + pg)) else zimg cp pg n
theorem zimg_pos {cp : Nat → Int32} {pg i : Nat} (h : 0 < i) : zimg cp pg i = if ¬ cp (i * 8 + pg) < 0 then kN (cp (i * 8 + pg)) else zimg cp pg (i - 1) := by
  cases i with
  | zero => omega
  | succ n => rfl
theorem okc_nn {x : Int32} (h : okc x) (h2 : ¬ x < 0) : x = nI (kN x) ∧ kN x ≤ 1000 := by
  rcases h with h | h
  · subst h; exact absurd (by decide) h2
  · exact h
set_option maxHeartbeats 4000000 in
set_option maxRecDepth 100000 in
theorem c_Md_undo (l : Launch) (dC : Nat → ClassId) (dI : Nat → Nat → Nat) (cT : Nat → ClassId) (sz : Nat) (h0 : Nat) (mS : Nat) (mQ : Nat) (gK : Nat) (gV : Nat) (gH : Nat) (mL : Nat) (mo : Bool) (gM : Nat) (mch : Nat) (mA : Nat) (mP : Nat) (gI : Nat) (gR : Nat) (gT : Nat) (gF : Nat) (gS : Nat) (gE : Nat) (gC : Nat) (mB : Nat) (ml : Int32) (mz : Int32) (mk : Nat → Int32) (mv : Nat → Int32) (mh : Nat → Bool) (mm : Nat → Nat) (hch : mch ≤ 4) (hLu : mL + mch + 1 ≤ 1000) (hmm : ∀ j, j < mch → 1 ≤ mm j ∧ mm j ≤ mL) : Met l y_Md_undo w_Md_undo ({ frames := 1, cells := 0, slots := 0, locals := 23 } : Room) (zPre (dC, dI) vwCl (zT cT) [.ref h0] ([(h0, .inr (6, [.int (nI mS), .int (nI mQ), .ref gK, .ref gV, .ref gH, .int (nI mL), .int (zb mo), .ref gM, .int (nI mch), .int (nI mA), .int (nI mP), .ref gI, .ref gR, .ref gT, .ref gF, .ref gS, .ref gE, .ref gC, .int (nI mB), .int ml, .int mz])), (gK, .inl (cT 0, 1100, .inl mk)), (gV, .inl (cT 0, 1100, .inl mv)), (gH, .inl (cT 2, 1100, .inl (fun j => zb (mh j)))), (gM, .inl (cT 0, 4, .inl (fun j => nI (mm j))))]) sz) (zQ (dC, dI) vwCl (S := Unit) (fun zu => True) (fun zu => none) (fun zu => [(h0, .inr (6, [.int (nI mS), .int (nI mQ), .ref gK, .ref gV, .ref gH, .int (nI (zuL mL mch)), .int (zb false), .ref gM, .int (nI 0), .int (nI mA), .int (nI mP), .ref gI, .ref gR, .ref gT, .ref gF, .ref gS, .ref gE, .ref gC, .int (nI mB), .int ml, .int mz])), (gK, .inl (cT 0, 1100, .inl (zvK mk mv mh mm mL mch))), (gV, .inl (cT 0, 1100, .inl (zvV mk mv mh mm mL mch))), (gH, .inl (cT 2, 1100, .inl (fun j => zb ((zvH mk mv mh mm mL mch) j)))), (gM, .inl (cT 0, 4, .inl (fun j => nI (mm j))))]) (va_A ([(h0, .inr (6, [.int (nI mS), .int (nI mQ), .ref gK, .ref gV, .ref gH, .int (nI mL), .int (zb mo), .ref gM, .int (nI mch), .int (nI mA), .int (nI mP), .ref gI, .ref gR, .ref gT, .ref gF, .ref gS, .ref gE, .ref gC, .int (nI mB), .int ml, .int mz])), (gK, .inl (cT 0, 1100, .inl mk)), (gV, .inl (cT 0, 1100, .inl mv)), (gH, .inl (cT 2, 1100, .inl (fun j => zb (mh j)))), (gM, .inl (cT 0, 4, .inl (fun j => nI (mm j))))]) sz)) 0 0 (va_A ([(h0, .inr (6, [.int (nI mS), .int (nI mQ), .ref gK, .ref gV, .ref gH, .int (nI mL), .int (zb mo), .ref gM, .int (nI mch), .int (nI mA), .int (nI mP), .ref gI, .ref gR, .ref gT, .ref gF, .ref gS, .ref gE, .ref gC, .int (nI mB), .int ml, .int mz])), (gK, .inl (cT 0, 1100, .inl mk)), (gV, .inl (cT 0, 1100, .inl mv)), (gH, .inl (cT 2, 1100, .inl (fun j => zb (mh j)))), (gM, .inl (cT 0, 4, .inl (fun j => nI (mm j))))]) sz) := by
  refine Met.ofW (cc := b_Md_undo) (maxL := 5) (ret := none) (by decide) rfl ?_
  intro p e s m args below meth c s₁ B hml hv
  obtain ⟨rfl, hsz, hP, hK, hD0, hE⟩ := hv
  have hx := B.exec
  have hb := B.bytes
  have hr := B.returns
  have hts := fun w h => atoms_spec (ws := w_Md_undo) B.pre w (List.mem_cons_of_mem _ h)
  have hown : s.vm.findClass R_Md = some m.cls := findClass_of_methodNamed B.named
  have hlocks := B.notSynchronized
  subst hsz
  have hD := hD0.self (sz := s.heap.size)
  generalize hAe : va_A ([(h0, .inr (6, [.int (nI mS), .int (nI mQ), .ref gK, .ref gV, .ref gH, .int (nI mL), .int (zb mo), .ref gM, .int (nI mch), .int (nI mA), .int (nI mP), .ref gI, .ref gR, .ref gT, .ref gF, .ref gS, .ref gE, .ref gC, .int (nI mB), .int ml, .int mz])), (gK, .inl (cT 0, 1100, .inl mk)), (gV, .inl (cT 0, 1100, .inl mv)), (gH, .inl (cT 2, 1100, .inl (fun j => zb (mh j)))), (gM, .inl (cT 0, 4, .inl (fun j => nI (mm j))))]) s.heap.size = A at hD ⊢
  have hA : ∀ q : Nat, s.heap.size ≤ q → A q := fun q h => by rw [← hAe]; exact Or.inr h
  have hS : va_S A s.heap s.heap [] := va_S.rf
  have hl := lv_entry ([.ref h0]) (n := 5) (Nat.le_of_ble_eq_true rfl)
  rw [lg_entry_eq]
  generalize (lg_sl ([.ref h0]) ++ List.replicate (5 - (lg_sl ([.ref h0])).length) Slot.unset).toArray = ls at hl ⊢
  have hl : lv_has ls 5 [(0, .ref h0)] := hl
  refine lv_aload_n hx hb d_Md_undo_0 rfl (lv_at hl 0 rfl) ?_
  refine va_get (D := (dC, dI)) (ci := 6) (v := .int (nI mch)) (C := R_Md) (T := F_Md) (N := 21) hx hb hts i_Md hown hK hP 0 rfl rfl 8 (by decide) (hts _ wd_571) (fun _ h9 => h9) rfl d_Md_undo_1 ?_
  refine lv_iconst (v := (nI 1)) hx hb d_Md_undo_4 (by decide) ?_
  refine lv_isub hx hb d_Md_undo_5 ?_
  refine lv_istore_n (lv' := [(1, .int ((nI mch) - (nI 1))), (0, .ref h0)]) hx hb d_Md_undo_6 rfl hl (by decide) rfl (fun ls hl => ?_)
  have loop_7 : ∀ (fu : Nat) (d : Nat), mch - d < fu → (d ≤ mch) → ∀ (H : Heap) (locs : List Loc), va_P (dC, dI) vwCl ([(h0, .inr (6, [.int (nI mS), .int (nI mQ), .ref gK, .ref gV, .ref gH, .int (nI (mL + d)), .int (zb mo), .ref gM, .int (nI mch), .int (nI mA), .int (nI mP), .ref gI, .ref gR, .ref gT, .ref gF, .ref gS, .ref gE, .ref gC, .int (nI mB), .int ml, .int mz])), (gK, .inl (cT 0, 1100, .inl ((zv mk mv mh mm mL mch d).1))), (gV, .inl (cT 0, 1100, .inl ((zv mk mv mh mm mL mch d).2.1))), (gH, .inl (cT 2, 1100, .inl (fun j => zb (((zv mk mv mh mm mL mch d).2.2) j)))), (gM, .inl (cT 0, 4, .inl (fun j => nI (mm j))))]) H → va_D A ([(h0, .inr (6, [.int (nI mS), .int (nI mQ), .ref gK, .ref gV, .ref gH, .int (nI (mL + d)), .int (zb mo), .ref gM, .int (nI mch), .int (nI mA), .int (nI mP), .ref gI, .ref gR, .ref gT, .ref gF, .ref gS, .ref gE, .ref gC, .int (nI mB), .int ml, .int mz])), (gK, .inl (cT 0, 1100, .inl ((zv mk mv mh mm mL mch d).1))), (gV, .inl (cT 0, 1100, .inl ((zv mk mv mh mm mL mch d).2.1))), (gH, .inl (cT 2, 1100, .inl (fun j => zb (((zv mk mv mh mm mL mch d).2.2) j)))), (gM, .inl (cT 0, 4, .inl (fun j => nI (mm j))))]) → va_S A s.heap H locs → ∀ (ls : Array Slot), lv_has ls 5 [(0, .ref h0), (1, .int (nI (mch - d) - 1))] → W p l e (headSpec w_Md_undo ({ frames := 1, cells := 0, slots := 0, locals := 23 } : Room)).room s m ([.ref h0] : List Value).toArray below meth c H locs 0 0 (MQ below (zQ (dC, dI) vwCl (S := Unit) (fun zu => True) (fun zu => none) (fun zu => [(h0, .inr (6, [.int (nI mS), .int (nI mQ), .ref gK, .ref gV, .ref gH, .int (nI (zuL mL mch)), .int (zb false), .ref gM, .int (nI 0), .int (nI mA), .int (nI mP), .ref gI, .ref gR, .ref gT, .ref gF, .ref gS, .ref gE, .ref gC, .int (nI mB), .int ml, .int mz])), (gK, .inl (cT 0, 1100, .inl (zvK mk mv mh mm mL mch))), (gV, .inl (cT 0, 1100, .inl (zvV mk mv mh mm mL mch))), (gH, .inl (cT 2, 1100, .inl (fun j => zb ((zvH mk mv mh mm mL mch) j)))), (gM, .inl (cT 0, 4, .inl (fun j => nI (mm j))))]) A) ([.ref h0] : List Value).toArray s 0 0 A) (F0 m 7 ls []) := by
    intro fu
    induction fu with
    | zero => intro _ hm; exact absurd hm (Nat.not_lt_zero _)
    | succ fu ih =>
      intro d hm h1 H locs hP hD hS ls hl
      rcases Nat.lt_or_ge d mch with hlt | hge
      · have e7 : (nI (mch - d) - 1 : Int32) = nI (mch - (d + 1)) := by rw [show mch - d = (mch - (d + 1)) + 1 by omega, nI_pred]
        have hl : lv_has ls 5 [(0, .ref h0), (1, .int (nI (mch - (d + 1))))] := by rw [← e7]; exact hl
        have hm1 := hmm (mch - (d + 1)) (by omega)
        refine lv_iload_n hx hb d_Md_undo_7 rfl (lv_at hl 1 rfl) ?_
        refine zn_if_lt (tgt := 85) hx hb (a := mch - (d + 1)) (by omega) d_Md_undo_8 (by decide) (fun c => c.elim) (fun _ => ?_)
        refine lv_aload_n hx hb d_Md_undo_11 rfl (lv_at hl 0 rfl) ?_
        refine lv_aload_n hx hb d_Md_undo_12 rfl (lv_at hl 0 rfl) ?_
        refine va_get (D := (dC, dI)) (ci := 6) (v := .ref gM) (C := R_Md) (T := F_Md) (N := 21) hx hb hts i_Md hown hK hP 0 rfl rfl 7 (by decide) (hts _ wd_570) (fun _ h9 => h9) rfl d_Md_undo_13 ?_
        refine lv_iload_n hx hb d_Md_undo_16 rfl (lv_at hl 1 rfl) ?_
        refine zn_iald hx hb hK hP 4 0 rfl rfl (i := mch - (d + 1)) (by omega) (by omega) d_Md_undo_17 ?_
        refine lv_iconst (v := (nI 1)) hx hb d_Md_undo_18 (by decide) ?_
        refine zn_isub hx hb (by omega) d_Md_undo_19 ?_
        refine lv_aload_n hx hb d_Md_undo_20 rfl (lv_at hl 0 rfl) ?_
        refine va_get (D := (dC, dI)) (ci := 6) (v := .ref gK) (C := R_Md) (T := F_Md) (N := 21) hx hb hts i_Md hown hK hP 0 rfl rfl 2 (by decide) (hts _ wd_565) (fun _ h9 => h9) rfl d_Md_undo_21 ?_
        refine lv_aload_n hx hb d_Md_undo_24 rfl (lv_at hl 0 rfl) ?_
        refine va_get (D := (dC, dI)) (ci := 6) (v := .ref gM) (C := R_Md) (T := F_Md) (N := 21) hx hb hts i_Md hown hK hP 0 rfl rfl 7 (by decide) (hts _ wd_570) (fun _ h9 => h9) rfl d_Md_undo_25 ?_
        refine lv_iload_n hx hb d_Md_undo_28 rfl (lv_at hl 1 rfl) ?_
        refine zn_iald hx hb hK hP 4 0 rfl rfl (i := mch - (d + 1)) (by omega) (by omega) d_Md_undo_29 ?_
        refine zn_iald hx hb hK hP 1 0 rfl rfl (i := mm (mch - (d + 1))) (by omega) (by omega) d_Md_undo_30 ?_
        refine zw_R (r := .long (zaf ((zv mk mv mh mm mL mch d).1) ((zv mk mv mh mm mL mch d).2.1) ((zv mk mv mh mm mL mch d).2.2) (((zv mk mv mh mm mL mch d).1) (mm (mch - (d + 1)))) ((mm (mch - (d + 1))) - 1))) (va_runV (As := [.int (nI ((mm (mch - (d + 1))) - 1)), .int (((zv mk mv mh mm mL mch d).1) (mm (mch - (d + 1))))]) (rest := []) ⟨hx, hb, hml, hown, hts⟩ (c_Md_after l dC dI cT h0 mS mQ gK gV gH (mL + d) mo gM mch mA mP gI gR gT gF gS gE gC mB ml mz ((mm (mch - (d + 1))) - 1) (((zv mk mv mh mm mL mch d).1) (mm (mch - (d + 1)))) ((zv mk mv mh mm mL mch d).1) ((zv mk mv mh mm mL mch d).2.1) ((zv mk mv mh mm mL mch d).2.2) (by first | omega | assumption)) (cwV 2 hts (zgV wd_662 wd_664 wp_12 wd_11 wd_665) rfl rfl rfl (by decide +kernel) ⟨Nat.le_of_ble_eq_true rfl, Nat.le_of_ble_eq_true rfl⟩) ⟨zPreR_blind, va_recv hK hP (ci := 6) (q0 := 0) rfl rfl, zp_R hK hE (zSub (X := [(h0, .inr (6, [.int (nI mS), .int (nI mQ), .ref gK, .ref gV, .ref gH, .int (nI (mL + d)), .int (zb mo), .ref gM, .int (nI mch), .int (nI mA), .int (nI mP), .ref gI, .ref gR, .ref gT, .ref gF, .ref gS, .ref gE, .ref gC, .int (nI mB), .int ml, .int mz])), (gK, .inl (cT 0, 1100, .inl ((zv mk mv mh mm mL mch d).1))), (gV, .inl (cT 0, 1100, .inl ((zv mk mv mh mm mL mch d).2.1))), (gH, .inl (cT 2, 1100, .inl (fun j => zb (((zv mk mv mh mm mL mch d).2.2) j)))), (gM, .inl (cT 0, 4, .inl (fun j => nI (mm j))))]) (pl := []) hP [0, 1, 2, 3] rfl)⟩ rfl rfl hl.1 rfl (lv_room (Nat.le_of_ble_eq_true rfl)) d_Md_undo_31 ⟨Nat.le_of_ble_eq_true rfl, Nat.le_of_ble_eq_true rfl⟩) ?_
        refine lv_topl (fun was ewas => ?_)
        refine lv_lstore_n (lv' := [(2, .long was), (0, .ref h0), (1, .int (nI (mch - (d + 1))))]) hx hb d_Md_undo_34 rfl hl (by decide) rfl (fun ls hl => ?_)
        refine lv_aload_n hx hb d_Md_undo_35 rfl (lv_at hl 1 rfl) ?_
        refine lv_aload_n hx hb d_Md_undo_36 rfl (lv_at hl 1 rfl) ?_
        refine va_get (D := (dC, dI)) (ci := 6) (v := .ref gK) (C := R_Md) (T := F_Md) (N := 21) hx hb hts i_Md hown hK hP 0 rfl rfl 2 (by decide) (hts _ wd_565) (fun _ h9 => h9) rfl d_Md_undo_37 ?_
        refine lv_aload_n hx hb d_Md_undo_40 rfl (lv_at hl 1 rfl) ?_
        refine va_get (D := (dC, dI)) (ci := 6) (v := .ref gM) (C := R_Md) (T := F_Md) (N := 21) hx hb hts i_Md hown hK hP 0 rfl rfl 7 (by decide) (hts _ wd_570) (fun _ h9 => h9) rfl d_Md_undo_41 ?_
        refine lv_iload_n hx hb d_Md_undo_44 rfl (lv_at hl 2 rfl) ?_
        refine zn_iald hx hb hK hP 4 0 rfl rfl (i := mch - (d + 1)) (by omega) (by omega) d_Md_undo_45 ?_
        refine zn_iald hx hb hK hP 1 0 rfl rfl (i := mm (mch - (d + 1))) (by omega) (by omega) d_Md_undo_46 ?_
        refine lv_lload_n hx hb d_Md_undo_47 rfl (lv_at hl 0 rfl) ?_
        refine lv_ldc2 (v := 1000000000000) hx hb hown (hts _ wd_666) d_Md_undo_48 ?_
        refine W.lcmp hx hb d_Md_undo_51 ?_
        refine lv_if_ne (tgt := 59) hx hb d_Md_undo_52 (by decide) (fun c_52 => ?_) (fun c_52 => ?_)
        · refine lv_lload_n hx hb d_Md_undo_59 rfl (lv_at hl 0 rfl) ?_
          refine lv_l2i hx hb d_Md_undo_60 rfl ?_
          refine W.eq (congrArg (fun z => F0 m 61 ls [.int z, .int (((zv mk mv mh mm mL mch d).1) (mm (mch - (d + 1)))), .ref h0]) (show was.toInt32 = zvv was from by rw [zvv, if_neg (fun q => c_52 (lgz.mpr q))])) ?_
          refine lv_lload_n hx hb d_Md_undo_61 rfl (lv_at hl 0 rfl) ?_
          refine lv_ldc2 (v := 1000000000000) hx hb hown (hts _ wd_666) d_Md_undo_62 ?_
          refine W.lcmp hx hb d_Md_undo_65 ?_
          refine lv_if_eq (tgt := 73) hx hb d_Md_undo_66 (by decide) (fun c_66 => ?_) (fun c_66 => ?_)
          · exact absurd c_66 c_52
          · refine lv_iconst (v := (nI 1)) hx hb d_Md_undo_69 (by decide) ?_
            refine lv_goto (tgt := 74) hx hb d_Md_undo_70 (by decide) ?_
            refine W.eq (congrArg (fun z => F0 m 74 ls [.int z, .int (zvv was), .int (((zv mk mv mh mm mL mch d).1) (mm (mch - (d + 1)))), .ref h0]) (show (nI 1) = zb (decide (¬ was = 1000000000000)) from by rw [decide_eq_true (show ¬ was = 1000000000000 from fun q => c_66 (lgz.mpr q))]; rfl)) ?_
            refine zw_Q (X := [(h0, .inr (6, [.int (nI mS), .int (nI mQ), .ref gK, .ref gV, .ref gH, .int (nI (mL + d)), .int (zb mo), .ref gM, .int (nI mch), .int (nI mA), .int (nI mP), .ref gI, .ref gR, .ref gT, .ref gF, .ref gS, .ref gE, .ref gC, .int (nI mB), .int ml, .int mz])), (gK, .inl (cT 0, 1100, .inl ((zv mk mv mh mm mL mch d).1))), (gV, .inl (cT 0, 1100, .inl ((zv mk mv mh mm mL mch d).2.1))), (gH, .inl (cT 2, 1100, .inl (fun j => zb (((zv mk mv mh mm mL mch d).2.2) j)))), (gM, .inl (cT 0, 4, .inl (fun j => nI (mm j))))]) (pl := []) (va_runV (As := [.int (((zv mk mv mh mm mL mch d).1) (mm (mch - (d + 1)))), .int (zvv was), .int (zb (decide (¬ was = 1000000000000)))]) (rest := []) ⟨hx, hb, hml, hown, hts⟩ (c_Md_log l dC dI cT H.size h0 mS mQ gK gV gH (mL + d) mo gM mch mA mP gI gR gT gF gS gE gC mB ml mz (((zv mk mv mh mm mL mch d).1) (mm (mch - (d + 1)))) (zvv was) (decide (¬ was = 1000000000000)) ((zv mk mv mh mm mL mch d).1) ((zv mk mv mh mm mL mch d).2.1) ((zv mk mv mh mm mL mch d).2.2) (by first | omega | assumption)) (cwV 3 hts (zgV wd_642 wd_644 wp_9 wd_11 wd_645) rfl rfl rfl (by decide +kernel) ⟨Nat.le_of_ble_eq_true rfl, Nat.le_of_ble_eq_true rfl⟩) ⟨zPre_blind, va_recv hK hP (ci := 6) (q0 := 0) rfl rfl, zp_Q (X := [(h0, .inr (6, [.int (nI mS), .int (nI mQ), .ref gK, .ref gV, .ref gH, .int (nI (mL + d)), .int (zb mo), .ref gM, .int (nI mch), .int (nI mA), .int (nI mP), .ref gI, .ref gR, .ref gT, .ref gF, .ref gS, .ref gE, .ref gC, .int (nI mB), .int ml, .int mz])), (gK, .inl (cT 0, 1100, .inl ((zv mk mv mh mm mL mch d).1))), (gV, .inl (cT 0, 1100, .inl ((zv mk mv mh mm mL mch d).2.1))), (gH, .inl (cT 2, 1100, .inl (fun j => zb (((zv mk mv mh mm mL mch d).2.2) j)))), (gM, .inl (cT 0, 4, .inl (fun j => nI (mm j))))]) (pl := []) hK hE hP hD [0, 1, 2, 3] (by decide) rfl⟩ rfl rfl hl.1 rfl (lv_room (Nat.le_of_ble_eq_true rfl)) d_Md_undo_74 ⟨Nat.le_of_ble_eq_true rfl, Nat.le_of_ble_eq_true rfl⟩) hP hD hS hA [0, 1, 2, 3] [4] rfl (wr := [(gM, .inl (cT 0, 4, .inl (fun j => nI (mm j))))]) rfl (by decide) (by decide) (fun zu => [.int (nI ((mL + d) + 1))]) (fun _ => rfl) (fun zu H locs hφ hP hD hS => ?_)
            have hP : va_P (dC, dI) vwCl ([(gM, .inl (cT 0, 4, .inl (fun j => nI (mm j)))), (h0, .inr (6, [.int (nI mS), .int (nI mQ), .ref gK, .ref gV, .ref gH, .int (nI ((mL + d) + 1)), .int (zb mo), .ref gM, .int (nI mch), .int (nI mA), .int (nI mP), .ref gI, .ref gR, .ref gT, .ref gF, .ref gS, .ref gE, .ref gC, .int (nI mB), .int ml, .int mz])), (gK, .inl (cT 0, 1100, .inl (va_up ((zv mk mv mh mm mL mch d).1) ((mL + d) + 1) (((zv mk mv mh mm mL mch d).1) (mm (mch - (d + 1))))))), (gV, .inl (cT 0, 1100, .inl (va_up ((zv mk mv mh mm mL mch d).2.1) ((mL + d) + 1) (zvv was)))), (gH, .inl (cT 2, 1100, .inl (fun j => zb ((va_up ((zv mk mv mh mm mL mch d).2.2) ((mL + d) + 1) (decide (¬ was = 1000000000000))) j))))]) H := hP
            have hD : va_D A ([(gM, .inl (cT 0, 4, .inl (fun j => nI (mm j)))), (h0, .inr (6, [.int (nI mS), .int (nI mQ), .ref gK, .ref gV, .ref gH, .int (nI ((mL + d) + 1)), .int (zb mo), .ref gM, .int (nI mch), .int (nI mA), .int (nI mP), .ref gI, .ref gR, .ref gT, .ref gF, .ref gS, .ref gE, .ref gC, .int (nI mB), .int ml, .int mz])), (gK, .inl (cT 0, 1100, .inl (va_up ((zv mk mv mh mm mL mch d).1) ((mL + d) + 1) (((zv mk mv mh mm mL mch d).1) (mm (mch - (d + 1))))))), (gV, .inl (cT 0, 1100, .inl (va_up ((zv mk mv mh mm mL mch d).2.1) ((mL + d) + 1) (zvv was)))), (gH, .inl (cT 2, 1100, .inl (fun j => zb ((va_up ((zv mk mv mh mm mL mch d).2.2) ((mL + d) + 1) (decide (¬ was = 1000000000000))) j))))]) := hD
            refine lv_istore (lv' := [(4, .int (nI ((mL + d) + 1))), (2, .long was), (0, .ref h0), (1, .int (nI (mch - (d + 1))))]) hx hb d_Md_undo_77 hl (by decide) rfl (fun ls hl => ?_)
            refine lv_iinc (v := (nI (mch - (d + 1)) - 1)) (lv' := [(1, .int (nI (mch - (d + 1)) - 1)), (4, .int (nI ((mL + d) + 1))), (2, .long was), (0, .ref h0)]) hx hb d_Md_undo_79 hl (k := 3) rfl (zm1 _) (by decide) rfl (fun ls hl => ?_)
            refine lv_goto (tgt := 7) hx hb d_Md_undo_82 (by decide) ?_
            subst ewas
            exact ih (d + 1) (by omega) (by first | omega | assumption) H locs (hP.sub [1, 2, 3, 4, 0] rfl) (hD.sub [1, 2, 3, 4, 0] (by decide) rfl) hS ls (lv_sub hl [3, 0] rfl)
        · refine lv_iconst (v := (nI 0)) hx hb d_Md_undo_55 (by decide) ?_
          refine lv_goto (tgt := 61) hx hb d_Md_undo_56 (by decide) ?_
          refine W.eq (congrArg (fun z => F0 m 61 ls [.int z, .int (((zv mk mv mh mm mL mch d).1) (mm (mch - (d + 1)))), .ref h0]) (show (nI 0) = zvv was from by rw [zvv, if_pos (lgz.mp c_52)]; rfl)) ?_
          refine lv_lload_n hx hb d_Md_undo_61 rfl (lv_at hl 0 rfl) ?_
          refine lv_ldc2 (v := 1000000000000) hx hb hown (hts _ wd_666) d_Md_undo_62 ?_
          refine W.lcmp hx hb d_Md_undo_65 ?_
          refine lv_if_eq (tgt := 73) hx hb d_Md_undo_66 (by decide) (fun c_66 => ?_) (fun c_66 => ?_)
          · refine lv_iconst (v := (nI 0)) hx hb d_Md_undo_73 (by decide) ?_
            refine W.eq (congrArg (fun z => F0 m 74 ls [.int z, .int (zvv was), .int (((zv mk mv mh mm mL mch d).1) (mm (mch - (d + 1)))), .ref h0]) (show (nI 0) = zb (decide (¬ was = 1000000000000)) from by rw [decide_eq_false (show ¬ ¬ was = 1000000000000 from fun q => q (lgz.mp c_66))]; rfl)) ?_
            refine zw_Q (X := [(h0, .inr (6, [.int (nI mS), .int (nI mQ), .ref gK, .ref gV, .ref gH, .int (nI (mL + d)), .int (zb mo), .ref gM, .int (nI mch), .int (nI mA), .int (nI mP), .ref gI, .ref gR, .ref gT, .ref gF, .ref gS, .ref gE, .ref gC, .int (nI mB), .int ml, .int mz])), (gK, .inl (cT 0, 1100, .inl ((zv mk mv mh mm mL mch d).1))), (gV, .inl (cT 0, 1100, .inl ((zv mk mv mh mm mL mch d).2.1))), (gH, .inl (cT 2, 1100, .inl (fun j => zb (((zv mk mv mh mm mL mch d).2.2) j)))), (gM, .inl (cT 0, 4, .inl (fun j => nI (mm j))))]) (pl := []) (va_runV (As := [.int (((zv mk mv mh mm mL mch d).1) (mm (mch - (d + 1)))), .int (zvv was), .int (zb (decide (¬ was = 1000000000000)))]) (rest := []) ⟨hx, hb, hml, hown, hts⟩ (c_Md_log l dC dI cT H.size h0 mS mQ gK gV gH (mL + d) mo gM mch mA mP gI gR gT gF gS gE gC mB ml mz (((zv mk mv mh mm mL mch d).1) (mm (mch - (d + 1)))) (zvv was) (decide (¬ was = 1000000000000)) ((zv mk mv mh mm mL mch d).1) ((zv mk mv mh mm mL mch d).2.1) ((zv mk mv mh mm mL mch d).2.2) (by first | omega | assumption)) (cwV 3 hts (zgV wd_642 wd_644 wp_9 wd_11 wd_645) rfl rfl rfl (by decide +kernel) ⟨Nat.le_of_ble_eq_true rfl, Nat.le_of_ble_eq_true rfl⟩) ⟨zPre_blind, va_recv hK hP (ci := 6) (q0 := 0) rfl rfl, zp_Q (X := [(h0, .inr (6, [.int (nI mS), .int (nI mQ), .ref gK, .ref gV, .ref gH, .int (nI (mL + d)), .int (zb mo), .ref gM, .int (nI mch), .int (nI mA), .int (nI mP), .ref gI, .ref gR, .ref gT, .ref gF, .ref gS, .ref gE, .ref gC, .int (nI mB), .int ml, .int mz])), (gK, .inl (cT 0, 1100, .inl ((zv mk mv mh mm mL mch d).1))), (gV, .inl (cT 0, 1100, .inl ((zv mk mv mh mm mL mch d).2.1))), (gH, .inl (cT 2, 1100, .inl (fun j => zb (((zv mk mv mh mm mL mch d).2.2) j)))), (gM, .inl (cT 0, 4, .inl (fun j => nI (mm j))))]) (pl := []) hK hE hP hD [0, 1, 2, 3] (by decide) rfl⟩ rfl rfl hl.1 rfl (lv_room (Nat.le_of_ble_eq_true rfl)) d_Md_undo_74 ⟨Nat.le_of_ble_eq_true rfl, Nat.le_of_ble_eq_true rfl⟩) hP hD hS hA [0, 1, 2, 3] [4] rfl (wr := [(gM, .inl (cT 0, 4, .inl (fun j => nI (mm j))))]) rfl (by decide) (by decide) (fun zu => [.int (nI ((mL + d) + 1))]) (fun _ => rfl) (fun zu H locs hφ hP hD hS => ?_)
            have hP : va_P (dC, dI) vwCl ([(gM, .inl (cT 0, 4, .inl (fun j => nI (mm j)))), (h0, .inr (6, [.int (nI mS), .int (nI mQ), .ref gK, .ref gV, .ref gH, .int (nI ((mL + d) + 1)), .int (zb mo), .ref gM, .int (nI mch), .int (nI mA), .int (nI mP), .ref gI, .ref gR, .ref gT, .ref gF, .ref gS, .ref gE, .ref gC, .int (nI mB), .int ml, .int mz])), (gK, .inl (cT 0, 1100, .inl (va_up ((zv mk mv mh mm mL mch d).1) ((mL + d) + 1) (((zv mk mv mh mm mL mch d).1) (mm (mch - (d + 1))))))), (gV, .inl (cT 0, 1100, .inl (va_up ((zv mk mv mh mm mL mch d).2.1) ((mL + d) + 1) (zvv was)))), (gH, .inl (cT 2, 1100, .inl (fun j => zb ((va_up ((zv mk mv mh mm mL mch d).2.2) ((mL + d) + 1) (decide (¬ was = 1000000000000))) j))))]) H := hP
            have hD : va_D A ([(gM, .inl (cT 0, 4, .inl (fun j => nI (mm j)))), (h0, .inr (6, [.int (nI mS), .int (nI mQ), .ref gK, .ref gV, .ref gH, .int (nI ((mL + d) + 1)), .int (zb mo), .ref gM, .int (nI mch), .int (nI mA), .int (nI mP), .ref gI, .ref gR, .ref gT, .ref gF, .ref gS, .ref gE, .ref gC, .int (nI mB), .int ml, .int mz])), (gK, .inl (cT 0, 1100, .inl (va_up ((zv mk mv mh mm mL mch d).1) ((mL + d) + 1) (((zv mk mv mh mm mL mch d).1) (mm (mch - (d + 1))))))), (gV, .inl (cT 0, 1100, .inl (va_up ((zv mk mv mh mm mL mch d).2.1) ((mL + d) + 1) (zvv was)))), (gH, .inl (cT 2, 1100, .inl (fun j => zb ((va_up ((zv mk mv mh mm mL mch d).2.2) ((mL + d) + 1) (decide (¬ was = 1000000000000))) j))))]) := hD
            refine lv_istore (lv' := [(4, .int (nI ((mL + d) + 1))), (2, .long was), (0, .ref h0), (1, .int (nI (mch - (d + 1))))]) hx hb d_Md_undo_77 hl (by decide) rfl (fun ls hl => ?_)
            refine lv_iinc (v := (nI (mch - (d + 1)) - 1)) (lv' := [(1, .int (nI (mch - (d + 1)) - 1)), (4, .int (nI ((mL + d) + 1))), (2, .long was), (0, .ref h0)]) hx hb d_Md_undo_79 hl (k := 3) rfl (zm1 _) (by decide) rfl (fun ls hl => ?_)
            refine lv_goto (tgt := 7) hx hb d_Md_undo_82 (by decide) ?_
            subst ewas
            exact ih (d + 1) (by omega) (by first | omega | assumption) H locs (hP.sub [1, 2, 3, 4, 0] rfl) (hD.sub [1, 2, 3, 4, 0] (by decide) rfl) hS ls (lv_sub hl [3, 0] rfl)
          · exact absurd c_52 c_66
      · have e7 : (nI (mch - d) - 1 : Int32) = (-1) := by rw [show mch - d = 0 by omega]; decide
        have hl : lv_has ls 5 [(0, .ref h0), (1, .int (-1))] := by rw [← e7]; exact hl
        have hd : d = mch := by omega
        refine lv_iload_n hx hb d_Md_undo_7 rfl (lv_at hl 1 rfl) ?_
        refine lv_if_lt (tgt := 85) hx hb d_Md_undo_8 (by decide) (fun c_8 => ?_) (fun c_8 => absurd c_8 (fun q => q (by decide)))
        refine lv_aload_n hx hb d_Md_undo_85 rfl (lv_at hl 0 rfl) ?_
        refine va_get (D := (dC, dI)) (ci := 6) (v := .int (nI mch)) (C := R_Md) (T := F_Md) (N := 21) hx hb hts i_Md hown hK hP 0 rfl rfl 8 (by decide) (hts _ wd_571) (fun _ h9 => h9) rfl d_Md_undo_86 ?_
        refine zn_if_le (tgt := 101) hx hb (a := mch) (by omega) d_Md_undo_89 (by decide) (fun c_89 => ?_) (fun c_89 => ?_)
        · refine lv_aload_n hx hb d_Md_undo_101 rfl (lv_at hl 0 rfl) ?_
          refine lv_iconst (v := (nI 0)) hx hb d_Md_undo_102 (by decide) ?_
          refine va_put (D := (dC, dI)) (ci := 6) (v := .int (nI 0)) (ty := .int) (C := R_Md) (T := F_Md) (N := 21) hx hb hts i_Md t_Md t_Md_ok n_Md hown hK hP hD hS 0 rfl rfl 8 (by decide) (hts _ wd_571) (fun _ h9 => h9) rfl (by decide +kernel) rfl rfl (Nat.le_of_ble_eq_true rfl) d_Md_undo_103 (fun H locs hP hD hS => ?_)
          have hP : va_P (dC, dI) vwCl ([(h0, .inr (6, [.int (nI mS), .int (nI mQ), .ref gK, .ref gV, .ref gH, .int (nI (mL + d)), .int (zb mo), .ref gM, .int (nI 0), .int (nI mA), .int (nI mP), .ref gI, .ref gR, .ref gT, .ref gF, .ref gS, .ref gE, .ref gC, .int (nI mB), .int ml, .int mz])), (gK, .inl (cT 0, 1100, .inl ((zv mk mv mh mm mL mch d).1))), (gV, .inl (cT 0, 1100, .inl ((zv mk mv mh mm mL mch d).2.1))), (gH, .inl (cT 2, 1100, .inl (fun j => zb (((zv mk mv mh mm mL mch d).2.2) j)))), (gM, .inl (cT 0, 4, .inl (fun j => nI (mm j))))]) H := hP
          have hD : va_D A ([(h0, .inr (6, [.int (nI mS), .int (nI mQ), .ref gK, .ref gV, .ref gH, .int (nI (mL + d)), .int (zb mo), .ref gM, .int (nI 0), .int (nI mA), .int (nI mP), .ref gI, .ref gR, .ref gT, .ref gF, .ref gS, .ref gE, .ref gC, .int (nI mB), .int ml, .int mz])), (gK, .inl (cT 0, 1100, .inl ((zv mk mv mh mm mL mch d).1))), (gV, .inl (cT 0, 1100, .inl ((zv mk mv mh mm mL mch d).2.1))), (gH, .inl (cT 2, 1100, .inl (fun j => zb (((zv mk mv mh mm mL mch d).2.2) j)))), (gM, .inl (cT 0, 4, .inl (fun j => nI (mm j))))]) := hD
          refine lv_aload_n hx hb d_Md_undo_106 rfl (lv_at hl 0 rfl) ?_
          refine lv_iconst (v := (nI 0)) hx hb d_Md_undo_107 (by decide) ?_
          refine W.eq (g2 := F0 m 108 ls [.int (zb false), .ref h0]) rfl ?_
          refine va_put (D := (dC, dI)) (ci := 6) (v := .int (zb false)) (ty := .boolean) (C := R_Md) (T := F_Md) (N := 21) hx hb hts i_Md t_Md t_Md_ok n_Md hown hK hP hD hS 0 rfl rfl 6 (by decide) (hts _ wd_569) (fun _ h9 => h9) rfl (by decide +kernel) (zb_narrow _) (zb_fits _) (Nat.le_of_ble_eq_true rfl) d_Md_undo_108 (fun H locs hP hD hS => ?_)
          have hP : va_P (dC, dI) vwCl ([(h0, .inr (6, [.int (nI mS), .int (nI mQ), .ref gK, .ref gV, .ref gH, .int (nI (mL + d)), .int (zb false), .ref gM, .int (nI 0), .int (nI mA), .int (nI mP), .ref gI, .ref gR, .ref gT, .ref gF, .ref gS, .ref gE, .ref gC, .int (nI mB), .int ml, .int mz])), (gK, .inl (cT 0, 1100, .inl ((zv mk mv mh mm mL mch d).1))), (gV, .inl (cT 0, 1100, .inl ((zv mk mv mh mm mL mch d).2.1))), (gH, .inl (cT 2, 1100, .inl (fun j => zb (((zv mk mv mh mm mL mch d).2.2) j)))), (gM, .inl (cT 0, 4, .inl (fun j => nI (mm j))))]) H := hP
          have hD : va_D A ([(h0, .inr (6, [.int (nI mS), .int (nI mQ), .ref gK, .ref gV, .ref gH, .int (nI (mL + d)), .int (zb false), .ref gM, .int (nI 0), .int (nI mA), .int (nI mP), .ref gI, .ref gR, .ref gT, .ref gF, .ref gS, .ref gE, .ref gC, .int (nI mB), .int ml, .int mz])), (gK, .inl (cT 0, 1100, .inl ((zv mk mv mh mm mL mch d).1))), (gV, .inl (cT 0, 1100, .inl ((zv mk mv mh mm mL mch d).2.1))), (gH, .inl (cT 2, 1100, .inl (fun j => zb (((zv mk mv mh mm mL mch d).2.2) j)))), (gM, .inl (cT 0, 4, .inl (fun j => nI (mm j))))]) := hD
          have hP9 := hP.sub (ws' := [(h0, .inr (6, [.int (nI mS), .int (nI mQ), .ref gK, .ref gV, .ref gH, .int (nI (mL + d)), .int (zb false), .ref gM, .int (nI 0), .int (nI mA), .int (nI mP), .ref gI, .ref gR, .ref gT, .ref gF, .ref gS, .ref gE, .ref gC, .int (nI mB), .int ml, .int mz])), (gK, .inl (cT 0, 1100, .inl ((zv mk mv mh mm mL mch d).1))), (gV, .inl (cT 0, 1100, .inl ((zv mk mv mh mm mL mch d).2.1))), (gH, .inl (cT 2, 1100, .inl (fun j => zb (((zv mk mv mh mm mL mch d).2.2) j)))), (gM, .inl (cT 0, 4, .inl (fun j => nI (mm j))))]) [0, 1, 2, 3, 4] rfl
          have hD9 := hD.sub (ws' := [(h0, .inr (6, [.int (nI mS), .int (nI mQ), .ref gK, .ref gV, .ref gH, .int (nI (mL + d)), .int (zb false), .ref gM, .int (nI 0), .int (nI mA), .int (nI mP), .ref gI, .ref gR, .ref gT, .ref gF, .ref gS, .ref gE, .ref gC, .int (nI mB), .int ml, .int mz])), (gK, .inl (cT 0, 1100, .inl ((zv mk mv mh mm mL mch d).1))), (gV, .inl (cT 0, 1100, .inl ((zv mk mv mh mm mL mch d).2.1))), (gH, .inl (cT 2, 1100, .inl (fun j => zb (((zv mk mv mh mm mL mch d).2.2) j)))), (gM, .inl (cT 0, 4, .inl (fun j => nI (mm j))))]) [0, 1, 2, 3, 4] (by decide) rfl
          rw [hd] at hP9 hD9
          have hP9 : va_P (dC, dI) vwCl ([(h0, .inr (6, [.int (nI mS), .int (nI mQ), .ref gK, .ref gV, .ref gH, .int (nI (zuL mL mch)), .int (zb false), .ref gM, .int (nI 0), .int (nI mA), .int (nI mP), .ref gI, .ref gR, .ref gT, .ref gF, .ref gS, .ref gE, .ref gC, .int (nI mB), .int ml, .int mz])), (gK, .inl (cT 0, 1100, .inl (zvK mk mv mh mm mL mch))), (gV, .inl (cT 0, 1100, .inl (zvV mk mv mh mm mL mch))), (gH, .inl (cT 2, 1100, .inl (fun j => zb ((zvH mk mv mh mm mL mch) j)))), (gM, .inl (cT 0, 4, .inl (fun j => nI (mm j))))]) H := by rw [show zuL mL mch = mL + mch by simp [zuL, c_89], show zvK mk mv mh mm mL mch = (zv mk mv mh mm mL mch mch).1 by simp [zvK, c_89, zv], show zvV mk mv mh mm mL mch = (zv mk mv mh mm mL mch mch).2.1 by simp [zvV, c_89, zv], show zvH mk mv mh mm mL mch = (zv mk mv mh mm mL mch mch).2.2 by simp [zvH, c_89, zv]]; exact hP9
          have hD9 : va_D A ([(h0, .inr (6, [.int (nI mS), .int (nI mQ), .ref gK, .ref gV, .ref gH, .int (nI (zuL mL mch)), .int (zb false), .ref gM, .int (nI 0), .int (nI mA), .int (nI mP), .ref gI, .ref gR, .ref gT, .ref gF, .ref gS, .ref gE, .ref gC, .int (nI mB), .int ml, .int mz])), (gK, .inl (cT 0, 1100, .inl (zvK mk mv mh mm mL mch))), (gV, .inl (cT 0, 1100, .inl (zvV mk mv mh mm mL mch))), (gH, .inl (cT 2, 1100, .inl (fun j => zb ((zvH mk mv mh mm mL mch) j)))), (gM, .inl (cT 0, 4, .inl (fun j => nI (mm j))))]) := by rw [show zuL mL mch = mL + mch by simp [zuL, c_89], show zvK mk mv mh mm mL mch = (zv mk mv mh mm mL mch mch).1 by simp [zvK, c_89, zv], show zvV mk mv mh mm mL mch = (zv mk mv mh mm mL mch mch).2.1 by simp [zvV, c_89, zv], show zvH mk mv mh mm mL mch = (zv mk mv mh mm mL mch mch).2.2 by simp [zvH, c_89, zv]]; exact hD9
          exact W.vret hx hb hr (fun t ht hW => ⟨⟨(), trivial, rfl, by rw [ht]; exact hP9, hD9⟩, hS.F ht⟩) hS.2.2 d_Md_undo_111
        · refine lv_aload_n hx hb d_Md_undo_92 rfl (lv_at hl 0 rfl) ?_
          refine lv_bipush (v := (-2)) hx hb d_Md_undo_93 (by decide) ?_
          refine lv_iconst (v := (nI 0)) hx hb d_Md_undo_95 (by decide) ?_
          refine lv_iconst (v := (nI 0)) hx hb d_Md_undo_96 (by decide) ?_
          refine W.eq (g2 := F0 m 97 ls [.int (zb false), .int (nI 0), .int (-2), .ref h0]) rfl ?_
          refine zw_Q (X := [(h0, .inr (6, [.int (nI mS), .int (nI mQ), .ref gK, .ref gV, .ref gH, .int (nI (mL + d)), .int (zb mo), .ref gM, .int (nI mch), .int (nI mA), .int (nI mP), .ref gI, .ref gR, .ref gT, .ref gF, .ref gS, .ref gE, .ref gC, .int (nI mB), .int ml, .int mz])), (gK, .inl (cT 0, 1100, .inl ((zv mk mv mh mm mL mch d).1))), (gV, .inl (cT 0, 1100, .inl ((zv mk mv mh mm mL mch d).2.1))), (gH, .inl (cT 2, 1100, .inl (fun j => zb (((zv mk mv mh mm mL mch d).2.2) j)))), (gM, .inl (cT 0, 4, .inl (fun j => nI (mm j))))]) (pl := []) (va_runV (As := [.int (-2), .int (nI 0), .int (zb false)]) (rest := []) ⟨hx, hb, hml, hown, hts⟩ (c_Md_log l dC dI cT H.size h0 mS mQ gK gV gH (mL + d) mo gM mch mA mP gI gR gT gF gS gE gC mB ml mz (-2) (nI 0) false ((zv mk mv mh mm mL mch d).1) ((zv mk mv mh mm mL mch d).2.1) ((zv mk mv mh mm mL mch d).2.2) (by first | omega | assumption)) (cwV 3 hts (zgV wd_642 wd_644 wp_9 wd_11 wd_645) rfl rfl rfl (by decide +kernel) ⟨Nat.le_of_ble_eq_true rfl, Nat.le_of_ble_eq_true rfl⟩) ⟨zPre_blind, va_recv hK hP (ci := 6) (q0 := 0) rfl rfl, zp_Q (X := [(h0, .inr (6, [.int (nI mS), .int (nI mQ), .ref gK, .ref gV, .ref gH, .int (nI (mL + d)), .int (zb mo), .ref gM, .int (nI mch), .int (nI mA), .int (nI mP), .ref gI, .ref gR, .ref gT, .ref gF, .ref gS, .ref gE, .ref gC, .int (nI mB), .int ml, .int mz])), (gK, .inl (cT 0, 1100, .inl ((zv mk mv mh mm mL mch d).1))), (gV, .inl (cT 0, 1100, .inl ((zv mk mv mh mm mL mch d).2.1))), (gH, .inl (cT 2, 1100, .inl (fun j => zb (((zv mk mv mh mm mL mch d).2.2) j)))), (gM, .inl (cT 0, 4, .inl (fun j => nI (mm j))))]) (pl := []) hK hE hP hD [0, 1, 2, 3] (by decide) rfl⟩ rfl rfl hl.1 rfl (lv_room (Nat.le_of_ble_eq_true rfl)) d_Md_undo_97 ⟨Nat.le_of_ble_eq_true rfl, Nat.le_of_ble_eq_true rfl⟩) hP hD hS hA [0, 1, 2, 3] [4] rfl (wr := [(gM, .inl (cT 0, 4, .inl (fun j => nI (mm j))))]) rfl (by decide) (by decide) (fun zu => [.int (nI ((mL + d) + 1))]) (fun _ => rfl) (fun zu H locs hφ hP hD hS => ?_)
          have hP : va_P (dC, dI) vwCl ([(gM, .inl (cT 0, 4, .inl (fun j => nI (mm j)))), (h0, .inr (6, [.int (nI mS), .int (nI mQ), .ref gK, .ref gV, .ref gH, .int (nI ((mL + d) + 1)), .int (zb mo), .ref gM, .int (nI mch), .int (nI mA), .int (nI mP), .ref gI, .ref gR, .ref gT, .ref gF, .ref gS, .ref gE, .ref gC, .int (nI mB), .int ml, .int mz])), (gK, .inl (cT 0, 1100, .inl (va_up ((zv mk mv mh mm mL mch d).1) ((mL + d) + 1) (-2)))), (gV, .inl (cT 0, 1100, .inl (va_up ((zv mk mv mh mm mL mch d).2.1) ((mL + d) + 1) (nI 0)))), (gH, .inl (cT 2, 1100, .inl (fun j => zb ((va_up ((zv mk mv mh mm mL mch d).2.2) ((mL + d) + 1) false) j))))]) H := hP
          have hD : va_D A ([(gM, .inl (cT 0, 4, .inl (fun j => nI (mm j)))), (h0, .inr (6, [.int (nI mS), .int (nI mQ), .ref gK, .ref gV, .ref gH, .int (nI ((mL + d) + 1)), .int (zb mo), .ref gM, .int (nI mch), .int (nI mA), .int (nI mP), .ref gI, .ref gR, .ref gT, .ref gF, .ref gS, .ref gE, .ref gC, .int (nI mB), .int ml, .int mz])), (gK, .inl (cT 0, 1100, .inl (va_up ((zv mk mv mh mm mL mch d).1) ((mL + d) + 1) (-2)))), (gV, .inl (cT 0, 1100, .inl (va_up ((zv mk mv mh mm mL mch d).2.1) ((mL + d) + 1) (nI 0)))), (gH, .inl (cT 2, 1100, .inl (fun j => zb ((va_up ((zv mk mv mh mm mL mch d).2.2) ((mL + d) + 1) false) j))))]) := hD
          refine lv_istore_n (lv' := [(1, .int (nI ((mL + d) + 1))), (0, .ref h0)]) hx hb d_Md_undo_100 rfl hl (by decide) rfl (fun ls hl => ?_)
          refine lv_aload_n hx hb d_Md_undo_101 rfl (lv_at hl 1 rfl) ?_
          refine lv_iconst (v := (nI 0)) hx hb d_Md_undo_102 (by decide) ?_
          refine va_put (D := (dC, dI)) (ci := 6) (v := .int (nI 0)) (ty := .int) (C := R_Md) (T := F_Md) (N := 21) hx hb hts i_Md t_Md t_Md_ok n_Md hown hK hP hD hS 1 rfl rfl 8 (by decide) (hts _ wd_571) (fun _ h9 => h9) rfl (by decide +kernel) rfl rfl (Nat.le_of_ble_eq_true rfl) d_Md_undo_103 (fun H locs hP hD hS => ?_)
          have hP : va_P (dC, dI) vwCl ([(gM, .inl (cT 0, 4, .inl (fun j => nI (mm j)))), (h0, .inr (6, [.int (nI mS), .int (nI mQ), .ref gK, .ref gV, .ref gH, .int (nI ((mL + d) + 1)), .int (zb mo), .ref gM, .int (nI 0), .int (nI mA), .int (nI mP), .ref gI, .ref gR, .ref gT, .ref gF, .ref gS, .ref gE, .ref gC, .int (nI mB), .int ml, .int mz])), (gK, .inl (cT 0, 1100, .inl (va_up ((zv mk mv mh mm mL mch d).1) ((mL + d) + 1) (-2)))), (gV, .inl (cT 0, 1100, .inl (va_up ((zv mk mv mh mm mL mch d).2.1) ((mL + d) + 1) (nI 0)))), (gH, .inl (cT 2, 1100, .inl (fun j => zb ((va_up ((zv mk mv mh mm mL mch d).2.2) ((mL + d) + 1) false) j))))]) H := hP
          have hD : va_D A ([(gM, .inl (cT 0, 4, .inl (fun j => nI (mm j)))), (h0, .inr (6, [.int (nI mS), .int (nI mQ), .ref gK, .ref gV, .ref gH, .int (nI ((mL + d) + 1)), .int (zb mo), .ref gM, .int (nI 0), .int (nI mA), .int (nI mP), .ref gI, .ref gR, .ref gT, .ref gF, .ref gS, .ref gE, .ref gC, .int (nI mB), .int ml, .int mz])), (gK, .inl (cT 0, 1100, .inl (va_up ((zv mk mv mh mm mL mch d).1) ((mL + d) + 1) (-2)))), (gV, .inl (cT 0, 1100, .inl (va_up ((zv mk mv mh mm mL mch d).2.1) ((mL + d) + 1) (nI 0)))), (gH, .inl (cT 2, 1100, .inl (fun j => zb ((va_up ((zv mk mv mh mm mL mch d).2.2) ((mL + d) + 1) false) j))))]) := hD
          refine lv_aload_n hx hb d_Md_undo_106 rfl (lv_at hl 1 rfl) ?_
          refine lv_iconst (v := (nI 0)) hx hb d_Md_undo_107 (by decide) ?_
          refine W.eq (g2 := F0 m 108 ls [.int (zb false), .ref h0]) rfl ?_
          refine va_put (D := (dC, dI)) (ci := 6) (v := .int (zb false)) (ty := .boolean) (C := R_Md) (T := F_Md) (N := 21) hx hb hts i_Md t_Md t_Md_ok n_Md hown hK hP hD hS 1 rfl rfl 6 (by decide) (hts _ wd_569) (fun _ h9 => h9) rfl (by decide +kernel) (zb_narrow _) (zb_fits _) (Nat.le_of_ble_eq_true rfl) d_Md_undo_108 (fun H locs hP hD hS => ?_)
          have hP : va_P (dC, dI) vwCl ([(gM, .inl (cT 0, 4, .inl (fun j => nI (mm j)))), (h0, .inr (6, [.int (nI mS), .int (nI mQ), .ref gK, .ref gV, .ref gH, .int (nI ((mL + d) + 1)), .int (zb false), .ref gM, .int (nI 0), .int (nI mA), .int (nI mP), .ref gI, .ref gR, .ref gT, .ref gF, .ref gS, .ref gE, .ref gC, .int (nI mB), .int ml, .int mz])), (gK, .inl (cT 0, 1100, .inl (va_up ((zv mk mv mh mm mL mch d).1) ((mL + d) + 1) (-2)))), (gV, .inl (cT 0, 1100, .inl (va_up ((zv mk mv mh mm mL mch d).2.1) ((mL + d) + 1) (nI 0)))), (gH, .inl (cT 2, 1100, .inl (fun j => zb ((va_up ((zv mk mv mh mm mL mch d).2.2) ((mL + d) + 1) false) j))))]) H := hP
          have hD : va_D A ([(gM, .inl (cT 0, 4, .inl (fun j => nI (mm j)))), (h0, .inr (6, [.int (nI mS), .int (nI mQ), .ref gK, .ref gV, .ref gH, .int (nI ((mL + d) + 1)), .int (zb false), .ref gM, .int (nI 0), .int (nI mA), .int (nI mP), .ref gI, .ref gR, .ref gT, .ref gF, .ref gS, .ref gE, .ref gC, .int (nI mB), .int ml, .int mz])), (gK, .inl (cT 0, 1100, .inl (va_up ((zv mk mv mh mm mL mch d).1) ((mL + d) + 1) (-2)))), (gV, .inl (cT 0, 1100, .inl (va_up ((zv mk mv mh mm mL mch d).2.1) ((mL + d) + 1) (nI 0)))), (gH, .inl (cT 2, 1100, .inl (fun j => zb ((va_up ((zv mk mv mh mm mL mch d).2.2) ((mL + d) + 1) false) j))))]) := hD
          have hP9 := hP.sub (ws' := [(h0, .inr (6, [.int (nI mS), .int (nI mQ), .ref gK, .ref gV, .ref gH, .int (nI ((mL + d) + 1)), .int (zb false), .ref gM, .int (nI 0), .int (nI mA), .int (nI mP), .ref gI, .ref gR, .ref gT, .ref gF, .ref gS, .ref gE, .ref gC, .int (nI mB), .int ml, .int mz])), (gK, .inl (cT 0, 1100, .inl (va_up ((zv mk mv mh mm mL mch d).1) ((mL + d) + 1) (-2)))), (gV, .inl (cT 0, 1100, .inl (va_up ((zv mk mv mh mm mL mch d).2.1) ((mL + d) + 1) (nI 0)))), (gH, .inl (cT 2, 1100, .inl (fun j => zb ((va_up ((zv mk mv mh mm mL mch d).2.2) ((mL + d) + 1) false) j)))), (gM, .inl (cT 0, 4, .inl (fun j => nI (mm j))))]) [1, 2, 3, 4, 0] rfl
          have hD9 := hD.sub (ws' := [(h0, .inr (6, [.int (nI mS), .int (nI mQ), .ref gK, .ref gV, .ref gH, .int (nI ((mL + d) + 1)), .int (zb false), .ref gM, .int (nI 0), .int (nI mA), .int (nI mP), .ref gI, .ref gR, .ref gT, .ref gF, .ref gS, .ref gE, .ref gC, .int (nI mB), .int ml, .int mz])), (gK, .inl (cT 0, 1100, .inl (va_up ((zv mk mv mh mm mL mch d).1) ((mL + d) + 1) (-2)))), (gV, .inl (cT 0, 1100, .inl (va_up ((zv mk mv mh mm mL mch d).2.1) ((mL + d) + 1) (nI 0)))), (gH, .inl (cT 2, 1100, .inl (fun j => zb ((va_up ((zv mk mv mh mm mL mch d).2.2) ((mL + d) + 1) false) j)))), (gM, .inl (cT 0, 4, .inl (fun j => nI (mm j))))]) [1, 2, 3, 4, 0] (by decide) rfl
          rw [hd] at hP9 hD9
          have hP9 : va_P (dC, dI) vwCl ([(h0, .inr (6, [.int (nI mS), .int (nI mQ), .ref gK, .ref gV, .ref gH, .int (nI (zuL mL mch)), .int (zb false), .ref gM, .int (nI 0), .int (nI mA), .int (nI mP), .ref gI, .ref gR, .ref gT, .ref gF, .ref gS, .ref gE, .ref gC, .int (nI mB), .int ml, .int mz])), (gK, .inl (cT 0, 1100, .inl (zvK mk mv mh mm mL mch))), (gV, .inl (cT 0, 1100, .inl (zvV mk mv mh mm mL mch))), (gH, .inl (cT 2, 1100, .inl (fun j => zb ((zvH mk mv mh mm mL mch) j)))), (gM, .inl (cT 0, 4, .inl (fun j => nI (mm j))))]) H := by simp only [zuL, zvK, zvV, zvH, if_neg (show ¬ mch = 0 by omega)]; exact hP9
          have hD9 : va_D A ([(h0, .inr (6, [.int (nI mS), .int (nI mQ), .ref gK, .ref gV, .ref gH, .int (nI (zuL mL mch)), .int (zb false), .ref gM, .int (nI 0), .int (nI mA), .int (nI mP), .ref gI, .ref gR, .ref gT, .ref gF, .ref gS, .ref gE, .ref gC, .int (nI mB), .int ml, .int mz])), (gK, .inl (cT 0, 1100, .inl (zvK mk mv mh mm mL mch))), (gV, .inl (cT 0, 1100, .inl (zvV mk mv mh mm mL mch))), (gH, .inl (cT 2, 1100, .inl (fun j => zb ((zvH mk mv mh mm mL mch) j)))), (gM, .inl (cT 0, 4, .inl (fun j => nI (mm j))))]) := by simp only [zuL, zvK, zvV, zvH, if_neg (show ¬ mch = 0 by omega)]; exact hD9
          exact W.vret hx hb hr (fun t ht hW => ⟨⟨(), trivial, rfl, by rw [ht]; exact hP9, hD9⟩, hS.F ht⟩) hS.2.2 d_Md_undo_111
  exact loop_7 (mch - 0 + 1) 0 (by omega) (by first | omega | assumption) s.heap [] (hP.sub [0, 1, 2, 3, 4] rfl) (hD.sub [0, 1, 2, 3, 4] (by decide) rfl) hS ls (lv_sub hl [1, 0] rfl)
set_option maxHeartbeats 4000000 in
set_option maxRecDepth 100000 in
theorem c_Md_begin_ref (l : Launch) (dC : Nat → ClassId) (dI : Nat → Nat → Nat) (cT : Nat → ClassId) (sz : Nat) (h0 : Nat) (mS : Nat) (mQ : Nat) (gK : Nat) (gV : Nat) (gH : Nat) (mL : Nat) (mo : Bool) (gM : Nat) (mch : Nat) (mA : Nat) (mP : Nat) (gI : Nat) (gR : Nat) (gT : Nat) (gF : Nat) (gS : Nat) (gE : Nat) (gC : Nat) (mB : Nat) (ml : Int32) (mz : Int32) (ho : mo = true) : Met l y_Md_begin w_Md_begin ({ frames := 0, cells := 0, slots := 0, locals := 0 } : Room) (zPre (dC, dI) vwCl (zT cT) [.ref h0] ([(h0, .inr (6, [.int (nI mS), .int (nI mQ), .ref gK, .ref gV, .ref gH, .int (nI mL), .int (zb mo), .ref gM, .int (nI mch), .int (nI mA), .int (nI mP), .ref gI, .ref gR, .ref gT, .ref gF, .ref gS, .ref gE, .ref gC, .int (nI mB), .int ml, .int mz]))]) sz) (zQ (dC, dI) vwCl (S := Unit) (fun zu => True) (fun zu => some (.int (-1))) (fun zu => [(h0, .inr (6, [.int (nI mS), .int (nI mQ), .ref gK, .ref gV, .ref gH, .int (nI mL), .int (zb mo), .ref gM, .int (nI mch), .int (nI mA), .int (nI mP), .ref gI, .ref gR, .ref gT, .ref gF, .ref gS, .ref gE, .ref gC, .int (nI mB), .int ml, .int mz]))]) (va_A ([(h0, .inr (6, [.int (nI mS), .int (nI mQ), .ref gK, .ref gV, .ref gH, .int (nI mL), .int (zb mo), .ref gM, .int (nI mch), .int (nI mA), .int (nI mP), .ref gI, .ref gR, .ref gT, .ref gF, .ref gS, .ref gE, .ref gC, .int (nI mB), .int ml, .int mz]))]) sz)) 0 0 (va_A ([(h0, .inr (6, [.int (nI mS), .int (nI mQ), .ref gK, .ref gV, .ref gH, .int (nI mL), .int (zb mo), .ref gM, .int (nI mch), .int (nI mA), .int (nI mP), .ref gI, .ref gR, .ref gT, .ref gF, .ref gS, .ref gE, .ref gC, .int (nI mB), .int ml, .int mz]))]) sz) := by
  refine Met.ofW (cc := b_Md_begin) (maxL := 1) (ret := (some .int)) (by decide) rfl ?_
  intro p e s m args below meth c s₁ B hml hv
  obtain ⟨rfl, hsz, hP, hK, hD0, hE⟩ := hv
  have hx := B.exec
  have hb := B.bytes
  have hr := B.returns
  have hts := fun w h => atoms_spec (ws := w_Md_begin) B.pre w (List.mem_cons_of_mem _ h)
  have hown : s.vm.findClass R_Md = some m.cls := findClass_of_methodNamed B.named
  have hlocks := B.notSynchronized
  subst hsz
  have hD := hD0.self (sz := s.heap.size)
  generalize hAe : va_A ([(h0, .inr (6, [.int (nI mS), .int (nI mQ), .ref gK, .ref gV, .ref gH, .int (nI mL), .int (zb mo), .ref gM, .int (nI mch), .int (nI mA), .int (nI mP), .ref gI, .ref gR, .ref gT, .ref gF, .ref gS, .ref gE, .ref gC, .int (nI mB), .int ml, .int mz]))]) s.heap.size = A at hD ⊢
  have hA : ∀ q : Nat, s.heap.size ≤ q → A q := fun q h => by rw [← hAe]; exact Or.inr h
  have hS : va_S A s.heap s.heap [] := va_S.rf
  have hl := lv_entry ([.ref h0]) (n := 1) (Nat.le_of_ble_eq_true rfl)
  rw [lg_entry_eq]
  generalize (lg_sl ([.ref h0]) ++ List.replicate (1 - (lg_sl ([.ref h0])).length) Slot.unset).toArray = ls at hl ⊢
  have hl : lv_has ls 1 [(0, .ref h0)] := hl
  refine lv_aload_n hx hb d_Md_begin_0 rfl (lv_at hl 0 rfl) ?_
  refine va_get (D := (dC, dI)) (ci := 6) (v := .int (zb mo)) (C := R_Md) (T := F_Md) (N := 21) hx hb hts i_Md hown hK hP 0 rfl rfl 6 (by decide) (hts _ wd_569) (fun _ h9 => h9) rfl d_Md_begin_1 ?_
  refine zb_if_eq (tgt := 9) hx hb d_Md_begin_4 (by decide) (fun c_4 => absurd c_4 (by rw [ho]; decide)) (fun c_4 => ?_)
  refine lv_iconst (v := (-1)) hx hb d_Md_begin_7 (by decide) ?_
  have hP9 := hP.sub (ws' := [(h0, .inr (6, [.int (nI mS), .int (nI mQ), .ref gK, .ref gV, .ref gH, .int (nI mL), .int (zb mo), .ref gM, .int (nI mch), .int (nI mA), .int (nI mP), .ref gI, .ref gR, .ref gT, .ref gF, .ref gS, .ref gE, .ref gC, .int (nI mB), .int ml, .int mz]))]) [0] rfl
  have hD9 := hD.sub (ws' := [(h0, .inr (6, [.int (nI mS), .int (nI mQ), .ref gK, .ref gV, .ref gH, .int (nI mL), .int (zb mo), .ref gM, .int (nI mch), .int (nI mA), .int (nI mP), .ref gI, .ref gR, .ref gT, .ref gF, .ref gS, .ref gE, .ref gC, .int (nI mB), .int ml, .int mz]))]) [0] (by decide) rfl
  exact W.iret hx hb hr (fun t ht hW => ⟨⟨(), trivial, rfl, by rw [ht]; exact hP9, hD9⟩, hS.F ht⟩) hS.2.2 d_Md_begin_8
set_option maxHeartbeats 4000000 in
set_option maxRecDepth 100000 in
theorem c_Md_begin_ok (l : Launch) (dC : Nat → ClassId) (dI : Nat → Nat → Nat) (cT : Nat → ClassId) (sz : Nat) (h0 : Nat) (mS : Nat) (mQ : Nat) (gK : Nat) (gV : Nat) (gH : Nat) (mL : Nat) (mo : Bool) (gM : Nat) (mch : Nat) (mA : Nat) (mP : Nat) (gI : Nat) (gR : Nat) (gT : Nat) (gF : Nat) (gS : Nat) (gE : Nat) (gC : Nat) (mB : Nat) (ml : Int32) (mz : Int32) (ho : mo = false) : Met l y_Md_begin w_Md_begin ({ frames := 0, cells := 0, slots := 0, locals := 0 } : Room) (zPre (dC, dI) vwCl (zT cT) [.ref h0] ([(h0, .inr (6, [.int (nI mS), .int (nI mQ), .ref gK, .ref gV, .ref gH, .int (nI mL), .int (zb mo), .ref gM, .int (nI mch), .int (nI mA), .int (nI mP), .ref gI, .ref gR, .ref gT, .ref gF, .ref gS, .ref gE, .ref gC, .int (nI mB), .int ml, .int mz]))]) sz) (zQ (dC, dI) vwCl (S := Unit) (fun zu => True) (fun zu => some (.int (nI 0))) (fun zu => [(h0, .inr (6, [.int (nI mS), .int (nI mQ), .ref gK, .ref gV, .ref gH, .int (nI mL), .int (zb true), .ref gM, .int (nI 0), .int (nI mA), .int (nI mP), .ref gI, .ref gR, .ref gT, .ref gF, .ref gS, .ref gE, .ref gC, .int (nI mB), .int ml, .int mz]))]) (va_A ([(h0, .inr (6, [.int (nI mS), .int (nI mQ), .ref gK, .ref gV, .ref gH, .int (nI mL), .int (zb mo), .ref gM, .int (nI mch), .int (nI mA), .int (nI mP), .ref gI, .ref gR, .ref gT, .ref gF, .ref gS, .ref gE, .ref gC, .int (nI mB), .int ml, .int mz]))]) sz)) 0 0 (va_A ([(h0, .inr (6, [.int (nI mS), .int (nI mQ), .ref gK, .ref gV, .ref gH, .int (nI mL), .int (zb mo), .ref gM, .int (nI mch), .int (nI mA), .int (nI mP), .ref gI, .ref gR, .ref gT, .ref gF, .ref gS, .ref gE, .ref gC, .int (nI mB), .int ml, .int mz]))]) sz) := by
  refine Met.ofW (cc := b_Md_begin) (maxL := 1) (ret := (some .int)) (by decide) rfl ?_
  intro p e s m args below meth c s₁ B hml hv
  obtain ⟨rfl, hsz, hP, hK, hD0, hE⟩ := hv
  have hx := B.exec
  have hb := B.bytes
  have hr := B.returns
  have hts := fun w h => atoms_spec (ws := w_Md_begin) B.pre w (List.mem_cons_of_mem _ h)
  have hown : s.vm.findClass R_Md = some m.cls := findClass_of_methodNamed B.named
  have hlocks := B.notSynchronized
  subst hsz
  have hD := hD0.self (sz := s.heap.size)
  generalize hAe : va_A ([(h0, .inr (6, [.int (nI mS), .int (nI mQ), .ref gK, .ref gV, .ref gH, .int (nI mL), .int (zb mo), .ref gM, .int (nI mch), .int (nI mA), .int (nI mP), .ref gI, .ref gR, .ref gT, .ref gF, .ref gS, .ref gE, .ref gC, .int (nI mB), .int ml, .int mz]))]) s.heap.size = A at hD ⊢
  have hA : ∀ q : Nat, s.heap.size ≤ q → A q := fun q h => by rw [← hAe]; exact Or.inr h
  have hS : va_S A s.heap s.heap [] := va_S.rf
  have hl := lv_entry ([.ref h0]) (n := 1) (Nat.le_of_ble_eq_true rfl)
  rw [lg_entry_eq]
  generalize (lg_sl ([.ref h0]) ++ List.replicate (1 - (lg_sl ([.ref h0])).length) Slot.unset).toArray = ls at hl ⊢
  have hl : lv_has ls 1 [(0, .ref h0)] := hl
  refine lv_aload_n hx hb d_Md_begin_0 rfl (lv_at hl 0 rfl) ?_
  refine va_get (D := (dC, dI)) (ci := 6) (v := .int (zb mo)) (C := R_Md) (T := F_Md) (N := 21) hx hb hts i_Md hown hK hP 0 rfl rfl 6 (by decide) (hts _ wd_569) (fun _ h9 => h9) rfl d_Md_begin_1 ?_
  refine zb_if_eq (tgt := 9) hx hb d_Md_begin_4 (by decide) (fun c_4 => ?_) (fun c_4 => absurd c_4 (by rw [ho]; decide))
  refine lv_aload_n hx hb d_Md_begin_9 rfl (lv_at hl 0 rfl) ?_
  refine lv_iconst (v := (nI 1)) hx hb d_Md_begin_10 (by decide) ?_
  refine W.eq (g2 := F0 m 11 ls [.int (zb true), .ref h0]) rfl ?_
  refine va_put (D := (dC, dI)) (ci := 6) (v := .int (zb true)) (ty := .boolean) (C := R_Md) (T := F_Md) (N := 21) hx hb hts i_Md t_Md t_Md_ok n_Md hown hK hP hD hS 0 rfl rfl 6 (by decide) (hts _ wd_569) (fun _ h9 => h9) rfl (by decide +kernel) (zb_narrow _) (zb_fits _) (Nat.le_of_ble_eq_true rfl) d_Md_begin_11 (fun H locs hP hD hS => ?_)
  have hP : va_P (dC, dI) vwCl ([(h0, .inr (6, [.int (nI mS), .int (nI mQ), .ref gK, .ref gV, .ref gH, .int (nI mL), .int (zb true), .ref gM, .int (nI mch), .int (nI mA), .int (nI mP), .ref gI, .ref gR, .ref gT, .ref gF, .ref gS, .ref gE, .ref gC, .int (nI mB), .int ml, .int mz]))]) H := hP
  have hD : va_D A ([(h0, .inr (6, [.int (nI mS), .int (nI mQ), .ref gK, .ref gV, .ref gH, .int (nI mL), .int (zb true), .ref gM, .int (nI mch), .int (nI mA), .int (nI mP), .ref gI, .ref gR, .ref gT, .ref gF, .ref gS, .ref gE, .ref gC, .int (nI mB), .int ml, .int mz]))]) := hD
  refine lv_aload_n hx hb d_Md_begin_14 rfl (lv_at hl 0 rfl) ?_
  refine lv_iconst (v := (nI 0)) hx hb d_Md_begin_15 (by decide) ?_
  refine va_put (D := (dC, dI)) (ci := 6) (v := .int (nI 0)) (ty := .int) (C := R_Md) (T := F_Md) (N := 21) hx hb hts i_Md t_Md t_Md_ok n_Md hown hK hP hD hS 0 rfl rfl 8 (by decide) (hts _ wd_571) (fun _ h9 => h9) rfl (by decide +kernel) rfl rfl (Nat.le_of_ble_eq_true rfl) d_Md_begin_16 (fun H locs hP hD hS => ?_)
  have hP : va_P (dC, dI) vwCl ([(h0, .inr (6, [.int (nI mS), .int (nI mQ), .ref gK, .ref gV, .ref gH, .int (nI mL), .int (zb true), .ref gM, .int (nI 0), .int (nI mA), .int (nI mP), .ref gI, .ref gR, .ref gT, .ref gF, .ref gS, .ref gE, .ref gC, .int (nI mB), .int ml, .int mz]))]) H := hP
  have hD : va_D A ([(h0, .inr (6, [.int (nI mS), .int (nI mQ), .ref gK, .ref gV, .ref gH, .int (nI mL), .int (zb true), .ref gM, .int (nI 0), .int (nI mA), .int (nI mP), .ref gI, .ref gR, .ref gT, .ref gF, .ref gS, .ref gE, .ref gC, .int (nI mB), .int ml, .int mz]))]) := hD
  refine lv_iconst (v := (nI 0)) hx hb d_Md_begin_19 (by decide) ?_
  have hP9 := hP.sub (ws' := [(h0, .inr (6, [.int (nI mS), .int (nI mQ), .ref gK, .ref gV, .ref gH, .int (nI mL), .int (zb true), .ref gM, .int (nI 0), .int (nI mA), .int (nI mP), .ref gI, .ref gR, .ref gT, .ref gF, .ref gS, .ref gE, .ref gC, .int (nI mB), .int ml, .int mz]))]) [0] rfl
  have hD9 := hD.sub (ws' := [(h0, .inr (6, [.int (nI mS), .int (nI mQ), .ref gK, .ref gV, .ref gH, .int (nI mL), .int (zb true), .ref gM, .int (nI 0), .int (nI mA), .int (nI mP), .ref gI, .ref gR, .ref gT, .ref gF, .ref gS, .ref gE, .ref gC, .int (nI mB), .int ml, .int mz]))]) [0] (by decide) rfl
  exact W.iret hx hb hr (fun t ht hW => ⟨⟨(), trivial, rfl, by rw [ht]; exact hP9, hD9⟩, hS.F ht⟩) hS.2.2 d_Md_begin_20
set_option maxHeartbeats 4000000 in
set_option maxRecDepth 100000 in
theorem c_Md_put_ref (l : Launch) (dC : Nat → ClassId) (dI : Nat → Nat → Nat) (cT : Nat → ClassId) (sz : Nat) (h0 : Nat) (mS : Nat) (mQ : Nat) (gK : Nat) (gV : Nat) (gH : Nat) (mL : Nat) (mo : Bool) (gM : Nat) (mch : Nat) (mA : Nat) (mP : Nat) (gI : Nat) (gR : Nat) (gT : Nat) (gF : Nat) (gS : Nat) (gE : Nat) (gC : Nat) (mB : Nat) (ml : Int32) (mz : Int32) (k : Int32) (v : Int32) (b : Bool) (hch : mch ≤ 4) (hno : ¬ (isIn k 32 = true ∧ mo = true ∧ mch < 4)) : Met l y_Md_put w_Md_put ({ frames := 1, cells := 0, slots := 0, locals := 21 } : Room) (zPre (dC, dI) vwCl (zT cT) [.ref h0, .int k, .int v, .int (zb b)] ([(h0, .inr (6, [.int (nI mS), .int (nI mQ), .ref gK, .ref gV, .ref gH, .int (nI mL), .int (zb mo), .ref gM, .int (nI mch), .int (nI mA), .int (nI mP), .ref gI, .ref gR, .ref gT, .ref gF, .ref gS, .ref gE, .ref gC, .int (nI mB), .int ml, .int mz]))]) sz) (zQ (dC, dI) vwCl (S := Unit) (fun zu => True) (fun zu => some (.int (-1))) (fun zu => [(h0, .inr (6, [.int (nI mS), .int (nI mQ), .ref gK, .ref gV, .ref gH, .int (nI mL), .int (zb mo), .ref gM, .int (nI mch), .int (nI mA), .int (nI mP), .ref gI, .ref gR, .ref gT, .ref gF, .ref gS, .ref gE, .ref gC, .int (nI mB), .int ml, .int mz]))]) (va_A ([(h0, .inr (6, [.int (nI mS), .int (nI mQ), .ref gK, .ref gV, .ref gH, .int (nI mL), .int (zb mo), .ref gM, .int (nI mch), .int (nI mA), .int (nI mP), .ref gI, .ref gR, .ref gT, .ref gF, .ref gS, .ref gE, .ref gC, .int (nI mB), .int ml, .int mz]))]) sz)) 0 0 (va_A ([(h0, .inr (6, [.int (nI mS), .int (nI mQ), .ref gK, .ref gV, .ref gH, .int (nI mL), .int (zb mo), .ref gM, .int (nI mch), .int (nI mA), .int (nI mP), .ref gI, .ref gR, .ref gT, .ref gF, .ref gS, .ref gE, .ref gC, .int (nI mB), .int ml, .int mz]))]) sz) := by
  refine Met.ofW (cc := b_Md_put) (maxL := 4) (ret := (some .int)) (by decide) rfl ?_
  intro p e s m args below meth c s₁ B hml hv
  obtain ⟨rfl, hsz, hP, hK, hD0, hE⟩ := hv
  have hx := B.exec
  have hb := B.bytes
  have hr := B.returns
  have hts := fun w h => atoms_spec (ws := w_Md_put) B.pre w (List.mem_cons_of_mem _ h)
  have hown : s.vm.findClass R_Md = some m.cls := findClass_of_methodNamed B.named
  have hlocks := B.notSynchronized
  subst hsz
  have hD := hD0.self (sz := s.heap.size)
  generalize hAe : va_A ([(h0, .inr (6, [.int (nI mS), .int (nI mQ), .ref gK, .ref gV, .ref gH, .int (nI mL), .int (zb mo), .ref gM, .int (nI mch), .int (nI mA), .int (nI mP), .ref gI, .ref gR, .ref gT, .ref gF, .ref gS, .ref gE, .ref gC, .int (nI mB), .int ml, .int mz]))]) s.heap.size = A at hD ⊢
  have hA : ∀ q : Nat, s.heap.size ≤ q → A q := fun q h => by rw [← hAe]; exact Or.inr h
  have hS : va_S A s.heap s.heap [] := va_S.rf
  have hl := lv_entry ([.ref h0, .int k, .int v, .int (zb b)]) (n := 4) (Nat.le_of_ble_eq_true rfl)
  rw [lg_entry_eq]
  generalize (lg_sl ([.ref h0, .int k, .int v, .int (zb b)]) ++ List.replicate (4 - (lg_sl ([.ref h0, .int k, .int v, .int (zb b)])).length) Slot.unset).toArray = ls at hl ⊢
  have hl : lv_has ls 4 [(0, .ref h0), (1, .int k), (2, .int v), (3, .int (zb b))] := hl
  refine lv_iload_n hx hb d_Md_put_0 rfl (lv_at hl 1 rfl) ?_
  refine lv_bipush (v := (nI 32)) hx hb d_Md_put_1 (by decide) ?_
  refine zw_R (r := .int (zb (isIn k 32))) (va_runS (As := [.int k, .int (nI 32)]) (rest := []) ⟨hx, hb, hml, hown, hts⟩ (c_Md_in l dC dI cT k 32) (va_cwS 2 hts (zgS wd_635 wd_636 wd_11 wd_637) rfl rfl rfl (by decide +kernel) ⟨Nat.le_of_ble_eq_true rfl, Nat.le_of_ble_eq_true rfl⟩) ⟨zPreR_blind, zp_R hK hE (zSub (X := [(h0, .inr (6, [.int (nI mS), .int (nI mQ), .ref gK, .ref gV, .ref gH, .int (nI mL), .int (zb mo), .ref gM, .int (nI mch), .int (nI mA), .int (nI mP), .ref gI, .ref gR, .ref gT, .ref gF, .ref gS, .ref gE, .ref gC, .int (nI mB), .int ml, .int mz]))]) (pl := []) hP [] rfl)⟩ rfl rfl hl.1 rfl (lv_room (Nat.le_of_ble_eq_true rfl)) d_Md_put_3 ⟨Nat.le_of_ble_eq_true rfl, Nat.le_of_ble_eq_true rfl⟩) ?_
  refine zb_if_eq (tgt := 24) hx hb d_Md_put_6 (by decide) (fun c_6 => ?_) (fun c_6 => ?_)
  · refine lv_iconst (v := (-1)) hx hb d_Md_put_24 (by decide) ?_
    have hP9 := hP.sub (ws' := [(h0, .inr (6, [.int (nI mS), .int (nI mQ), .ref gK, .ref gV, .ref gH, .int (nI mL), .int (zb mo), .ref gM, .int (nI mch), .int (nI mA), .int (nI mP), .ref gI, .ref gR, .ref gT, .ref gF, .ref gS, .ref gE, .ref gC, .int (nI mB), .int ml, .int mz]))]) [0] rfl
    have hD9 := hD.sub (ws' := [(h0, .inr (6, [.int (nI mS), .int (nI mQ), .ref gK, .ref gV, .ref gH, .int (nI mL), .int (zb mo), .ref gM, .int (nI mch), .int (nI mA), .int (nI mP), .ref gI, .ref gR, .ref gT, .ref gF, .ref gS, .ref gE, .ref gC, .int (nI mB), .int ml, .int mz]))]) [0] (by decide) rfl
    exact W.iret hx hb hr (fun t ht hW => ⟨⟨(), trivial, rfl, by rw [ht]; exact hP9, hD9⟩, hS.F ht⟩) hS.2.2 d_Md_put_25
  · refine lv_aload_n hx hb d_Md_put_9 rfl (lv_at hl 0 rfl) ?_
    refine va_get (D := (dC, dI)) (ci := 6) (v := .int (zb mo)) (C := R_Md) (T := F_Md) (N := 21) hx hb hts i_Md hown hK hP 0 rfl rfl 6 (by decide) (hts _ wd_569) (fun _ h9 => h9) rfl d_Md_put_10 ?_
    refine zb_if_eq (tgt := 24) hx hb d_Md_put_13 (by decide) (fun c_13 => ?_) (fun c_13 => ?_)
    · refine lv_iconst (v := (-1)) hx hb d_Md_put_24 (by decide) ?_
      have hP9 := hP.sub (ws' := [(h0, .inr (6, [.int (nI mS), .int (nI mQ), .ref gK, .ref gV, .ref gH, .int (nI mL), .int (zb mo), .ref gM, .int (nI mch), .int (nI mA), .int (nI mP), .ref gI, .ref gR, .ref gT, .ref gF, .ref gS, .ref gE, .ref gC, .int (nI mB), .int ml, .int mz]))]) [0] rfl
      have hD9 := hD.sub (ws' := [(h0, .inr (6, [.int (nI mS), .int (nI mQ), .ref gK, .ref gV, .ref gH, .int (nI mL), .int (zb mo), .ref gM, .int (nI mch), .int (nI mA), .int (nI mP), .ref gI, .ref gR, .ref gT, .ref gF, .ref gS, .ref gE, .ref gC, .int (nI mB), .int ml, .int mz]))]) [0] (by decide) rfl
      exact W.iret hx hb hr (fun t ht hW => ⟨⟨(), trivial, rfl, by rw [ht]; exact hP9, hD9⟩, hS.F ht⟩) hS.2.2 d_Md_put_25
    · refine lv_aload_n hx hb d_Md_put_16 rfl (lv_at hl 0 rfl) ?_
      refine va_get (D := (dC, dI)) (ci := 6) (v := .int (nI mch)) (C := R_Md) (T := F_Md) (N := 21) hx hb hts i_Md hown hK hP 0 rfl rfl 8 (by decide) (hts _ wd_571) (fun _ h9 => h9) rfl d_Md_put_17 ?_
      refine lv_iconst (v := (nI 4)) hx hb d_Md_put_20 (by decide) ?_
      refine zn_icmp_ne (tgt := 26) hx hb (a := mch) (b := 4) (by omega) (by omega) d_Md_put_21 (by decide) (fun c_21 => absurd c_21 (fun q => hno ⟨c_6, c_13, by omega⟩)) (fun c_21 => ?_)
      refine lv_iconst (v := (-1)) hx hb d_Md_put_24 (by decide) ?_
      have hP9 := hP.sub (ws' := [(h0, .inr (6, [.int (nI mS), .int (nI mQ), .ref gK, .ref gV, .ref gH, .int (nI mL), .int (zb mo), .ref gM, .int (nI mch), .int (nI mA), .int (nI mP), .ref gI, .ref gR, .ref gT, .ref gF, .ref gS, .ref gE, .ref gC, .int (nI mB), .int ml, .int mz]))]) [0] rfl
      have hD9 := hD.sub (ws' := [(h0, .inr (6, [.int (nI mS), .int (nI mQ), .ref gK, .ref gV, .ref gH, .int (nI mL), .int (zb mo), .ref gM, .int (nI mch), .int (nI mA), .int (nI mP), .ref gI, .ref gR, .ref gT, .ref gF, .ref gS, .ref gE, .ref gC, .int (nI mB), .int ml, .int mz]))]) [0] (by decide) rfl
      exact W.iret hx hb hr (fun t ht hW => ⟨⟨(), trivial, rfl, by rw [ht]; exact hP9, hD9⟩, hS.F ht⟩) hS.2.2 d_Md_put_25
set_option maxHeartbeats 4000000 in
set_option maxRecDepth 100000 in
theorem c_Md_put_full (l : Launch) (dC : Nat → ClassId) (dI : Nat → Nat → Nat) (cT : Nat → ClassId) (sz : Nat) (h0 : Nat) (mS : Nat) (mQ : Nat) (gK : Nat) (gV : Nat) (gH : Nat) (mL : Nat) (mo : Bool) (gM : Nat) (mch : Nat) (mA : Nat) (mP : Nat) (gI : Nat) (gR : Nat) (gT : Nat) (gF : Nat) (gS : Nat) (gE : Nat) (gC : Nat) (mB : Nat) (ml : Int32) (mz : Int32) (k : Int32) (v : Int32) (b : Bool) (hrm : mL ≤ (mA + 4) * mS) (hrm2 : (mA + 4) * mS < 2 ^ 31) (hk : isIn k 32 = true) (ho : mo = true) (hc4 : mch < 4) (hfu : (mA + 4) * mS - mL < mch + 3) : Met l y_Md_put w_Md_put ({ frames := 1, cells := 0, slots := 0, locals := 21 } : Room) (zPre (dC, dI) vwCl (zT cT) [.ref h0, .int k, .int v, .int (zb b)] ([(h0, .inr (6, [.int (nI mS), .int (nI mQ), .ref gK, .ref gV, .ref gH, .int (nI mL), .int (zb mo), .ref gM, .int (nI mch), .int (nI mA), .int (nI mP), .ref gI, .ref gR, .ref gT, .ref gF, .ref gS, .ref gE, .ref gC, .int (nI mB), .int ml, .int mz]))]) sz) (zQ (dC, dI) vwCl (S := Unit) (fun zu => True) (fun zu => some (.int (-2))) (fun zu => [(h0, .inr (6, [.int (nI mS), .int (nI mQ), .ref gK, .ref gV, .ref gH, .int (nI mL), .int (zb mo), .ref gM, .int (nI mch), .int (nI mA), .int (nI mP), .ref gI, .ref gR, .ref gT, .ref gF, .ref gS, .ref gE, .ref gC, .int (nI mB), .int ml, .int mz]))]) (va_A ([(h0, .inr (6, [.int (nI mS), .int (nI mQ), .ref gK, .ref gV, .ref gH, .int (nI mL), .int (zb mo), .ref gM, .int (nI mch), .int (nI mA), .int (nI mP), .ref gI, .ref gR, .ref gT, .ref gF, .ref gS, .ref gE, .ref gC, .int (nI mB), .int ml, .int mz]))]) sz)) 0 0 (va_A ([(h0, .inr (6, [.int (nI mS), .int (nI mQ), .ref gK, .ref gV, .ref gH, .int (nI mL), .int (zb mo), .ref gM, .int (nI mch), .int (nI mA), .int (nI mP), .ref gI, .ref gR, .ref gT, .ref gF, .ref gS, .ref gE, .ref gC, .int (nI mB), .int ml, .int mz]))]) sz) := by
  refine Met.ofW (cc := b_Md_put) (maxL := 4) (ret := (some .int)) (by decide) rfl ?_
  intro p e s m args below meth c s₁ B hml hv
  obtain ⟨rfl, hsz, hP, hK, hD0, hE⟩ := hv
  have hx := B.exec
  have hb := B.bytes
  have hr := B.returns
  have hts := fun w h => atoms_spec (ws := w_Md_put) B.pre w (List.mem_cons_of_mem _ h)
  have hown : s.vm.findClass R_Md = some m.cls := findClass_of_methodNamed B.named
  have hlocks := B.notSynchronized
  subst hsz
  have hD := hD0.self (sz := s.heap.size)
  generalize hAe : va_A ([(h0, .inr (6, [.int (nI mS), .int (nI mQ), .ref gK, .ref gV, .ref gH, .int (nI mL), .int (zb mo), .ref gM, .int (nI mch), .int (nI mA), .int (nI mP), .ref gI, .ref gR, .ref gT, .ref gF, .ref gS, .ref gE, .ref gC, .int (nI mB), .int ml, .int mz]))]) s.heap.size = A at hD ⊢
  have hA : ∀ q : Nat, s.heap.size ≤ q → A q := fun q h => by rw [← hAe]; exact Or.inr h
  have hS : va_S A s.heap s.heap [] := va_S.rf
  have hl := lv_entry ([.ref h0, .int k, .int v, .int (zb b)]) (n := 4) (Nat.le_of_ble_eq_true rfl)
  rw [lg_entry_eq]
  generalize (lg_sl ([.ref h0, .int k, .int v, .int (zb b)]) ++ List.replicate (4 - (lg_sl ([.ref h0, .int k, .int v, .int (zb b)])).length) Slot.unset).toArray = ls at hl ⊢
  have hl : lv_has ls 4 [(0, .ref h0), (1, .int k), (2, .int v), (3, .int (zb b))] := hl
  refine lv_iload_n hx hb d_Md_put_0 rfl (lv_at hl 1 rfl) ?_
  refine lv_bipush (v := (nI 32)) hx hb d_Md_put_1 (by decide) ?_
  refine zw_R (r := .int (zb (isIn k 32))) (va_runS (As := [.int k, .int (nI 32)]) (rest := []) ⟨hx, hb, hml, hown, hts⟩ (c_Md_in l dC dI cT k 32) (va_cwS 2 hts (zgS wd_635 wd_636 wd_11 wd_637) rfl rfl rfl (by decide +kernel) ⟨Nat.le_of_ble_eq_true rfl, Nat.le_of_ble_eq_true rfl⟩) ⟨zPreR_blind, zp_R hK hE (zSub (X := [(h0, .inr (6, [.int (nI mS), .int (nI mQ), .ref gK, .ref gV, .ref gH, .int (nI mL), .int (zb mo), .ref gM, .int (nI mch), .int (nI mA), .int (nI mP), .ref gI, .ref gR, .ref gT, .ref gF, .ref gS, .ref gE, .ref gC, .int (nI mB), .int ml, .int mz]))]) (pl := []) hP [] rfl)⟩ rfl rfl hl.1 rfl (lv_room (Nat.le_of_ble_eq_true rfl)) d_Md_put_3 ⟨Nat.le_of_ble_eq_true rfl, Nat.le_of_ble_eq_true rfl⟩) ?_
  refine zb_if_eq (tgt := 24) hx hb d_Md_put_6 (by decide) (fun c_6 => absurd c_6 (by rw [hk]; decide)) (fun c_6 => ?_)
  refine lv_aload_n hx hb d_Md_put_9 rfl (lv_at hl 0 rfl) ?_
  refine va_get (D := (dC, dI)) (ci := 6) (v := .int (zb mo)) (C := R_Md) (T := F_Md) (N := 21) hx hb hts i_Md hown hK hP 0 rfl rfl 6 (by decide) (hts _ wd_569) (fun _ h9 => h9) rfl d_Md_put_10 ?_
  refine zb_if_eq (tgt := 24) hx hb d_Md_put_13 (by decide) (fun c_13 => absurd c_13 (by rw [ho]; decide)) (fun c_13 => ?_)
  refine lv_aload_n hx hb d_Md_put_16 rfl (lv_at hl 0 rfl) ?_
  refine va_get (D := (dC, dI)) (ci := 6) (v := .int (nI mch)) (C := R_Md) (T := F_Md) (N := 21) hx hb hts i_Md hown hK hP 0 rfl rfl 8 (by decide) (hts _ wd_571) (fun _ h9 => h9) rfl d_Md_put_17 ?_
  refine lv_iconst (v := (nI 4)) hx hb d_Md_put_20 (by decide) ?_
  refine zn_icmp_ne (tgt := 26) hx hb (a := mch) (b := 4) (by omega) (by omega) d_Md_put_21 (by decide) (fun c_21 => ?_) (fun c_21 => absurd c_21 (by omega))
  refine lv_aload_n hx hb d_Md_put_26 rfl (lv_at hl 0 rfl) ?_
  refine zw_R (r := .int (nI ((mA + 4) * mS - mL))) (va_runV (As := []) (rest := []) ⟨hx, hb, hml, hown, hts⟩ (c_Md_room l dC dI cT h0 mS mQ gK gV gH mL mo gM mch mA mP gI gR gT gF gS gE gC mB ml mz (by first | omega | assumption)) (cwV 0 hts (zgV wd_638 wd_640 wp_8 wd_11 wd_641) rfl rfl rfl (by decide +kernel) ⟨Nat.le_of_ble_eq_true rfl, Nat.le_of_ble_eq_true rfl⟩) ⟨zPreR_blind, va_recv hK hP (ci := 6) (q0 := 0) rfl rfl, zp_R hK hE (zSub (X := [(h0, .inr (6, [.int (nI mS), .int (nI mQ), .ref gK, .ref gV, .ref gH, .int (nI mL), .int (zb mo), .ref gM, .int (nI mch), .int (nI mA), .int (nI mP), .ref gI, .ref gR, .ref gT, .ref gF, .ref gS, .ref gE, .ref gC, .int (nI mB), .int ml, .int mz]))]) (pl := []) hP [0] rfl)⟩ rfl rfl hl.1 rfl (lv_room (Nat.le_of_ble_eq_true rfl)) d_Md_put_27 ⟨Nat.le_of_ble_eq_true rfl, Nat.le_of_ble_eq_true rfl⟩) ?_
  refine lv_aload_n hx hb d_Md_put_30 rfl (lv_at hl 0 rfl) ?_
  refine va_get (D := (dC, dI)) (ci := 6) (v := .int (nI mch)) (C := R_Md) (T := F_Md) (N := 21) hx hb hts i_Md hown hK hP 0 rfl rfl 8 (by decide) (hts _ wd_571) (fun _ h9 => h9) rfl d_Md_put_31 ?_
  refine lv_iconst (v := (nI 3)) hx hb d_Md_put_34 (by decide) ?_
  refine zn_iadd hx hb d_Md_put_35 ?_
  refine zn_icmp_ge (tgt := 42) hx hb (a := (mA + 4) * mS - mL) (b := mch + 3) (by omega) (by omega) d_Md_put_36 (by decide) (fun c_36 => absurd c_36 (by omega)) (fun c_36 => ?_)
  refine lv_bipush (v := (-2)) hx hb d_Md_put_39 (by decide) ?_
  have hP9 := hP.sub (ws' := [(h0, .inr (6, [.int (nI mS), .int (nI mQ), .ref gK, .ref gV, .ref gH, .int (nI mL), .int (zb mo), .ref gM, .int (nI mch), .int (nI mA), .int (nI mP), .ref gI, .ref gR, .ref gT, .ref gF, .ref gS, .ref gE, .ref gC, .int (nI mB), .int ml, .int mz]))]) [0] rfl
  have hD9 := hD.sub (ws' := [(h0, .inr (6, [.int (nI mS), .int (nI mQ), .ref gK, .ref gV, .ref gH, .int (nI mL), .int (zb mo), .ref gM, .int (nI mch), .int (nI mA), .int (nI mP), .ref gI, .ref gR, .ref gT, .ref gF, .ref gS, .ref gE, .ref gC, .int (nI mB), .int ml, .int mz]))]) [0] (by decide) rfl
  exact W.iret hx hb hr (fun t ht hW => ⟨⟨(), trivial, rfl, by rw [ht]; exact hP9, hD9⟩, hS.F ht⟩) hS.2.2 d_Md_put_41
set_option maxHeartbeats 4000000 in
set_option maxRecDepth 100000 in
theorem c_Md_put_ok (l : Launch) (dC : Nat → ClassId) (dI : Nat → Nat → Nat) (cT : Nat → ClassId) (sz : Nat) (h0 : Nat) (mS : Nat) (mQ : Nat) (gK : Nat) (gV : Nat) (gH : Nat) (mL : Nat) (mo : Bool) (gM : Nat) (mch : Nat) (mA : Nat) (mP : Nat) (gI : Nat) (gR : Nat) (gT : Nat) (gF : Nat) (gS : Nat) (gE : Nat) (gC : Nat) (mB : Nat) (ml : Int32) (mz : Int32) (k : Int32) (v : Int32) (b : Bool) (mk : Nat → Int32) (mv : Nat → Int32) (mh : Nat → Bool) (mm : Nat → Nat) (hL : mL < 1000) (hrm : mL ≤ (mA + 4) * mS) (hrm2 : (mA + 4) * mS < 2 ^ 31) (hk : isIn k 32 = true) (ho : mo = true) (hc4 : mch < 4) (hfu : mch + 3 ≤ (mA + 4) * mS - mL) : Met l y_Md_put w_Md_put ({ frames := 1, cells := 0, slots := 0, locals := 23 } : Room) (zPre (dC, dI) vwCl (zT cT) [.ref h0, .int k, .int v, .int (zb b)] ([(h0, .inr (6, [.int (nI mS), .int (nI mQ), .ref gK, .ref gV, .ref gH, .int (nI mL), .int (zb mo), .ref gM, .int (nI mch), .int (nI mA), .int (nI mP), .ref gI, .ref gR, .ref gT, .ref gF, .ref gS, .ref gE, .ref gC, .int (nI mB), .int ml, .int mz])), (gK, .inl (cT 0, 1100, .inl mk)), (gV, .inl (cT 0, 1100, .inl mv)), (gH, .inl (cT 2, 1100, .inl (fun j => zb (mh j)))), (gM, .inl (cT 0, 4, .inl (fun j => nI (mm j))))]) sz) (zQ (dC, dI) vwCl (S := Unit) (fun zu => True) (fun zu => some (.int (nI (mL + 1)))) (fun zu => [(h0, .inr (6, [.int (nI mS), .int (nI mQ), .ref gK, .ref gV, .ref gH, .int (nI (mL + 1)), .int (zb mo), .ref gM, .int (nI (mch + 1)), .int (nI mA), .int (nI mP), .ref gI, .ref gR, .ref gT, .ref gF, .ref gS, .ref gE, .ref gC, .int (nI mB), .int ml, .int mz])), (gK, .inl (cT 0, 1100, .inl (va_up mk (mL + 1) k))), (gV, .inl (cT 0, 1100, .inl (va_up mv (mL + 1) v))), (gH, .inl (cT 2, 1100, .inl (fun j => zb ((va_up mh (mL + 1) b) j)))), (gM, .inl (cT 0, 4, .inl (fun j => nI ((va_up mm mch (mL + 1)) j))))]) (va_A ([(h0, .inr (6, [.int (nI mS), .int (nI mQ), .ref gK, .ref gV, .ref gH, .int (nI mL), .int (zb mo), .ref gM, .int (nI mch), .int (nI mA), .int (nI mP), .ref gI, .ref gR, .ref gT, .ref gF, .ref gS, .ref gE, .ref gC, .int (nI mB), .int ml, .int mz])), (gK, .inl (cT 0, 1100, .inl mk)), (gV, .inl (cT 0, 1100, .inl mv)), (gH, .inl (cT 2, 1100, .inl (fun j => zb (mh j)))), (gM, .inl (cT 0, 4, .inl (fun j => nI (mm j))))]) sz)) 0 0 (va_A ([(h0, .inr (6, [.int (nI mS), .int (nI mQ), .ref gK, .ref gV, .ref gH, .int (nI mL), .int (zb mo), .ref gM, .int (nI mch), .int (nI mA), .int (nI mP), .ref gI, .ref gR, .ref gT, .ref gF, .ref gS, .ref gE, .ref gC, .int (nI mB), .int ml, .int mz])), (gK, .inl (cT 0, 1100, .inl mk)), (gV, .inl (cT 0, 1100, .inl mv)), (gH, .inl (cT 2, 1100, .inl (fun j => zb (mh j)))), (gM, .inl (cT 0, 4, .inl (fun j => nI (mm j))))]) sz) := by
  refine Met.ofW (cc := b_Md_put) (maxL := 4) (ret := (some .int)) (by decide) rfl ?_
  intro p e s m args below meth c s₁ B hml hv
  obtain ⟨rfl, hsz, hP, hK, hD0, hE⟩ := hv
  have hx := B.exec
  have hb := B.bytes
  have hr := B.returns
  have hts := fun w h => atoms_spec (ws := w_Md_put) B.pre w (List.mem_cons_of_mem _ h)
  have hown : s.vm.findClass R_Md = some m.cls := findClass_of_methodNamed B.named
  have hlocks := B.notSynchronized
  subst hsz
  have hD := hD0.self (sz := s.heap.size)
  generalize hAe : va_A ([(h0, .inr (6, [.int (nI mS), .int (nI mQ), .ref gK, .ref gV, .ref gH, .int (nI mL), .int (zb mo), .ref gM, .int (nI mch), .int (nI mA), .int (nI mP), .ref gI, .ref gR, .ref gT, .ref gF, .ref gS, .ref gE, .ref gC, .int (nI mB), .int ml, .int mz])), (gK, .inl (cT 0, 1100, .inl mk)), (gV, .inl (cT 0, 1100, .inl mv)), (gH, .inl (cT 2, 1100, .inl (fun j => zb (mh j)))), (gM, .inl (cT 0, 4, .inl (fun j => nI (mm j))))]) s.heap.size = A at hD ⊢
  have hA : ∀ q : Nat, s.heap.size ≤ q → A q := fun q h => by rw [← hAe]; exact Or.inr h
  have hS : va_S A s.heap s.heap [] := va_S.rf
  have hl := lv_entry ([.ref h0, .int k, .int v, .int (zb b)]) (n := 4) (Nat.le_of_ble_eq_true rfl)
  rw [lg_entry_eq]
  generalize (lg_sl ([.ref h0, .int k, .int v, .int (zb b)]) ++ List.replicate (4 - (lg_sl ([.ref h0, .int k, .int v, .int (zb b)])).length) Slot.unset).toArray = ls at hl ⊢
  have hl : lv_has ls 4 [(0, .ref h0), (1, .int k), (2, .int v), (3, .int (zb b))] := hl
  refine lv_iload_n hx hb d_Md_put_0 rfl (lv_at hl 1 rfl) ?_
  refine lv_bipush (v := (nI 32)) hx hb d_Md_put_1 (by decide) ?_
  refine zw_R (r := .int (zb (isIn k 32))) (va_runS (As := [.int k, .int (nI 32)]) (rest := []) ⟨hx, hb, hml, hown, hts⟩ (c_Md_in l dC dI cT k 32) (va_cwS 2 hts (zgS wd_635 wd_636 wd_11 wd_637) rfl rfl rfl (by decide +kernel) ⟨Nat.le_of_ble_eq_true rfl, Nat.le_of_ble_eq_true rfl⟩) ⟨zPreR_blind, zp_R hK hE (zSub (X := [(h0, .inr (6, [.int (nI mS), .int (nI mQ), .ref gK, .ref gV, .ref gH, .int (nI mL), .int (zb mo), .ref gM, .int (nI mch), .int (nI mA), .int (nI mP), .ref gI, .ref gR, .ref gT, .ref gF, .ref gS, .ref gE, .ref gC, .int (nI mB), .int ml, .int mz])), (gK, .inl (cT 0, 1100, .inl mk)), (gV, .inl (cT 0, 1100, .inl mv)), (gH, .inl (cT 2, 1100, .inl (fun j => zb (mh j)))), (gM, .inl (cT 0, 4, .inl (fun j => nI (mm j))))]) (pl := []) hP [] rfl)⟩ rfl rfl hl.1 rfl (lv_room (Nat.le_of_ble_eq_true rfl)) d_Md_put_3 ⟨Nat.le_of_ble_eq_true rfl, Nat.le_of_ble_eq_true rfl⟩) ?_
  refine zb_if_eq (tgt := 24) hx hb d_Md_put_6 (by decide) (fun c_6 => absurd c_6 (by rw [hk]; decide)) (fun c_6 => ?_)
  refine lv_aload_n hx hb d_Md_put_9 rfl (lv_at hl 0 rfl) ?_
  refine va_get (D := (dC, dI)) (ci := 6) (v := .int (zb mo)) (C := R_Md) (T := F_Md) (N := 21) hx hb hts i_Md hown hK hP 0 rfl rfl 6 (by decide) (hts _ wd_569) (fun _ h9 => h9) rfl d_Md_put_10 ?_
  refine zb_if_eq (tgt := 24) hx hb d_Md_put_13 (by decide) (fun c_13 => absurd c_13 (by rw [ho]; decide)) (fun c_13 => ?_)
  refine lv_aload_n hx hb d_Md_put_16 rfl (lv_at hl 0 rfl) ?_
  refine va_get (D := (dC, dI)) (ci := 6) (v := .int (nI mch)) (C := R_Md) (T := F_Md) (N := 21) hx hb hts i_Md hown hK hP 0 rfl rfl 8 (by decide) (hts _ wd_571) (fun _ h9 => h9) rfl d_Md_put_17 ?_
  refine lv_iconst (v := (nI 4)) hx hb d_Md_put_20 (by decide) ?_
  refine zn_icmp_ne (tgt := 26) hx hb (a := mch) (b := 4) (by omega) (by omega) d_Md_put_21 (by decide) (fun c_21 => ?_) (fun c_21 => absurd c_21 (by omega))
  refine lv_aload_n hx hb d_Md_put_26 rfl (lv_at hl 0 rfl) ?_
  refine zw_R (r := .int (nI ((mA + 4) * mS - mL))) (va_runV (As := []) (rest := []) ⟨hx, hb, hml, hown, hts⟩ (c_Md_room l dC dI cT h0 mS mQ gK gV gH mL mo gM mch mA mP gI gR gT gF gS gE gC mB ml mz (by first | omega | assumption)) (cwV 0 hts (zgV wd_638 wd_640 wp_8 wd_11 wd_641) rfl rfl rfl (by decide +kernel) ⟨Nat.le_of_ble_eq_true rfl, Nat.le_of_ble_eq_true rfl⟩) ⟨zPreR_blind, va_recv hK hP (ci := 6) (q0 := 0) rfl rfl, zp_R hK hE (zSub (X := [(h0, .inr (6, [.int (nI mS), .int (nI mQ), .ref gK, .ref gV, .ref gH, .int (nI mL), .int (zb mo), .ref gM, .int (nI mch), .int (nI mA), .int (nI mP), .ref gI, .ref gR, .ref gT, .ref gF, .ref gS, .ref gE, .ref gC, .int (nI mB), .int ml, .int mz])), (gK, .inl (cT 0, 1100, .inl mk)), (gV, .inl (cT 0, 1100, .inl mv)), (gH, .inl (cT 2, 1100, .inl (fun j => zb (mh j)))), (gM, .inl (cT 0, 4, .inl (fun j => nI (mm j))))]) (pl := []) hP [0] rfl)⟩ rfl rfl hl.1 rfl (lv_room (Nat.le_of_ble_eq_true rfl)) d_Md_put_27 ⟨Nat.le_of_ble_eq_true rfl, Nat.le_of_ble_eq_true rfl⟩) ?_
  refine lv_aload_n hx hb d_Md_put_30 rfl (lv_at hl 0 rfl) ?_
  refine va_get (D := (dC, dI)) (ci := 6) (v := .int (nI mch)) (C := R_Md) (T := F_Md) (N := 21) hx hb hts i_Md hown hK hP 0 rfl rfl 8 (by decide) (hts _ wd_571) (fun _ h9 => h9) rfl d_Md_put_31 ?_
  refine lv_iconst (v := (nI 3)) hx hb d_Md_put_34 (by decide) ?_
  refine zn_iadd hx hb d_Md_put_35 ?_
  refine zn_icmp_ge (tgt := 42) hx hb (a := (mA + 4) * mS - mL) (b := mch + 3) (by omega) (by omega) d_Md_put_36 (by decide) (fun c_36 => ?_) (fun c_36 => absurd c_36 (by omega))
  refine lv_aload_n hx hb d_Md_put_42 rfl (lv_at hl 0 rfl) ?_
  refine va_get (D := (dC, dI)) (ci := 6) (v := .ref gM) (C := R_Md) (T := F_Md) (N := 21) hx hb hts i_Md hown hK hP 0 rfl rfl 7 (by decide) (hts _ wd_570) (fun _ h9 => h9) rfl d_Md_put_43 ?_
  refine lv_aload_n hx hb d_Md_put_46 rfl (lv_at hl 0 rfl) ?_
  refine va_get (D := (dC, dI)) (ci := 6) (v := .int (nI mch)) (C := R_Md) (T := F_Md) (N := 21) hx hb hts i_Md hown hK hP 0 rfl rfl 8 (by decide) (hts _ wd_571) (fun _ h9 => h9) rfl d_Md_put_47 ?_
  refine lv_aload_n hx hb d_Md_put_50 rfl (lv_at hl 0 rfl) ?_
  refine lv_iload_n hx hb d_Md_put_51 rfl (lv_at hl 1 rfl) ?_
  refine lv_iload_n hx hb d_Md_put_52 rfl (lv_at hl 2 rfl) ?_
  refine lv_iload_n hx hb d_Md_put_53 rfl (lv_at hl 3 rfl) ?_
  refine zw_Q (X := [(h0, .inr (6, [.int (nI mS), .int (nI mQ), .ref gK, .ref gV, .ref gH, .int (nI mL), .int (zb mo), .ref gM, .int (nI mch), .int (nI mA), .int (nI mP), .ref gI, .ref gR, .ref gT, .ref gF, .ref gS, .ref gE, .ref gC, .int (nI mB), .int ml, .int mz])), (gK, .inl (cT 0, 1100, .inl mk)), (gV, .inl (cT 0, 1100, .inl mv)), (gH, .inl (cT 2, 1100, .inl (fun j => zb (mh j)))), (gM, .inl (cT 0, 4, .inl (fun j => nI (mm j))))]) (pl := []) (va_runV (As := [.int k, .int v, .int (zb b)]) (rest := [.int (nI mch), .ref gM]) ⟨hx, hb, hml, hown, hts⟩ (c_Md_log l dC dI cT s.heap.size h0 mS mQ gK gV gH mL mo gM mch mA mP gI gR gT gF gS gE gC mB ml mz k v b mk mv mh (by first | omega | assumption)) (cwV 3 hts (zgV wd_642 wd_644 wp_9 wd_11 wd_645) rfl rfl rfl (by decide +kernel) ⟨Nat.le_of_ble_eq_true rfl, Nat.le_of_ble_eq_true rfl⟩) ⟨zPre_blind, va_recv hK hP (ci := 6) (q0 := 0) rfl rfl, zp_Q (X := [(h0, .inr (6, [.int (nI mS), .int (nI mQ), .ref gK, .ref gV, .ref gH, .int (nI mL), .int (zb mo), .ref gM, .int (nI mch), .int (nI mA), .int (nI mP), .ref gI, .ref gR, .ref gT, .ref gF, .ref gS, .ref gE, .ref gC, .int (nI mB), .int ml, .int mz])), (gK, .inl (cT 0, 1100, .inl mk)), (gV, .inl (cT 0, 1100, .inl mv)), (gH, .inl (cT 2, 1100, .inl (fun j => zb (mh j)))), (gM, .inl (cT 0, 4, .inl (fun j => nI (mm j))))]) (pl := []) hK hE hP hD [0, 1, 2, 3] (by decide) rfl⟩ rfl rfl hl.1 rfl (lv_room (Nat.le_of_ble_eq_true rfl)) d_Md_put_54 ⟨Nat.le_of_ble_eq_true rfl, Nat.le_of_ble_eq_true rfl⟩) hP hD hS hA [0, 1, 2, 3] [4] rfl (wr := [(gM, .inl (cT 0, 4, .inl (fun j => nI (mm j))))]) rfl (by decide) (by decide) (fun zu => [.int (nI (mL + 1)), .int (nI mch), .ref gM]) (fun _ => rfl) (fun zu H locs hφ hP hD hS => ?_)
  have hP : va_P (dC, dI) vwCl ([(gM, .inl (cT 0, 4, .inl (fun j => nI (mm j)))), (h0, .inr (6, [.int (nI mS), .int (nI mQ), .ref gK, .ref gV, .ref gH, .int (nI (mL + 1)), .int (zb mo), .ref gM, .int (nI mch), .int (nI mA), .int (nI mP), .ref gI, .ref gR, .ref gT, .ref gF, .ref gS, .ref gE, .ref gC, .int (nI mB), .int ml, .int mz])), (gK, .inl (cT 0, 1100, .inl (va_up mk (mL + 1) k))), (gV, .inl (cT 0, 1100, .inl (va_up mv (mL + 1) v))), (gH, .inl (cT 2, 1100, .inl (fun j => zb ((va_up mh (mL + 1) b) j))))]) H := hP
  have hD : va_D A ([(gM, .inl (cT 0, 4, .inl (fun j => nI (mm j)))), (h0, .inr (6, [.int (nI mS), .int (nI mQ), .ref gK, .ref gV, .ref gH, .int (nI (mL + 1)), .int (zb mo), .ref gM, .int (nI mch), .int (nI mA), .int (nI mP), .ref gI, .ref gR, .ref gT, .ref gF, .ref gS, .ref gE, .ref gC, .int (nI mB), .int ml, .int mz])), (gK, .inl (cT 0, 1100, .inl (va_up mk (mL + 1) k))), (gV, .inl (cT 0, 1100, .inl (va_up mv (mL + 1) v))), (gH, .inl (cT 2, 1100, .inl (fun j => zb ((va_up mh (mL + 1) b) j))))]) := hD
  refine zn_iastN hx hb hK hP hD hS 0 0 rfl rfl (i := mch) (x := mL + 1) (by omega) (by omega) d_Md_put_57 (fun H locs hP hD hS => ?_)
  have hP : va_P (dC, dI) vwCl ([(gM, .inl (cT 0, 4, .inl (fun j => nI ((va_up mm mch (mL + 1)) j)))), (h0, .inr (6, [.int (nI mS), .int (nI mQ), .ref gK, .ref gV, .ref gH, .int (nI (mL + 1)), .int (zb mo), .ref gM, .int (nI mch), .int (nI mA), .int (nI mP), .ref gI, .ref gR, .ref gT, .ref gF, .ref gS, .ref gE, .ref gC, .int (nI mB), .int ml, .int mz])), (gK, .inl (cT 0, 1100, .inl (va_up mk (mL + 1) k))), (gV, .inl (cT 0, 1100, .inl (va_up mv (mL + 1) v))), (gH, .inl (cT 2, 1100, .inl (fun j => zb ((va_up mh (mL + 1) b) j))))]) H := hP
  have hD : va_D A ([(gM, .inl (cT 0, 4, .inl (fun j => nI ((va_up mm mch (mL + 1)) j)))), (h0, .inr (6, [.int (nI mS), .int (nI mQ), .ref gK, .ref gV, .ref gH, .int (nI (mL + 1)), .int (zb mo), .ref gM, .int (nI mch), .int (nI mA), .int (nI mP), .ref gI, .ref gR, .ref gT, .ref gF, .ref gS, .ref gE, .ref gC, .int (nI mB), .int ml, .int mz])), (gK, .inl (cT 0, 1100, .inl (va_up mk (mL + 1) k))), (gV, .inl (cT 0, 1100, .inl (va_up mv (mL + 1) v))), (gH, .inl (cT 2, 1100, .inl (fun j => zb ((va_up mh (mL + 1) b) j))))]) := hD
  refine lv_aload_n hx hb d_Md_put_58 rfl (lv_at hl 0 rfl) ?_
  refine lv_dup hx hb d_Md_put_59 rfl ?_
  refine va_get (D := (dC, dI)) (ci := 6) (v := .int (nI mch)) (C := R_Md) (T := F_Md) (N := 21) hx hb hts i_Md hown hK hP 1 rfl rfl 8 (by decide) (hts _ wd_571) (fun _ h9 => h9) rfl d_Md_put_60 ?_
  refine lv_iconst (v := (nI 1)) hx hb d_Md_put_63 (by decide) ?_
  refine zn_iadd hx hb d_Md_put_64 ?_
  refine va_put (D := (dC, dI)) (ci := 6) (v := .int (nI (mch + 1))) (ty := .int) (C := R_Md) (T := F_Md) (N := 21) hx hb hts i_Md t_Md t_Md_ok n_Md hown hK hP hD hS 1 rfl rfl 8 (by decide) (hts _ wd_571) (fun _ h9 => h9) rfl (by decide +kernel) rfl rfl (Nat.le_of_ble_eq_true rfl) d_Md_put_65 (fun H locs hP hD hS => ?_)
  have hP : va_P (dC, dI) vwCl ([(gM, .inl (cT 0, 4, .inl (fun j => nI ((va_up mm mch (mL + 1)) j)))), (h0, .inr (6, [.int (nI mS), .int (nI mQ), .ref gK, .ref gV, .ref gH, .int (nI (mL + 1)), .int (zb mo), .ref gM, .int (nI (mch + 1)), .int (nI mA), .int (nI mP), .ref gI, .ref gR, .ref gT, .ref gF, .ref gS, .ref gE, .ref gC, .int (nI mB), .int ml, .int mz])), (gK, .inl (cT 0, 1100, .inl (va_up mk (mL + 1) k))), (gV, .inl (cT 0, 1100, .inl (va_up mv (mL + 1) v))), (gH, .inl (cT 2, 1100, .inl (fun j => zb ((va_up mh (mL + 1) b) j))))]) H := hP
  have hD : va_D A ([(gM, .inl (cT 0, 4, .inl (fun j => nI ((va_up mm mch (mL + 1)) j)))), (h0, .inr (6, [.int (nI mS), .int (nI mQ), .ref gK, .ref gV, .ref gH, .int (nI (mL + 1)), .int (zb mo), .ref gM, .int (nI (mch + 1)), .int (nI mA), .int (nI mP), .ref gI, .ref gR, .ref gT, .ref gF, .ref gS, .ref gE, .ref gC, .int (nI mB), .int ml, .int mz])), (gK, .inl (cT 0, 1100, .inl (va_up mk (mL + 1) k))), (gV, .inl (cT 0, 1100, .inl (va_up mv (mL + 1) v))), (gH, .inl (cT 2, 1100, .inl (fun j => zb ((va_up mh (mL + 1) b) j))))]) := hD
  refine lv_aload_n hx hb d_Md_put_68 rfl (lv_at hl 0 rfl) ?_
  refine va_get (D := (dC, dI)) (ci := 6) (v := .int (nI (mL + 1))) (C := R_Md) (T := F_Md) (N := 21) hx hb hts i_Md hown hK hP 1 rfl rfl 5 (by decide) (hts _ wd_568) (fun _ h9 => h9) rfl d_Md_put_69 ?_
  have hP9 := hP.sub (ws' := [(h0, .inr (6, [.int (nI mS), .int (nI mQ), .ref gK, .ref gV, .ref gH, .int (nI (mL + 1)), .int (zb mo), .ref gM, .int (nI (mch + 1)), .int (nI mA), .int (nI mP), .ref gI, .ref gR, .ref gT, .ref gF, .ref gS, .ref gE, .ref gC, .int (nI mB), .int ml, .int mz])), (gK, .inl (cT 0, 1100, .inl (va_up mk (mL + 1) k))), (gV, .inl (cT 0, 1100, .inl (va_up mv (mL + 1) v))), (gH, .inl (cT 2, 1100, .inl (fun j => zb ((va_up mh (mL + 1) b) j)))), (gM, .inl (cT 0, 4, .inl (fun j => nI ((va_up mm mch (mL + 1)) j))))]) [1, 2, 3, 4, 0] rfl
  have hD9 := hD.sub (ws' := [(h0, .inr (6, [.int (nI mS), .int (nI mQ), .ref gK, .ref gV, .ref gH, .int (nI (mL + 1)), .int (zb mo), .ref gM, .int (nI (mch + 1)), .int (nI mA), .int (nI mP), .ref gI, .ref gR, .ref gT, .ref gF, .ref gS, .ref gE, .ref gC, .int (nI mB), .int ml, .int mz])), (gK, .inl (cT 0, 1100, .inl (va_up mk (mL + 1) k))), (gV, .inl (cT 0, 1100, .inl (va_up mv (mL + 1) v))), (gH, .inl (cT 2, 1100, .inl (fun j => zb ((va_up mh (mL + 1) b) j)))), (gM, .inl (cT 0, 4, .inl (fun j => nI ((va_up mm mch (mL + 1)) j))))]) [1, 2, 3, 4, 0] (by decide) rfl
  exact W.iret hx hb hr (fun t ht hW => ⟨⟨(), trivial, rfl, by rw [ht]; exact hP9, hD9⟩, hS.F ht⟩) hS.2.2 d_Md_put_72
set_option maxHeartbeats 4000000 in
set_option maxRecDepth 100000 in
theorem c_Md_commit_ref (l : Launch) (dC : Nat → ClassId) (dI : Nat → Nat → Nat) (cT : Nat → ClassId) (sz : Nat) (h0 : Nat) (mS : Nat) (mQ : Nat) (gK : Nat) (gV : Nat) (gH : Nat) (mL : Nat) (mo : Bool) (gM : Nat) (mch : Nat) (mA : Nat) (mP : Nat) (gI : Nat) (gR : Nat) (gT : Nat) (gF : Nat) (gS : Nat) (gE : Nat) (gC : Nat) (mB : Nat) (ml : Int32) (mz : Int32) (ho : mo = false) : Met l y_Md_commit w_Md_commit ({ frames := 0, cells := 0, slots := 0, locals := 0 } : Room) (zPre (dC, dI) vwCl (zT cT) [.ref h0] ([(h0, .inr (6, [.int (nI mS), .int (nI mQ), .ref gK, .ref gV, .ref gH, .int (nI mL), .int (zb mo), .ref gM, .int (nI mch), .int (nI mA), .int (nI mP), .ref gI, .ref gR, .ref gT, .ref gF, .ref gS, .ref gE, .ref gC, .int (nI mB), .int ml, .int mz]))]) sz) (zQ (dC, dI) vwCl (S := Unit) (fun zu => True) (fun zu => some (.int (-1))) (fun zu => [(h0, .inr (6, [.int (nI mS), .int (nI mQ), .ref gK, .ref gV, .ref gH, .int (nI mL), .int (zb mo), .ref gM, .int (nI mch), .int (nI mA), .int (nI mP), .ref gI, .ref gR, .ref gT, .ref gF, .ref gS, .ref gE, .ref gC, .int (nI mB), .int ml, .int mz]))]) (va_A ([(h0, .inr (6, [.int (nI mS), .int (nI mQ), .ref gK, .ref gV, .ref gH, .int (nI mL), .int (zb mo), .ref gM, .int (nI mch), .int (nI mA), .int (nI mP), .ref gI, .ref gR, .ref gT, .ref gF, .ref gS, .ref gE, .ref gC, .int (nI mB), .int ml, .int mz]))]) sz)) 0 0 (va_A ([(h0, .inr (6, [.int (nI mS), .int (nI mQ), .ref gK, .ref gV, .ref gH, .int (nI mL), .int (zb mo), .ref gM, .int (nI mch), .int (nI mA), .int (nI mP), .ref gI, .ref gR, .ref gT, .ref gF, .ref gS, .ref gE, .ref gC, .int (nI mB), .int ml, .int mz]))]) sz) := by
  refine Met.ofW (cc := b_Md_commit) (maxL := 2) (ret := (some .int)) (by decide) rfl ?_
  intro p e s m args below meth c s₁ B hml hv
  obtain ⟨rfl, hsz, hP, hK, hD0, hE⟩ := hv
  have hx := B.exec
  have hb := B.bytes
  have hr := B.returns
  have hts := fun w h => atoms_spec (ws := w_Md_commit) B.pre w (List.mem_cons_of_mem _ h)
  have hown : s.vm.findClass R_Md = some m.cls := findClass_of_methodNamed B.named
  have hlocks := B.notSynchronized
  subst hsz
  have hD := hD0.self (sz := s.heap.size)
  generalize hAe : va_A ([(h0, .inr (6, [.int (nI mS), .int (nI mQ), .ref gK, .ref gV, .ref gH, .int (nI mL), .int (zb mo), .ref gM, .int (nI mch), .int (nI mA), .int (nI mP), .ref gI, .ref gR, .ref gT, .ref gF, .ref gS, .ref gE, .ref gC, .int (nI mB), .int ml, .int mz]))]) s.heap.size = A at hD ⊢
  have hA : ∀ q : Nat, s.heap.size ≤ q → A q := fun q h => by rw [← hAe]; exact Or.inr h
  have hS : va_S A s.heap s.heap [] := va_S.rf
  have hl := lv_entry ([.ref h0]) (n := 2) (Nat.le_of_ble_eq_true rfl)
  rw [lg_entry_eq]
  generalize (lg_sl ([.ref h0]) ++ List.replicate (2 - (lg_sl ([.ref h0])).length) Slot.unset).toArray = ls at hl ⊢
  have hl : lv_has ls 2 [(0, .ref h0)] := hl
  refine lv_aload_n hx hb d_Md_commit_0 rfl (lv_at hl 0 rfl) ?_
  refine va_get (D := (dC, dI)) (ci := 6) (v := .int (zb mo)) (C := R_Md) (T := F_Md) (N := 21) hx hb hts i_Md hown hK hP 0 rfl rfl 6 (by decide) (hts _ wd_569) (fun _ h9 => h9) rfl d_Md_commit_1 ?_
  refine zb_if_ne (tgt := 9) hx hb d_Md_commit_4 (by decide) (fun c_4 => absurd c_4 (by rw [ho]; decide)) (fun c_4 => ?_)
  refine lv_iconst (v := (-1)) hx hb d_Md_commit_7 (by decide) ?_
  have hP9 := hP.sub (ws' := [(h0, .inr (6, [.int (nI mS), .int (nI mQ), .ref gK, .ref gV, .ref gH, .int (nI mL), .int (zb mo), .ref gM, .int (nI mch), .int (nI mA), .int (nI mP), .ref gI, .ref gR, .ref gT, .ref gF, .ref gS, .ref gE, .ref gC, .int (nI mB), .int ml, .int mz]))]) [0] rfl
  have hD9 := hD.sub (ws' := [(h0, .inr (6, [.int (nI mS), .int (nI mQ), .ref gK, .ref gV, .ref gH, .int (nI mL), .int (zb mo), .ref gM, .int (nI mch), .int (nI mA), .int (nI mP), .ref gI, .ref gR, .ref gT, .ref gF, .ref gS, .ref gE, .ref gC, .int (nI mB), .int ml, .int mz]))]) [0] (by decide) rfl
  exact W.iret hx hb hr (fun t ht hW => ⟨⟨(), trivial, rfl, by rw [ht]; exact hP9, hD9⟩, hS.F ht⟩) hS.2.2 d_Md_commit_8
set_option maxHeartbeats 4000000 in
set_option maxRecDepth 100000 in
theorem c_Md_commit_full (l : Launch) (dC : Nat → ClassId) (dI : Nat → Nat → Nat) (cT : Nat → ClassId) (sz : Nat) (h0 : Nat) (mS : Nat) (mQ : Nat) (gK : Nat) (gV : Nat) (gH : Nat) (mL : Nat) (mo : Bool) (gM : Nat) (mch : Nat) (mA : Nat) (mP : Nat) (gI : Nat) (gR : Nat) (gT : Nat) (gF : Nat) (gS : Nat) (gE : Nat) (gC : Nat) (mB : Nat) (ml : Int32) (mz : Int32) (hrm : mL ≤ (mA + 4) * mS) (hrm2 : (mA + 4) * mS < 2 ^ 31) (ho : mo = true) (hfu : (mA + 4) * mS - mL = 0) : Met l y_Md_commit w_Md_commit ({ frames := 1, cells := 0, slots := 0, locals := 20 } : Room) (zPre (dC, dI) vwCl (zT cT) [.ref h0] ([(h0, .inr (6, [.int (nI mS), .int (nI mQ), .ref gK, .ref gV, .ref gH, .int (nI mL), .int (zb mo), .ref gM, .int (nI mch), .int (nI mA), .int (nI mP), .ref gI, .ref gR, .ref gT, .ref gF, .ref gS, .ref gE, .ref gC, .int (nI mB), .int ml, .int mz]))]) sz) (zQ (dC, dI) vwCl (S := Unit) (fun zu => True) (fun zu => some (.int (-2))) (fun zu => [(h0, .inr (6, [.int (nI mS), .int (nI mQ), .ref gK, .ref gV, .ref gH, .int (nI mL), .int (zb mo), .ref gM, .int (nI mch), .int (nI mA), .int (nI mP), .ref gI, .ref gR, .ref gT, .ref gF, .ref gS, .ref gE, .ref gC, .int (nI mB), .int ml, .int mz]))]) (va_A ([(h0, .inr (6, [.int (nI mS), .int (nI mQ), .ref gK, .ref gV, .ref gH, .int (nI mL), .int (zb mo), .ref gM, .int (nI mch), .int (nI mA), .int (nI mP), .ref gI, .ref gR, .ref gT, .ref gF, .ref gS, .ref gE, .ref gC, .int (nI mB), .int ml, .int mz]))]) sz)) 0 0 (va_A ([(h0, .inr (6, [.int (nI mS), .int (nI mQ), .ref gK, .ref gV, .ref gH, .int (nI mL), .int (zb mo), .ref gM, .int (nI mch), .int (nI mA), .int (nI mP), .ref gI, .ref gR, .ref gT, .ref gF, .ref gS, .ref gE, .ref gC, .int (nI mB), .int ml, .int mz]))]) sz) := by
  refine Met.ofW (cc := b_Md_commit) (maxL := 2) (ret := (some .int)) (by decide) rfl ?_
  intro p e s m args below meth c s₁ B hml hv
  obtain ⟨rfl, hsz, hP, hK, hD0, hE⟩ := hv
  have hx := B.exec
  have hb := B.bytes
  have hr := B.returns
  have hts := fun w h => atoms_spec (ws := w_Md_commit) B.pre w (List.mem_cons_of_mem _ h)
  have hown : s.vm.findClass R_Md = some m.cls := findClass_of_methodNamed B.named
  have hlocks := B.notSynchronized
  subst hsz
  have hD := hD0.self (sz := s.heap.size)
  generalize hAe : va_A ([(h0, .inr (6, [.int (nI mS), .int (nI mQ), .ref gK, .ref gV, .ref gH, .int (nI mL), .int (zb mo), .ref gM, .int (nI mch), .int (nI mA), .int (nI mP), .ref gI, .ref gR, .ref gT, .ref gF, .ref gS, .ref gE, .ref gC, .int (nI mB), .int ml, .int mz]))]) s.heap.size = A at hD ⊢
  have hA : ∀ q : Nat, s.heap.size ≤ q → A q := fun q h => by rw [← hAe]; exact Or.inr h
  have hS : va_S A s.heap s.heap [] := va_S.rf
  have hl := lv_entry ([.ref h0]) (n := 2) (Nat.le_of_ble_eq_true rfl)
  rw [lg_entry_eq]
  generalize (lg_sl ([.ref h0]) ++ List.replicate (2 - (lg_sl ([.ref h0])).length) Slot.unset).toArray = ls at hl ⊢
  have hl : lv_has ls 2 [(0, .ref h0)] := hl
  refine lv_aload_n hx hb d_Md_commit_0 rfl (lv_at hl 0 rfl) ?_
  refine va_get (D := (dC, dI)) (ci := 6) (v := .int (zb mo)) (C := R_Md) (T := F_Md) (N := 21) hx hb hts i_Md hown hK hP 0 rfl rfl 6 (by decide) (hts _ wd_569) (fun _ h9 => h9) rfl d_Md_commit_1 ?_
  refine zb_if_ne (tgt := 9) hx hb d_Md_commit_4 (by decide) (fun c_4 => ?_) (fun c_4 => absurd c_4 (by rw [ho]; decide))
  refine lv_aload_n hx hb d_Md_commit_9 rfl (lv_at hl 0 rfl) ?_
  refine zw_R (r := .int (nI ((mA + 4) * mS - mL))) (va_runV (As := []) (rest := []) ⟨hx, hb, hml, hown, hts⟩ (c_Md_room l dC dI cT h0 mS mQ gK gV gH mL mo gM mch mA mP gI gR gT gF gS gE gC mB ml mz (by first | omega | assumption)) (cwV 0 hts (zgV wd_638 wd_640 wp_8 wd_11 wd_641) rfl rfl rfl (by decide +kernel) ⟨Nat.le_of_ble_eq_true rfl, Nat.le_of_ble_eq_true rfl⟩) ⟨zPreR_blind, va_recv hK hP (ci := 6) (q0 := 0) rfl rfl, zp_R hK hE (zSub (X := [(h0, .inr (6, [.int (nI mS), .int (nI mQ), .ref gK, .ref gV, .ref gH, .int (nI mL), .int (zb mo), .ref gM, .int (nI mch), .int (nI mA), .int (nI mP), .ref gI, .ref gR, .ref gT, .ref gF, .ref gS, .ref gE, .ref gC, .int (nI mB), .int ml, .int mz]))]) (pl := []) hP [0] rfl)⟩ rfl rfl hl.1 rfl (lv_room (Nat.le_of_ble_eq_true rfl)) d_Md_commit_10 ⟨Nat.le_of_ble_eq_true rfl, Nat.le_of_ble_eq_true rfl⟩) ?_
  refine zn_if_ne (tgt := 19) hx hb (a := (mA + 4) * mS - mL) (by omega) d_Md_commit_13 (by decide) (fun c_13 => absurd c_13 (by omega)) (fun c_13 => ?_)
  refine lv_bipush (v := (-2)) hx hb d_Md_commit_16 (by decide) ?_
  have hP9 := hP.sub (ws' := [(h0, .inr (6, [.int (nI mS), .int (nI mQ), .ref gK, .ref gV, .ref gH, .int (nI mL), .int (zb mo), .ref gM, .int (nI mch), .int (nI mA), .int (nI mP), .ref gI, .ref gR, .ref gT, .ref gF, .ref gS, .ref gE, .ref gC, .int (nI mB), .int ml, .int mz]))]) [0] rfl
  have hD9 := hD.sub (ws' := [(h0, .inr (6, [.int (nI mS), .int (nI mQ), .ref gK, .ref gV, .ref gH, .int (nI mL), .int (zb mo), .ref gM, .int (nI mch), .int (nI mA), .int (nI mP), .ref gI, .ref gR, .ref gT, .ref gF, .ref gS, .ref gE, .ref gC, .int (nI mB), .int ml, .int mz]))]) [0] (by decide) rfl
  exact W.iret hx hb hr (fun t ht hW => ⟨⟨(), trivial, rfl, by rw [ht]; exact hP9, hD9⟩, hS.F ht⟩) hS.2.2 d_Md_commit_18
set_option maxHeartbeats 4000000 in
set_option maxRecDepth 100000 in
theorem c_Md_commit_ok (l : Launch) (dC : Nat → ClassId) (dI : Nat → Nat → Nat) (cT : Nat → ClassId) (sz : Nat) (h0 : Nat) (mS : Nat) (mQ : Nat) (gK : Nat) (gV : Nat) (gH : Nat) (mL : Nat) (mo : Bool) (gM : Nat) (mch : Nat) (mA : Nat) (mP : Nat) (gI : Nat) (gR : Nat) (gT : Nat) (gF : Nat) (gS : Nat) (gE : Nat) (gC : Nat) (mB : Nat) (ml : Int32) (mz : Int32) (mk : Nat → Int32) (mv : Nat → Int32) (mh : Nat → Bool) (hL : mL < 1000) (hrm : mL ≤ (mA + 4) * mS) (hrm2 : (mA + 4) * mS < 2 ^ 31) (ho : mo = true) (hfu : ¬ (mA + 4) * mS - mL = 0) : Met l y_Md_commit w_Md_commit ({ frames := 1, cells := 0, slots := 0, locals := 23 } : Room) (zPre (dC, dI) vwCl (zT cT) [.ref h0] ([(h0, .inr (6, [.int (nI mS), .int (nI mQ), .ref gK, .ref gV, .ref gH, .int (nI mL), .int (zb mo), .ref gM, .int (nI mch), .int (nI mA), .int (nI mP), .ref gI, .ref gR, .ref gT, .ref gF, .ref gS, .ref gE, .ref gC, .int (nI mB), .int ml, .int mz])), (gK, .inl (cT 0, 1100, .inl mk)), (gV, .inl (cT 0, 1100, .inl mv)), (gH, .inl (cT 2, 1100, .inl (fun j => zb (mh j))))]) sz) (zQ (dC, dI) vwCl (S := Unit) (fun zu => True) (fun zu => some (.int (nI (zcom (va_up mk (mL + 1) (-1)) (mL + 1))))) (fun zu => [(h0, .inr (6, [.int (nI mS), .int (nI mQ), .ref gK, .ref gV, .ref gH, .int (nI (mL + 1)), .int (zb false), .ref gM, .int (nI 0), .int (nI mA), .int (nI mP), .ref gI, .ref gR, .ref gT, .ref gF, .ref gS, .ref gE, .ref gC, .int (nI mB), .int ml, .int mz])), (gK, .inl (cT 0, 1100, .inl (va_up mk (mL + 1) (-1)))), (gV, .inl (cT 0, 1100, .inl (va_up mv (mL + 1) (nI 0)))), (gH, .inl (cT 2, 1100, .inl (fun j => zb ((va_up mh (mL + 1) false) j))))]) (va_A ([(h0, .inr (6, [.int (nI mS), .int (nI mQ), .ref gK, .ref gV, .ref gH, .int (nI mL), .int (zb mo), .ref gM, .int (nI mch), .int (nI mA), .int (nI mP), .ref gI, .ref gR, .ref gT, .ref gF, .ref gS, .ref gE, .ref gC, .int (nI mB), .int ml, .int mz])), (gK, .inl (cT 0, 1100, .inl mk)), (gV, .inl (cT 0, 1100, .inl mv)), (gH, .inl (cT 2, 1100, .inl (fun j => zb (mh j))))]) sz)) 0 0 (va_A ([(h0, .inr (6, [.int (nI mS), .int (nI mQ), .ref gK, .ref gV, .ref gH, .int (nI mL), .int (zb mo), .ref gM, .int (nI mch), .int (nI mA), .int (nI mP), .ref gI, .ref gR, .ref gT, .ref gF, .ref gS, .ref gE, .ref gC, .int (nI mB), .int ml, .int mz])), (gK, .inl (cT 0, 1100, .inl mk)), (gV, .inl (cT 0, 1100, .inl mv)), (gH, .inl (cT 2, 1100, .inl (fun j => zb (mh j))))]) sz) := by
  refine Met.ofW (cc := b_Md_commit) (maxL := 2) (ret := (some .int)) (by decide) rfl ?_
  intro p e s m args below meth c s₁ B hml hv
  obtain ⟨rfl, hsz, hP, hK, hD0, hE⟩ := hv
  have hx := B.exec
  have hb := B.bytes
  have hr := B.returns
  have hts := fun w h => atoms_spec (ws := w_Md_commit) B.pre w (List.mem_cons_of_mem _ h)
  have hown : s.vm.findClass R_Md = some m.cls := findClass_of_methodNamed B.named
  have hlocks := B.notSynchronized
  subst hsz
  have hD := hD0.self (sz := s.heap.size)
  generalize hAe : va_A ([(h0, .inr (6, [.int (nI mS), .int (nI mQ), .ref gK, .ref gV, .ref gH, .int (nI mL), .int (zb mo), .ref gM, .int (nI mch), .int (nI mA), .int (nI mP), .ref gI, .ref gR, .ref gT, .ref gF, .ref gS, .ref gE, .ref gC, .int (nI mB), .int ml, .int mz])), (gK, .inl (cT 0, 1100, .inl mk)), (gV, .inl (cT 0, 1100, .inl mv)), (gH, .inl (cT 2, 1100, .inl (fun j => zb (mh j))))]) s.heap.size = A at hD ⊢
  have hA : ∀ q : Nat, s.heap.size ≤ q → A q := fun q h => by rw [← hAe]; exact Or.inr h
  have hS : va_S A s.heap s.heap [] := va_S.rf
  have hl := lv_entry ([.ref h0]) (n := 2) (Nat.le_of_ble_eq_true rfl)
  rw [lg_entry_eq]
  generalize (lg_sl ([.ref h0]) ++ List.replicate (2 - (lg_sl ([.ref h0])).length) Slot.unset).toArray = ls at hl ⊢
  have hl : lv_has ls 2 [(0, .ref h0)] := hl
  refine lv_aload_n hx hb d_Md_commit_0 rfl (lv_at hl 0 rfl) ?_
  refine va_get (D := (dC, dI)) (ci := 6) (v := .int (zb mo)) (C := R_Md) (T := F_Md) (N := 21) hx hb hts i_Md hown hK hP 0 rfl rfl 6 (by decide) (hts _ wd_569) (fun _ h9 => h9) rfl d_Md_commit_1 ?_
  refine zb_if_ne (tgt := 9) hx hb d_Md_commit_4 (by decide) (fun c_4 => ?_) (fun c_4 => absurd c_4 (by rw [ho]; decide))
  refine lv_aload_n hx hb d_Md_commit_9 rfl (lv_at hl 0 rfl) ?_
  refine zw_R (r := .int (nI ((mA + 4) * mS - mL))) (va_runV (As := []) (rest := []) ⟨hx, hb, hml, hown, hts⟩ (c_Md_room l dC dI cT h0 mS mQ gK gV gH mL mo gM mch mA mP gI gR gT gF gS gE gC mB ml mz (by first | omega | assumption)) (cwV 0 hts (zgV wd_638 wd_640 wp_8 wd_11 wd_641) rfl rfl rfl (by decide +kernel) ⟨Nat.le_of_ble_eq_true rfl, Nat.le_of_ble_eq_true rfl⟩) ⟨zPreR_blind, va_recv hK hP (ci := 6) (q0 := 0) rfl rfl, zp_R hK hE (zSub (X := [(h0, .inr (6, [.int (nI mS), .int (nI mQ), .ref gK, .ref gV, .ref gH, .int (nI mL), .int (zb mo), .ref gM, .int (nI mch), .int (nI mA), .int (nI mP), .ref gI, .ref gR, .ref gT, .ref gF, .ref gS, .ref gE, .ref gC, .int (nI mB), .int ml, .int mz])), (gK, .inl (cT 0, 1100, .inl mk)), (gV, .inl (cT 0, 1100, .inl mv)), (gH, .inl (cT 2, 1100, .inl (fun j => zb (mh j))))]) (pl := []) hP [0] rfl)⟩ rfl rfl hl.1 rfl (lv_room (Nat.le_of_ble_eq_true rfl)) d_Md_commit_10 ⟨Nat.le_of_ble_eq_true rfl, Nat.le_of_ble_eq_true rfl⟩) ?_
  refine zn_if_ne (tgt := 19) hx hb (a := (mA + 4) * mS - mL) (by omega) d_Md_commit_13 (by decide) (fun c_13 => ?_) (fun c_13 => absurd c_13 (by omega))
  refine lv_aload_n hx hb d_Md_commit_19 rfl (lv_at hl 0 rfl) ?_
  refine lv_iconst (v := (-1)) hx hb d_Md_commit_20 (by decide) ?_
  refine lv_iconst (v := (nI 0)) hx hb d_Md_commit_21 (by decide) ?_
  refine lv_iconst (v := (nI 0)) hx hb d_Md_commit_22 (by decide) ?_
  refine W.eq (g2 := F0 m 23 ls [.int (zb false), .int (nI 0), .int (-1), .ref h0]) rfl ?_
  refine zw_Q (X := [(h0, .inr (6, [.int (nI mS), .int (nI mQ), .ref gK, .ref gV, .ref gH, .int (nI mL), .int (zb mo), .ref gM, .int (nI mch), .int (nI mA), .int (nI mP), .ref gI, .ref gR, .ref gT, .ref gF, .ref gS, .ref gE, .ref gC, .int (nI mB), .int ml, .int mz])), (gK, .inl (cT 0, 1100, .inl mk)), (gV, .inl (cT 0, 1100, .inl mv)), (gH, .inl (cT 2, 1100, .inl (fun j => zb (mh j))))]) (pl := []) (va_runV (As := [.int (-1), .int (nI 0), .int (zb false)]) (rest := []) ⟨hx, hb, hml, hown, hts⟩ (c_Md_log l dC dI cT s.heap.size h0 mS mQ gK gV gH mL mo gM mch mA mP gI gR gT gF gS gE gC mB ml mz (-1) (nI 0) false mk mv mh (by first | omega | assumption)) (cwV 3 hts (zgV wd_642 wd_644 wp_9 wd_11 wd_645) rfl rfl rfl (by decide +kernel) ⟨Nat.le_of_ble_eq_true rfl, Nat.le_of_ble_eq_true rfl⟩) ⟨zPre_blind, va_recv hK hP (ci := 6) (q0 := 0) rfl rfl, zp_Q (X := [(h0, .inr (6, [.int (nI mS), .int (nI mQ), .ref gK, .ref gV, .ref gH, .int (nI mL), .int (zb mo), .ref gM, .int (nI mch), .int (nI mA), .int (nI mP), .ref gI, .ref gR, .ref gT, .ref gF, .ref gS, .ref gE, .ref gC, .int (nI mB), .int ml, .int mz])), (gK, .inl (cT 0, 1100, .inl mk)), (gV, .inl (cT 0, 1100, .inl mv)), (gH, .inl (cT 2, 1100, .inl (fun j => zb (mh j))))]) (pl := []) hK hE hP hD [0, 1, 2, 3] (by decide) rfl⟩ rfl rfl hl.1 rfl (lv_room (Nat.le_of_ble_eq_true rfl)) d_Md_commit_23 ⟨Nat.le_of_ble_eq_true rfl, Nat.le_of_ble_eq_true rfl⟩) hP hD hS hA [0, 1, 2, 3] [] rfl (wr := []) rfl (by decide) (by decide) (fun zu => [.int (nI (mL + 1))]) (fun _ => rfl) (fun zu H locs hφ hP hD hS => ?_)
  have hP : va_P (dC, dI) vwCl ([(h0, .inr (6, [.int (nI mS), .int (nI mQ), .ref gK, .ref gV, .ref gH, .int (nI (mL + 1)), .int (zb mo), .ref gM, .int (nI mch), .int (nI mA), .int (nI mP), .ref gI, .ref gR, .ref gT, .ref gF, .ref gS, .ref gE, .ref gC, .int (nI mB), .int ml, .int mz])), (gK, .inl (cT 0, 1100, .inl (va_up mk (mL + 1) (-1)))), (gV, .inl (cT 0, 1100, .inl (va_up mv (mL + 1) (nI 0)))), (gH, .inl (cT 2, 1100, .inl (fun j => zb ((va_up mh (mL + 1) false) j))))]) H := hP
  have hD : va_D A ([(h0, .inr (6, [.int (nI mS), .int (nI mQ), .ref gK, .ref gV, .ref gH, .int (nI (mL + 1)), .int (zb mo), .ref gM, .int (nI mch), .int (nI mA), .int (nI mP), .ref gI, .ref gR, .ref gT, .ref gF, .ref gS, .ref gE, .ref gC, .int (nI mB), .int ml, .int mz])), (gK, .inl (cT 0, 1100, .inl (va_up mk (mL + 1) (-1)))), (gV, .inl (cT 0, 1100, .inl (va_up mv (mL + 1) (nI 0)))), (gH, .inl (cT 2, 1100, .inl (fun j => zb ((va_up mh (mL + 1) false) j))))]) := hD
  refine lv_istore_n (lv' := [(1, .int (nI (mL + 1))), (0, .ref h0)]) hx hb d_Md_commit_26 rfl hl (by decide) rfl (fun ls hl => ?_)
  refine lv_aload_n hx hb d_Md_commit_27 rfl (lv_at hl 1 rfl) ?_
  refine lv_iconst (v := (nI 0)) hx hb d_Md_commit_28 (by decide) ?_
  refine W.eq (g2 := F0 m 29 ls [.int (zb false), .ref h0]) rfl ?_
  refine va_put (D := (dC, dI)) (ci := 6) (v := .int (zb false)) (ty := .boolean) (C := R_Md) (T := F_Md) (N := 21) hx hb hts i_Md t_Md t_Md_ok n_Md hown hK hP hD hS 0 rfl rfl 6 (by decide) (hts _ wd_569) (fun _ h9 => h9) rfl (by decide +kernel) (zb_narrow _) (zb_fits _) (Nat.le_of_ble_eq_true rfl) d_Md_commit_29 (fun H locs hP hD hS => ?_)
  have hP : va_P (dC, dI) vwCl ([(h0, .inr (6, [.int (nI mS), .int (nI mQ), .ref gK, .ref gV, .ref gH, .int (nI (mL + 1)), .int (zb false), .ref gM, .int (nI mch), .int (nI mA), .int (nI mP), .ref gI, .ref gR, .ref gT, .ref gF, .ref gS, .ref gE, .ref gC, .int (nI mB), .int ml, .int mz])), (gK, .inl (cT 0, 1100, .inl (va_up mk (mL + 1) (-1)))), (gV, .inl (cT 0, 1100, .inl (va_up mv (mL + 1) (nI 0)))), (gH, .inl (cT 2, 1100, .inl (fun j => zb ((va_up mh (mL + 1) false) j))))]) H := hP
  have hD : va_D A ([(h0, .inr (6, [.int (nI mS), .int (nI mQ), .ref gK, .ref gV, .ref gH, .int (nI (mL + 1)), .int (zb false), .ref gM, .int (nI mch), .int (nI mA), .int (nI mP), .ref gI, .ref gR, .ref gT, .ref gF, .ref gS, .ref gE, .ref gC, .int (nI mB), .int ml, .int mz])), (gK, .inl (cT 0, 1100, .inl (va_up mk (mL + 1) (-1)))), (gV, .inl (cT 0, 1100, .inl (va_up mv (mL + 1) (nI 0)))), (gH, .inl (cT 2, 1100, .inl (fun j => zb ((va_up mh (mL + 1) false) j))))]) := hD
  refine lv_aload_n hx hb d_Md_commit_32 rfl (lv_at hl 1 rfl) ?_
  refine lv_iconst (v := (nI 0)) hx hb d_Md_commit_33 (by decide) ?_
  refine va_put (D := (dC, dI)) (ci := 6) (v := .int (nI 0)) (ty := .int) (C := R_Md) (T := F_Md) (N := 21) hx hb hts i_Md t_Md t_Md_ok n_Md hown hK hP hD hS 0 rfl rfl 8 (by decide) (hts _ wd_571) (fun _ h9 => h9) rfl (by decide +kernel) rfl rfl (Nat.le_of_ble_eq_true rfl) d_Md_commit_34 (fun H locs hP hD hS => ?_)
  have hP : va_P (dC, dI) vwCl ([(h0, .inr (6, [.int (nI mS), .int (nI mQ), .ref gK, .ref gV, .ref gH, .int (nI (mL + 1)), .int (zb false), .ref gM, .int (nI 0), .int (nI mA), .int (nI mP), .ref gI, .ref gR, .ref gT, .ref gF, .ref gS, .ref gE, .ref gC, .int (nI mB), .int ml, .int mz])), (gK, .inl (cT 0, 1100, .inl (va_up mk (mL + 1) (-1)))), (gV, .inl (cT 0, 1100, .inl (va_up mv (mL + 1) (nI 0)))), (gH, .inl (cT 2, 1100, .inl (fun j => zb ((va_up mh (mL + 1) false) j))))]) H := hP
  have hD : va_D A ([(h0, .inr (6, [.int (nI mS), .int (nI mQ), .ref gK, .ref gV, .ref gH, .int (nI (mL + 1)), .int (zb false), .ref gM, .int (nI 0), .int (nI mA), .int (nI mP), .ref gI, .ref gR, .ref gT, .ref gF, .ref gS, .ref gE, .ref gC, .int (nI mB), .int ml, .int mz])), (gK, .inl (cT 0, 1100, .inl (va_up mk (mL + 1) (-1)))), (gV, .inl (cT 0, 1100, .inl (va_up mv (mL + 1) (nI 0)))), (gH, .inl (cT 2, 1100, .inl (fun j => zb ((va_up mh (mL + 1) false) j))))]) := hD
  refine lv_aload_n hx hb d_Md_commit_37 rfl (lv_at hl 1 rfl) ?_
  refine zw_R (r := .int (nI (zcom (va_up mk (mL + 1) (-1)) (mL + 1)))) (va_runV (As := []) (rest := []) ⟨hx, hb, hml, hown, hts⟩ (c_Md_commits l dC dI cT h0 mS mQ gK gV gH (mL + 1) false gM 0 mA mP gI gR gT gF gS gE gC mB ml mz (va_up mk (mL + 1) (-1)) (by first | omega | assumption)) (cwV 0 hts (zgV wd_650 wd_652 wp_10 wd_11 wd_653) rfl rfl rfl (by decide +kernel) ⟨Nat.le_of_ble_eq_true rfl, Nat.le_of_ble_eq_true rfl⟩) ⟨zPreR_blind, va_recv hK hP (ci := 6) (q0 := 0) rfl rfl, zp_R hK hE (zSub (X := [(h0, .inr (6, [.int (nI mS), .int (nI mQ), .ref gK, .ref gV, .ref gH, .int (nI (mL + 1)), .int (zb false), .ref gM, .int (nI 0), .int (nI mA), .int (nI mP), .ref gI, .ref gR, .ref gT, .ref gF, .ref gS, .ref gE, .ref gC, .int (nI mB), .int ml, .int mz])), (gK, .inl (cT 0, 1100, .inl (va_up mk (mL + 1) (-1)))), (gV, .inl (cT 0, 1100, .inl (va_up mv (mL + 1) (nI 0)))), (gH, .inl (cT 2, 1100, .inl (fun j => zb ((va_up mh (mL + 1) false) j))))]) (pl := []) hP [0, 1] rfl)⟩ rfl rfl hl.1 rfl (lv_room (Nat.le_of_ble_eq_true rfl)) d_Md_commit_38 ⟨Nat.le_of_ble_eq_true rfl, Nat.le_of_ble_eq_true rfl⟩) ?_
  have hP9 := hP.sub (ws' := [(h0, .inr (6, [.int (nI mS), .int (nI mQ), .ref gK, .ref gV, .ref gH, .int (nI (mL + 1)), .int (zb false), .ref gM, .int (nI 0), .int (nI mA), .int (nI mP), .ref gI, .ref gR, .ref gT, .ref gF, .ref gS, .ref gE, .ref gC, .int (nI mB), .int ml, .int mz])), (gK, .inl (cT 0, 1100, .inl (va_up mk (mL + 1) (-1)))), (gV, .inl (cT 0, 1100, .inl (va_up mv (mL + 1) (nI 0)))), (gH, .inl (cT 2, 1100, .inl (fun j => zb ((va_up mh (mL + 1) false) j))))]) [0, 1, 2, 3] rfl
  have hD9 := hD.sub (ws' := [(h0, .inr (6, [.int (nI mS), .int (nI mQ), .ref gK, .ref gV, .ref gH, .int (nI (mL + 1)), .int (zb false), .ref gM, .int (nI 0), .int (nI mA), .int (nI mP), .ref gI, .ref gR, .ref gT, .ref gF, .ref gS, .ref gE, .ref gC, .int (nI mB), .int ml, .int mz])), (gK, .inl (cT 0, 1100, .inl (va_up mk (mL + 1) (-1)))), (gV, .inl (cT 0, 1100, .inl (va_up mv (mL + 1) (nI 0)))), (gH, .inl (cT 2, 1100, .inl (fun j => zb ((va_up mh (mL + 1) false) j))))]) [0, 1, 2, 3] (by decide) rfl
  exact W.iret hx hb hr (fun t ht hW => ⟨⟨(), trivial, rfl, by rw [ht]; exact hP9, hD9⟩, hS.F ht⟩) hS.2.2 d_Md_commit_41
set_option maxHeartbeats 4000000 in
set_option maxRecDepth 100000 in
theorem c_Md_abort_ref (l : Launch) (dC : Nat → ClassId) (dI : Nat → Nat → Nat) (cT : Nat → ClassId) (sz : Nat) (h0 : Nat) (mS : Nat) (mQ : Nat) (gK : Nat) (gV : Nat) (gH : Nat) (mL : Nat) (mo : Bool) (gM : Nat) (mch : Nat) (mA : Nat) (mP : Nat) (gI : Nat) (gR : Nat) (gT : Nat) (gF : Nat) (gS : Nat) (gE : Nat) (gC : Nat) (mB : Nat) (ml : Int32) (mz : Int32) (ho : mo = false) : Met l y_Md_abort w_Md_abort ({ frames := 0, cells := 0, slots := 0, locals := 0 } : Room) (zPre (dC, dI) vwCl (zT cT) [.ref h0] ([(h0, .inr (6, [.int (nI mS), .int (nI mQ), .ref gK, .ref gV, .ref gH, .int (nI mL), .int (zb mo), .ref gM, .int (nI mch), .int (nI mA), .int (nI mP), .ref gI, .ref gR, .ref gT, .ref gF, .ref gS, .ref gE, .ref gC, .int (nI mB), .int ml, .int mz]))]) sz) (zQ (dC, dI) vwCl (S := Unit) (fun zu => True) (fun zu => some (.int (-1))) (fun zu => [(h0, .inr (6, [.int (nI mS), .int (nI mQ), .ref gK, .ref gV, .ref gH, .int (nI mL), .int (zb mo), .ref gM, .int (nI mch), .int (nI mA), .int (nI mP), .ref gI, .ref gR, .ref gT, .ref gF, .ref gS, .ref gE, .ref gC, .int (nI mB), .int ml, .int mz]))]) (va_A ([(h0, .inr (6, [.int (nI mS), .int (nI mQ), .ref gK, .ref gV, .ref gH, .int (nI mL), .int (zb mo), .ref gM, .int (nI mch), .int (nI mA), .int (nI mP), .ref gI, .ref gR, .ref gT, .ref gF, .ref gS, .ref gE, .ref gC, .int (nI mB), .int ml, .int mz]))]) sz)) 0 0 (va_A ([(h0, .inr (6, [.int (nI mS), .int (nI mQ), .ref gK, .ref gV, .ref gH, .int (nI mL), .int (zb mo), .ref gM, .int (nI mch), .int (nI mA), .int (nI mP), .ref gI, .ref gR, .ref gT, .ref gF, .ref gS, .ref gE, .ref gC, .int (nI mB), .int ml, .int mz]))]) sz) := by
  refine Met.ofW (cc := b_Md_abort) (maxL := 2) (ret := (some .int)) (by decide) rfl ?_
  intro p e s m args below meth c s₁ B hml hv
  obtain ⟨rfl, hsz, hP, hK, hD0, hE⟩ := hv
  have hx := B.exec
  have hb := B.bytes
  have hr := B.returns
  have hts := fun w h => atoms_spec (ws := w_Md_abort) B.pre w (List.mem_cons_of_mem _ h)
  have hown : s.vm.findClass R_Md = some m.cls := findClass_of_methodNamed B.named
  have hlocks := B.notSynchronized
  subst hsz
  have hD := hD0.self (sz := s.heap.size)
  generalize hAe : va_A ([(h0, .inr (6, [.int (nI mS), .int (nI mQ), .ref gK, .ref gV, .ref gH, .int (nI mL), .int (zb mo), .ref gM, .int (nI mch), .int (nI mA), .int (nI mP), .ref gI, .ref gR, .ref gT, .ref gF, .ref gS, .ref gE, .ref gC, .int (nI mB), .int ml, .int mz]))]) s.heap.size = A at hD ⊢
  have hA : ∀ q : Nat, s.heap.size ≤ q → A q := fun q h => by rw [← hAe]; exact Or.inr h
  have hS : va_S A s.heap s.heap [] := va_S.rf
  have hl := lv_entry ([.ref h0]) (n := 2) (Nat.le_of_ble_eq_true rfl)
  rw [lg_entry_eq]
  generalize (lg_sl ([.ref h0]) ++ List.replicate (2 - (lg_sl ([.ref h0])).length) Slot.unset).toArray = ls at hl ⊢
  have hl : lv_has ls 2 [(0, .ref h0)] := hl
  refine lv_aload_n hx hb d_Md_abort_0 rfl (lv_at hl 0 rfl) ?_
  refine va_get (D := (dC, dI)) (ci := 6) (v := .int (zb mo)) (C := R_Md) (T := F_Md) (N := 21) hx hb hts i_Md hown hK hP 0 rfl rfl 6 (by decide) (hts _ wd_569) (fun _ h9 => h9) rfl d_Md_abort_1 ?_
  refine zb_if_ne (tgt := 9) hx hb d_Md_abort_4 (by decide) (fun c_4 => absurd c_4 (by rw [ho]; decide)) (fun c_4 => ?_)
  refine lv_iconst (v := (-1)) hx hb d_Md_abort_7 (by decide) ?_
  have hP9 := hP.sub (ws' := [(h0, .inr (6, [.int (nI mS), .int (nI mQ), .ref gK, .ref gV, .ref gH, .int (nI mL), .int (zb mo), .ref gM, .int (nI mch), .int (nI mA), .int (nI mP), .ref gI, .ref gR, .ref gT, .ref gF, .ref gS, .ref gE, .ref gC, .int (nI mB), .int ml, .int mz]))]) [0] rfl
  have hD9 := hD.sub (ws' := [(h0, .inr (6, [.int (nI mS), .int (nI mQ), .ref gK, .ref gV, .ref gH, .int (nI mL), .int (zb mo), .ref gM, .int (nI mch), .int (nI mA), .int (nI mP), .ref gI, .ref gR, .ref gT, .ref gF, .ref gS, .ref gE, .ref gC, .int (nI mB), .int ml, .int mz]))]) [0] (by decide) rfl
  exact W.iret hx hb hr (fun t ht hW => ⟨⟨(), trivial, rfl, by rw [ht]; exact hP9, hD9⟩, hS.F ht⟩) hS.2.2 d_Md_abort_8
set_option maxHeartbeats 4000000 in
set_option maxRecDepth 100000 in
theorem c_Md_abort_ok (l : Launch) (dC : Nat → ClassId) (dI : Nat → Nat → Nat) (cT : Nat → ClassId) (sz : Nat) (h0 : Nat) (mS : Nat) (mQ : Nat) (gK : Nat) (gV : Nat) (gH : Nat) (mL : Nat) (mo : Bool) (gM : Nat) (mch : Nat) (mA : Nat) (mP : Nat) (gI : Nat) (gR : Nat) (gT : Nat) (gF : Nat) (gS : Nat) (gE : Nat) (gC : Nat) (mB : Nat) (ml : Int32) (mz : Int32) (mk : Nat → Int32) (mv : Nat → Int32) (mh : Nat → Bool) (mm : Nat → Nat) (hch : mch ≤ 4) (hLu : mL + mch + 1 ≤ 1000) (hmm : ∀ j, j < mch → 1 ≤ mm j ∧ mm j ≤ mL) (ho : mo = true) : Met l y_Md_abort w_Md_abort ({ frames := 2, cells := 0, slots := 0, locals := 47 } : Room) (zPre (dC, dI) vwCl (zT cT) [.ref h0] ([(h0, .inr (6, [.int (nI mS), .int (nI mQ), .ref gK, .ref gV, .ref gH, .int (nI mL), .int (zb mo), .ref gM, .int (nI mch), .int (nI mA), .int (nI mP), .ref gI, .ref gR, .ref gT, .ref gF, .ref gS, .ref gE, .ref gC, .int (nI mB), .int ml, .int mz])), (gK, .inl (cT 0, 1100, .inl mk)), (gV, .inl (cT 0, 1100, .inl mv)), (gH, .inl (cT 2, 1100, .inl (fun j => zb (mh j)))), (gM, .inl (cT 0, 4, .inl (fun j => nI (mm j))))]) sz) (zQ (dC, dI) vwCl (S := Unit) (fun zu => True) (fun zu => some (.int (nI mch))) (fun zu => [(h0, .inr (6, [.int (nI mS), .int (nI mQ), .ref gK, .ref gV, .ref gH, .int (nI (zuL mL mch)), .int (zb false), .ref gM, .int (nI 0), .int (nI mA), .int (nI mP), .ref gI, .ref gR, .ref gT, .ref gF, .ref gS, .ref gE, .ref gC, .int (nI mB), .int ml, .int mz])), (gK, .inl (cT 0, 1100, .inl (zvK mk mv mh mm mL mch))), (gV, .inl (cT 0, 1100, .inl (zvV mk mv mh mm mL mch))), (gH, .inl (cT 2, 1100, .inl (fun j => zb ((zvH mk mv mh mm mL mch) j)))), (gM, .inl (cT 0, 4, .inl (fun j => nI (mm j))))]) (va_A ([(h0, .inr (6, [.int (nI mS), .int (nI mQ), .ref gK, .ref gV, .ref gH, .int (nI mL), .int (zb mo), .ref gM, .int (nI mch), .int (nI mA), .int (nI mP), .ref gI, .ref gR, .ref gT, .ref gF, .ref gS, .ref gE, .ref gC, .int (nI mB), .int ml, .int mz])), (gK, .inl (cT 0, 1100, .inl mk)), (gV, .inl (cT 0, 1100, .inl mv)), (gH, .inl (cT 2, 1100, .inl (fun j => zb (mh j)))), (gM, .inl (cT 0, 4, .inl (fun j => nI (mm j))))]) sz)) 0 0 (va_A ([(h0, .inr (6, [.int (nI mS), .int (nI mQ), .ref gK, .ref gV, .ref gH, .int (nI mL), .int (zb mo), .ref gM, .int (nI mch), .int (nI mA), .int (nI mP), .ref gI, .ref gR, .ref gT, .ref gF, .ref gS, .ref gE, .ref gC, .int (nI mB), .int ml, .int mz])), (gK, .inl (cT 0, 1100, .inl mk)), (gV, .inl (cT 0, 1100, .inl mv)), (gH, .inl (cT 2, 1100, .inl (fun j => zb (mh j)))), (gM, .inl (cT 0, 4, .inl (fun j => nI (mm j))))]) sz) := by
  refine Met.ofW (cc := b_Md_abort) (maxL := 2) (ret := (some .int)) (by decide) rfl ?_
  intro p e s m args below meth c s₁ B hml hv
  obtain ⟨rfl, hsz, hP, hK, hD0, hE⟩ := hv
  have hx := B.exec
  have hb := B.bytes
  have hr := B.returns
  have hts := fun w h => atoms_spec (ws := w_Md_abort) B.pre w (List.mem_cons_of_mem _ h)
  have hown : s.vm.findClass R_Md = some m.cls := findClass_of_methodNamed B.named
  have hlocks := B.notSynchronized
  subst hsz
  have hD := hD0.self (sz := s.heap.size)
  generalize hAe : va_A ([(h0, .inr (6, [.int (nI mS), .int (nI mQ), .ref gK, .ref gV, .ref gH, .int (nI mL), .int (zb mo), .ref gM, .int (nI mch), .int (nI mA), .int (nI mP), .ref gI, .ref gR, .ref gT, .ref gF, .ref gS, .ref gE, .ref gC, .int (nI mB), .int ml, .int mz])), (gK, .inl (cT 0, 1100, .inl mk)), (gV, .inl (cT 0, 1100, .inl mv)), (gH, .inl (cT 2, 1100, .inl (fun j => zb (mh j)))), (gM, .inl (cT 0, 4, .inl (fun j => nI (mm j))))]) s.heap.size = A at hD ⊢
  have hA : ∀ q : Nat, s.heap.size ≤ q → A q := fun q h => by rw [← hAe]; exact Or.inr h
  have hS : va_S A s.heap s.heap [] := va_S.rf
  have hl := lv_entry ([.ref h0]) (n := 2) (Nat.le_of_ble_eq_true rfl)
  rw [lg_entry_eq]
  generalize (lg_sl ([.ref h0]) ++ List.replicate (2 - (lg_sl ([.ref h0])).length) Slot.unset).toArray = ls at hl ⊢
  have hl : lv_has ls 2 [(0, .ref h0)] := hl
  refine lv_aload_n hx hb d_Md_abort_0 rfl (lv_at hl 0 rfl) ?_
  refine va_get (D := (dC, dI)) (ci := 6) (v := .int (zb mo)) (C := R_Md) (T := F_Md) (N := 21) hx hb hts i_Md hown hK hP 0 rfl rfl 6 (by decide) (hts _ wd_569) (fun _ h9 => h9) rfl d_Md_abort_1 ?_
  refine zb_if_ne (tgt := 9) hx hb d_Md_abort_4 (by decide) (fun c_4 => ?_) (fun c_4 => absurd c_4 (by rw [ho]; decide))
  refine lv_aload_n hx hb d_Md_abort_9 rfl (lv_at hl 0 rfl) ?_
  refine va_get (D := (dC, dI)) (ci := 6) (v := .int (nI mch)) (C := R_Md) (T := F_Md) (N := 21) hx hb hts i_Md hown hK hP 0 rfl rfl 8 (by decide) (hts _ wd_571) (fun _ h9 => h9) rfl d_Md_abort_10 ?_
  refine lv_istore_n (lv' := [(1, .int (nI mch)), (0, .ref h0)]) hx hb d_Md_abort_13 rfl hl (by decide) rfl (fun ls hl => ?_)
  refine lv_aload_n hx hb d_Md_abort_14 rfl (lv_at hl 1 rfl) ?_
  refine zw_Q (X := [(h0, .inr (6, [.int (nI mS), .int (nI mQ), .ref gK, .ref gV, .ref gH, .int (nI mL), .int (zb mo), .ref gM, .int (nI mch), .int (nI mA), .int (nI mP), .ref gI, .ref gR, .ref gT, .ref gF, .ref gS, .ref gE, .ref gC, .int (nI mB), .int ml, .int mz])), (gK, .inl (cT 0, 1100, .inl mk)), (gV, .inl (cT 0, 1100, .inl mv)), (gH, .inl (cT 2, 1100, .inl (fun j => zb (mh j)))), (gM, .inl (cT 0, 4, .inl (fun j => nI (mm j))))]) (pl := []) (va_runV (As := []) (rest := []) ⟨hx, hb, hml, hown, hts⟩ (c_Md_undo l dC dI cT s.heap.size h0 mS mQ gK gV gH mL mo gM mch mA mP gI gR gT gF gS gE gC mB ml mz mk mv mh mm (by first | omega | assumption) (by first | omega | assumption) (by first | omega | assumption)) (cwV 0 hts (zgV wd_658 wd_660 wp_11 wd_11 wd_661) rfl rfl rfl (by decide +kernel) ⟨Nat.le_of_ble_eq_true rfl, Nat.le_of_ble_eq_true rfl⟩) ⟨zPre_blind, va_recv hK hP (ci := 6) (q0 := 0) rfl rfl, zp_Q (X := [(h0, .inr (6, [.int (nI mS), .int (nI mQ), .ref gK, .ref gV, .ref gH, .int (nI mL), .int (zb mo), .ref gM, .int (nI mch), .int (nI mA), .int (nI mP), .ref gI, .ref gR, .ref gT, .ref gF, .ref gS, .ref gE, .ref gC, .int (nI mB), .int ml, .int mz])), (gK, .inl (cT 0, 1100, .inl mk)), (gV, .inl (cT 0, 1100, .inl mv)), (gH, .inl (cT 2, 1100, .inl (fun j => zb (mh j)))), (gM, .inl (cT 0, 4, .inl (fun j => nI (mm j))))]) (pl := []) hK hE hP hD [0, 1, 2, 3, 4] (by decide) rfl⟩ rfl rfl hl.1 rfl (lv_room (Nat.le_of_ble_eq_true rfl)) d_Md_abort_15 ⟨Nat.le_of_ble_eq_true rfl, Nat.le_of_ble_eq_true rfl⟩) hP hD hS hA [0, 1, 2, 3, 4] [] rfl (wr := []) rfl (by decide) (by decide) (fun zu => []) (fun _ => rfl) (fun zu H locs hφ hP hD hS => ?_)
  have hP : va_P (dC, dI) vwCl ([(h0, .inr (6, [.int (nI mS), .int (nI mQ), .ref gK, .ref gV, .ref gH, .int (nI (zuL mL mch)), .int (zb false), .ref gM, .int (nI 0), .int (nI mA), .int (nI mP), .ref gI, .ref gR, .ref gT, .ref gF, .ref gS, .ref gE, .ref gC, .int (nI mB), .int ml, .int mz])), (gK, .inl (cT 0, 1100, .inl (zvK mk mv mh mm mL mch))), (gV, .inl (cT 0, 1100, .inl (zvV mk mv mh mm mL mch))), (gH, .inl (cT 2, 1100, .inl (fun j => zb ((zvH mk mv mh mm mL mch) j)))), (gM, .inl (cT 0, 4, .inl (fun j => nI (mm j))))]) H := hP
  have hD : va_D A ([(h0, .inr (6, [.int (nI mS), .int (nI mQ), .ref gK, .ref gV, .ref gH, .int (nI (zuL mL mch)), .int (zb false), .ref gM, .int (nI 0), .int (nI mA), .int (nI mP), .ref gI, .ref gR, .ref gT, .ref gF, .ref gS, .ref gE, .ref gC, .int (nI mB), .int ml, .int mz])), (gK, .inl (cT 0, 1100, .inl (zvK mk mv mh mm mL mch))), (gV, .inl (cT 0, 1100, .inl (zvV mk mv mh mm mL mch))), (gH, .inl (cT 2, 1100, .inl (fun j => zb ((zvH mk mv mh mm mL mch) j)))), (gM, .inl (cT 0, 4, .inl (fun j => nI (mm j))))]) := hD
  refine lv_iload_n hx hb d_Md_abort_18 rfl (lv_at hl 0 rfl) ?_
  have hP9 := hP.sub (ws' := [(h0, .inr (6, [.int (nI mS), .int (nI mQ), .ref gK, .ref gV, .ref gH, .int (nI (zuL mL mch)), .int (zb false), .ref gM, .int (nI 0), .int (nI mA), .int (nI mP), .ref gI, .ref gR, .ref gT, .ref gF, .ref gS, .ref gE, .ref gC, .int (nI mB), .int ml, .int mz])), (gK, .inl (cT 0, 1100, .inl (zvK mk mv mh mm mL mch))), (gV, .inl (cT 0, 1100, .inl (zvV mk mv mh mm mL mch))), (gH, .inl (cT 2, 1100, .inl (fun j => zb ((zvH mk mv mh mm mL mch) j)))), (gM, .inl (cT 0, 4, .inl (fun j => nI (mm j))))]) [0, 1, 2, 3, 4] rfl
  have hD9 := hD.sub (ws' := [(h0, .inr (6, [.int (nI mS), .int (nI mQ), .ref gK, .ref gV, .ref gH, .int (nI (zuL mL mch)), .int (zb false), .ref gM, .int (nI 0), .int (nI mA), .int (nI mP), .ref gI, .ref gR, .ref gT, .ref gF, .ref gS, .ref gE, .ref gC, .int (nI mB), .int ml, .int mz])), (gK, .inl (cT 0, 1100, .inl (zvK mk mv mh mm mL mch))), (gV, .inl (cT 0, 1100, .inl (zvV mk mv mh mm mL mch))), (gH, .inl (cT 2, 1100, .inl (fun j => zb ((zvH mk mv mh mm mL mch) j)))), (gM, .inl (cT 0, 4, .inl (fun j => nI (mm j))))]) [0, 1, 2, 3, 4] (by decide) rfl
  exact W.iret hx hb hr (fun t ht hW => ⟨⟨(), trivial, rfl, by rw [ht]; exact hP9, hD9⟩, hS.F ht⟩) hS.2.2 d_Md_abort_19
set_option maxHeartbeats 4000000 in
set_option maxRecDepth 100000 in
theorem c_Md_get (l : Launch) (dC : Nat → ClassId) (dI : Nat → Nat → Nat) (cT : Nat → ClassId) (h0 : Nat) (mS : Nat) (mQ : Nat) (gK : Nat) (gV : Nat) (gH : Nat) (mL : Nat) (mo : Bool) (gM : Nat) (mch : Nat) (mA : Nat) (mP : Nat) (gI : Nat) (gR : Nat) (gT : Nat) (gF : Nat) (gS : Nat) (gE : Nat) (gC : Nat) (mB : Nat) (ml : Int32) (mz : Int32) (k : Int32) (mk : Nat → Int32) (mv : Nat → Int32) (mh : Nat → Bool) (hL : mL ≤ 1000) : Met l y_Md_get w_Md_get ({ frames := 1, cells := 0, slots := 0, locals := 23 } : Room) (zPreR (dC, dI) vwCl (zT cT) [.ref h0, .int k] ([(h0, .inr (6, [.int (nI mS), .int (nI mQ), .ref gK, .ref gV, .ref gH, .int (nI mL), .int (zb mo), .ref gM, .int (nI mch), .int (nI mA), .int (nI mP), .ref gI, .ref gR, .ref gT, .ref gF, .ref gS, .ref gE, .ref gC, .int (nI mB), .int ml, .int mz])), (gK, .inl (cT 0, 1100, .inl mk)), (gV, .inl (cT 0, 1100, .inl mv)), (gH, .inl (cT 2, 1100, .inl (fun j => zb (mh j))))])) (k2_QcV (.long (if isIn k 32 = true then zaf mk mv mh k mL else (-1000000000000)))) 0 0 (fun _ => False) := by
  refine Met.ofW (cc := b_Md_get) (maxL := 2) (ret := (some .long)) (by decide) rfl ?_
  intro p e s m args below meth c s₁ B hml hv
  obtain ⟨rfl, hP, hK, hE⟩ := hv
  have hx := B.exec
  have hb := B.bytes
  have hr := B.returns
  have hts := fun w h => atoms_spec (ws := w_Md_get) B.pre w (List.mem_cons_of_mem _ h)
  have hown : s.vm.findClass R_Md = some m.cls := findClass_of_methodNamed B.named
  have hlocks := B.notSynchronized
  have hl := lv_entry ([.ref h0, .int k]) (n := 2) (Nat.le_of_ble_eq_true rfl)
  rw [lg_entry_eq]
  generalize (lg_sl ([.ref h0, .int k]) ++ List.replicate (2 - (lg_sl ([.ref h0, .int k])).length) Slot.unset).toArray = ls at hl ⊢
  have hl : lv_has ls 2 [(0, .ref h0), (1, .int k)] := hl
  refine lv_iload_n hx hb d_Md_get_0 rfl (lv_at hl 1 rfl) ?_
  refine lv_bipush (v := (nI 32)) hx hb d_Md_get_1 (by decide) ?_
  refine zw_R (r := .int (zb (isIn k 32))) (va_runS (As := [.int k, .int (nI 32)]) (rest := []) ⟨hx, hb, hml, hown, hts⟩ (c_Md_in l dC dI cT k 32) (va_cwS 2 hts (zgS wd_635 wd_636 wd_11 wd_637) rfl rfl rfl (by decide +kernel) ⟨Nat.le_of_ble_eq_true rfl, Nat.le_of_ble_eq_true rfl⟩) ⟨zPreR_blind, zp_R hK hE (zSub (X := [(h0, .inr (6, [.int (nI mS), .int (nI mQ), .ref gK, .ref gV, .ref gH, .int (nI mL), .int (zb mo), .ref gM, .int (nI mch), .int (nI mA), .int (nI mP), .ref gI, .ref gR, .ref gT, .ref gF, .ref gS, .ref gE, .ref gC, .int (nI mB), .int ml, .int mz])), (gK, .inl (cT 0, 1100, .inl mk)), (gV, .inl (cT 0, 1100, .inl mv)), (gH, .inl (cT 2, 1100, .inl (fun j => zb (mh j))))]) (pl := []) hP [] rfl)⟩ rfl rfl hl.1 rfl (lv_room (Nat.le_of_ble_eq_true rfl)) d_Md_get_3 ⟨Nat.le_of_ble_eq_true rfl, Nat.le_of_ble_eq_true rfl⟩) ?_
  refine zb_if_eq (tgt := 21) hx hb d_Md_get_6 (by decide) (fun c_6 => ?_) (fun c_6 => ?_)
  · refine lv_ldc2 (v := (-1000000000000)) hx hb hown (hts _ wd_671) d_Md_get_21 ?_
    exact W.lret hx hb hr (fun t ht hW => ⟨by rw [if_neg (by rw [c_6]; decide)], ht⟩) (fun q h => by cases h) d_Md_get_24
  · refine lv_aload_n hx hb d_Md_get_9 rfl (lv_at hl 0 rfl) ?_
    refine lv_aload_n hx hb d_Md_get_10 rfl (lv_at hl 0 rfl) ?_
    refine va_get (D := (dC, dI)) (ci := 6) (v := .int (nI mL)) (C := R_Md) (T := F_Md) (N := 21) hx hb hts i_Md hown hK hP 0 rfl rfl 5 (by decide) (hts _ wd_568) (fun _ h9 => h9) rfl d_Md_get_11 ?_
    refine lv_iload_n hx hb d_Md_get_14 rfl (lv_at hl 1 rfl) ?_
    refine zw_R (r := .long (zaf mk mv mh k mL)) (va_runV (As := [.int (nI mL), .int k]) (rest := []) ⟨hx, hb, hml, hown, hts⟩ (c_Md_after l dC dI cT h0 mS mQ gK gV gH mL mo gM mch mA mP gI gR gT gF gS gE gC mB ml mz mL k mk mv mh (by first | omega | assumption)) (cwV 2 hts (zgV wd_662 wd_664 wp_12 wd_11 wd_665) rfl rfl rfl (by decide +kernel) ⟨Nat.le_of_ble_eq_true rfl, Nat.le_of_ble_eq_true rfl⟩) ⟨zPreR_blind, va_recv hK hP (ci := 6) (q0 := 0) rfl rfl, zp_R hK hE (zSub (X := [(h0, .inr (6, [.int (nI mS), .int (nI mQ), .ref gK, .ref gV, .ref gH, .int (nI mL), .int (zb mo), .ref gM, .int (nI mch), .int (nI mA), .int (nI mP), .ref gI, .ref gR, .ref gT, .ref gF, .ref gS, .ref gE, .ref gC, .int (nI mB), .int ml, .int mz])), (gK, .inl (cT 0, 1100, .inl mk)), (gV, .inl (cT 0, 1100, .inl mv)), (gH, .inl (cT 2, 1100, .inl (fun j => zb (mh j))))]) (pl := []) hP [0, 1, 2, 3] rfl)⟩ rfl rfl hl.1 rfl (lv_room (Nat.le_of_ble_eq_true rfl)) d_Md_get_15 ⟨Nat.le_of_ble_eq_true rfl, Nat.le_of_ble_eq_true rfl⟩) ?_
    refine lv_goto (tgt := 24) hx hb d_Md_get_18 (by decide) ?_
    exact W.lret hx hb hr (fun t ht hW => ⟨by rw [if_pos c_6], ht⟩) (fun q h => by cases h) d_Md_get_24
set_option maxHeartbeats 4000000 in
set_option maxRecDepth 100000 in
theorem c_Md_write_ref (l : Launch) (dC : Nat → ClassId) (dI : Nat → Nat → Nat) (cT : Nat → ClassId) (sz : Nat) (h0 : Nat) (mS : Nat) (mQ : Nat) (gK : Nat) (gV : Nat) (gH : Nat) (mL : Nat) (mo : Bool) (gM : Nat) (mch : Nat) (mA : Nat) (mP : Nat) (gI : Nat) (gR : Nat) (gT : Nat) (gF : Nat) (gS : Nat) (gE : Nat) (gC : Nat) (mB : Nat) (ml : Int32) (mz : Int32) (k : Int32) (hno : isIn k 8 = false) : Met l y_Md_write w_Md_write ({ frames := 1, cells := 0, slots := 0, locals := 21 } : Room) (zPre (dC, dI) vwCl (zT cT) [.ref h0, .int k] ([(h0, .inr (6, [.int (nI mS), .int (nI mQ), .ref gK, .ref gV, .ref gH, .int (nI mL), .int (zb mo), .ref gM, .int (nI mch), .int (nI mA), .int (nI mP), .ref gI, .ref gR, .ref gT, .ref gF, .ref gS, .ref gE, .ref gC, .int (nI mB), .int ml, .int mz]))]) sz) (zQ (dC, dI) vwCl (S := Unit) (fun zu => True) (fun zu => some (.int (-1))) (fun zu => [(h0, .inr (6, [.int (nI mS), .int (nI mQ), .ref gK, .ref gV, .ref gH, .int (nI mL), .int (zb mo), .ref gM, .int (nI mch), .int (nI mA), .int (nI mP), .ref gI, .ref gR, .ref gT, .ref gF, .ref gS, .ref gE, .ref gC, .int (nI mB), .int ml, .int mz]))]) (va_A ([(h0, .inr (6, [.int (nI mS), .int (nI mQ), .ref gK, .ref gV, .ref gH, .int (nI mL), .int (zb mo), .ref gM, .int (nI mch), .int (nI mA), .int (nI mP), .ref gI, .ref gR, .ref gT, .ref gF, .ref gS, .ref gE, .ref gC, .int (nI mB), .int ml, .int mz]))]) sz)) 0 0 (va_A ([(h0, .inr (6, [.int (nI mS), .int (nI mQ), .ref gK, .ref gV, .ref gH, .int (nI mL), .int (zb mo), .ref gM, .int (nI mch), .int (nI mA), .int (nI mP), .ref gI, .ref gR, .ref gT, .ref gF, .ref gS, .ref gE, .ref gC, .int (nI mB), .int ml, .int mz]))]) sz) := by
  refine Met.ofW (cc := b_Md_write) (maxL := 2) (ret := (some .int)) (by decide) rfl ?_
  intro p e s m args below meth c s₁ B hml hv
  obtain ⟨rfl, hsz, hP, hK, hD0, hE⟩ := hv
  have hx := B.exec
  have hb := B.bytes
  have hr := B.returns
  have hts := fun w h => atoms_spec (ws := w_Md_write) B.pre w (List.mem_cons_of_mem _ h)
  have hown : s.vm.findClass R_Md = some m.cls := findClass_of_methodNamed B.named
  have hlocks := B.notSynchronized
  subst hsz
  have hD := hD0.self (sz := s.heap.size)
  generalize hAe : va_A ([(h0, .inr (6, [.int (nI mS), .int (nI mQ), .ref gK, .ref gV, .ref gH, .int (nI mL), .int (zb mo), .ref gM, .int (nI mch), .int (nI mA), .int (nI mP), .ref gI, .ref gR, .ref gT, .ref gF, .ref gS, .ref gE, .ref gC, .int (nI mB), .int ml, .int mz]))]) s.heap.size = A at hD ⊢
  have hA : ∀ q : Nat, s.heap.size ≤ q → A q := fun q h => by rw [← hAe]; exact Or.inr h
  have hS : va_S A s.heap s.heap [] := va_S.rf
  have hl := lv_entry ([.ref h0, .int k]) (n := 2) (Nat.le_of_ble_eq_true rfl)
  rw [lg_entry_eq]
  generalize (lg_sl ([.ref h0, .int k]) ++ List.replicate (2 - (lg_sl ([.ref h0, .int k])).length) Slot.unset).toArray = ls at hl ⊢
  have hl : lv_has ls 2 [(0, .ref h0), (1, .int k)] := hl
  refine lv_iload_n hx hb d_Md_write_0 rfl (lv_at hl 1 rfl) ?_
  refine lv_bipush (v := (nI 8)) hx hb d_Md_write_1 (by decide) ?_
  refine zw_R (r := .int (zb (isIn k 8))) (va_runS (As := [.int k, .int (nI 8)]) (rest := []) ⟨hx, hb, hml, hown, hts⟩ (c_Md_in l dC dI cT k 8) (va_cwS 2 hts (zgS wd_635 wd_636 wd_11 wd_637) rfl rfl rfl (by decide +kernel) ⟨Nat.le_of_ble_eq_true rfl, Nat.le_of_ble_eq_true rfl⟩) ⟨zPreR_blind, zp_R hK hE (zSub (X := [(h0, .inr (6, [.int (nI mS), .int (nI mQ), .ref gK, .ref gV, .ref gH, .int (nI mL), .int (zb mo), .ref gM, .int (nI mch), .int (nI mA), .int (nI mP), .ref gI, .ref gR, .ref gT, .ref gF, .ref gS, .ref gE, .ref gC, .int (nI mB), .int ml, .int mz]))]) (pl := []) hP [] rfl)⟩ rfl rfl hl.1 rfl (lv_room (Nat.le_of_ble_eq_true rfl)) d_Md_write_3 ⟨Nat.le_of_ble_eq_true rfl, Nat.le_of_ble_eq_true rfl⟩) ?_
  refine zb_if_ne (tgt := 11) hx hb d_Md_write_6 (by decide) (fun c_6 => absurd c_6 (by rw [hno]; decide)) (fun c_6 => ?_)
  refine lv_iconst (v := (-1)) hx hb d_Md_write_9 (by decide) ?_
  have hP9 := hP.sub (ws' := [(h0, .inr (6, [.int (nI mS), .int (nI mQ), .ref gK, .ref gV, .ref gH, .int (nI mL), .int (zb mo), .ref gM, .int (nI mch), .int (nI mA), .int (nI mP), .ref gI, .ref gR, .ref gT, .ref gF, .ref gS, .ref gE, .ref gC, .int (nI mB), .int ml, .int mz]))]) [0] rfl
  have hD9 := hD.sub (ws' := [(h0, .inr (6, [.int (nI mS), .int (nI mQ), .ref gK, .ref gV, .ref gH, .int (nI mL), .int (zb mo), .ref gM, .int (nI mch), .int (nI mA), .int (nI mP), .ref gI, .ref gR, .ref gT, .ref gF, .ref gS, .ref gE, .ref gC, .int (nI mB), .int ml, .int mz]))]) [0] (by decide) rfl
  exact W.iret hx hb hr (fun t ht hW => ⟨⟨(), trivial, rfl, by rw [ht]; exact hP9, hD9⟩, hS.F ht⟩) hS.2.2 d_Md_write_10
set_option maxHeartbeats 4000000 in
set_option maxRecDepth 100000 in
theorem c_Md_write_ok (l : Launch) (dC : Nat → ClassId) (dI : Nat → Nat → Nat) (cT : Nat → ClassId) (sz : Nat) (h0 : Nat) (mS : Nat) (mQ : Nat) (gK : Nat) (gV : Nat) (gH : Nat) (mL : Nat) (mo : Bool) (gM : Nat) (mch : Nat) (mA : Nat) (mP : Nat) (gI : Nat) (gR : Nat) (gT : Nat) (gF : Nat) (gS : Nat) (gE : Nat) (gC : Nat) (mB : Nat) (ml : Int32) (mz : Int32) (pg : Nat) (mk : Nat → Int32) (mi : Nat → Nat) (mr : Nat → Bool) (hL : mL ≤ 1000) (hkey : ∀ i, 1 ≤ i → i ≤ mL → ¬ mk i < 0 → isIn (mk i) 32 = true) (hp : pg < 8) : Met l y_Md_write w_Md_write ({ frames := 1, cells := 0, slots := 0, locals := 22 } : Room) (zPre (dC, dI) vwCl (zT cT) [.ref h0, .int (nI pg)] ([(h0, .inr (6, [.int (nI mS), .int (nI mQ), .ref gK, .ref gV, .ref gH, .int (nI mL), .int (zb mo), .ref gM, .int (nI mch), .int (nI mA), .int (nI mP), .ref gI, .ref gR, .ref gT, .ref gF, .ref gS, .ref gE, .ref gC, .int (nI mB), .int ml, .int mz])), (gK, .inl (cT 0, 1100, .inl mk)), (gI, .inl (cT 0, 8, .inl (fun j => nI (mi j)))), (gR, .inl (cT 2, 8, .inl (fun j => zb (mr j))))]) sz) (zQ (dC, dI) vwCl (S := Unit) (fun zu => True) (fun zu => some (.int (nI (znum mk pg mL)))) (fun zu => [(h0, .inr (6, [.int (nI mS), .int (nI mQ), .ref gK, .ref gV, .ref gH, .int (nI mL), .int (zb mo), .ref gM, .int (nI mch), .int (nI mA), .int (nI mP), .ref gI, .ref gR, .ref gT, .ref gF, .ref gS, .ref gE, .ref gC, .int (nI mB), .int ml, .int mz])), (gK, .inl (cT 0, 1100, .inl mk)), (gI, .inl (cT 0, 8, .inl (fun j => nI ((va_up mi pg (znum mk pg mL)) j)))), (gR, .inl (cT 2, 8, .inl (fun j => zb ((va_up mr pg true) j))))]) (va_A ([(h0, .inr (6, [.int (nI mS), .int (nI mQ), .ref gK, .ref gV, .ref gH, .int (nI mL), .int (zb mo), .ref gM, .int (nI mch), .int (nI mA), .int (nI mP), .ref gI, .ref gR, .ref gT, .ref gF, .ref gS, .ref gE, .ref gC, .int (nI mB), .int ml, .int mz])), (gK, .inl (cT 0, 1100, .inl mk)), (gI, .inl (cT 0, 8, .inl (fun j => nI (mi j)))), (gR, .inl (cT 2, 8, .inl (fun j => zb (mr j))))]) sz)) 0 0 (va_A ([(h0, .inr (6, [.int (nI mS), .int (nI mQ), .ref gK, .ref gV, .ref gH, .int (nI mL), .int (zb mo), .ref gM, .int (nI mch), .int (nI mA), .int (nI mP), .ref gI, .ref gR, .ref gT, .ref gF, .ref gS, .ref gE, .ref gC, .int (nI mB), .int ml, .int mz])), (gK, .inl (cT 0, 1100, .inl mk)), (gI, .inl (cT 0, 8, .inl (fun j => nI (mi j)))), (gR, .inl (cT 2, 8, .inl (fun j => zb (mr j))))]) sz) := by
  refine Met.ofW (cc := b_Md_write) (maxL := 2) (ret := (some .int)) (by decide) rfl ?_
  intro p e s m args below meth c s₁ B hml hv
  obtain ⟨rfl, hsz, hP, hK, hD0, hE⟩ := hv
  have hx := B.exec
  have hb := B.bytes
  have hr := B.returns
  have hts := fun w h => atoms_spec (ws := w_Md_write) B.pre w (List.mem_cons_of_mem _ h)
  have hown : s.vm.findClass R_Md = some m.cls := findClass_of_methodNamed B.named
  have hlocks := B.notSynchronized
  subst hsz
  have hD := hD0.self (sz := s.heap.size)
  generalize hAe : va_A ([(h0, .inr (6, [.int (nI mS), .int (nI mQ), .ref gK, .ref gV, .ref gH, .int (nI mL), .int (zb mo), .ref gM, .int (nI mch), .int (nI mA), .int (nI mP), .ref gI, .ref gR, .ref gT, .ref gF, .ref gS, .ref gE, .ref gC, .int (nI mB), .int ml, .int mz])), (gK, .inl (cT 0, 1100, .inl mk)), (gI, .inl (cT 0, 8, .inl (fun j => nI (mi j)))), (gR, .inl (cT 2, 8, .inl (fun j => zb (mr j))))]) s.heap.size = A at hD ⊢
  have hA : ∀ q : Nat, s.heap.size ≤ q → A q := fun q h => by rw [← hAe]; exact Or.inr h
  have hS : va_S A s.heap s.heap [] := va_S.rf
  have hl := lv_entry ([.ref h0, .int (nI pg)]) (n := 2) (Nat.le_of_ble_eq_true rfl)
  rw [lg_entry_eq]
  generalize (lg_sl ([.ref h0, .int (nI pg)]) ++ List.replicate (2 - (lg_sl ([.ref h0, .int (nI pg)])).length) Slot.unset).toArray = ls at hl ⊢
  have hl : lv_has ls 2 [(0, .ref h0), (1, .int (nI pg))] := hl
  refine lv_iload_n hx hb d_Md_write_0 rfl (lv_at hl 1 rfl) ?_
  refine lv_bipush (v := (nI 8)) hx hb d_Md_write_1 (by decide) ?_
  refine zw_R (r := .int (zb (isIn (nI pg) 8))) (va_runS (As := [.int (nI pg), .int (nI 8)]) (rest := []) ⟨hx, hb, hml, hown, hts⟩ (c_Md_in l dC dI cT (nI pg) 8) (va_cwS 2 hts (zgS wd_635 wd_636 wd_11 wd_637) rfl rfl rfl (by decide +kernel) ⟨Nat.le_of_ble_eq_true rfl, Nat.le_of_ble_eq_true rfl⟩) ⟨zPreR_blind, zp_R hK hE (zSub (X := [(h0, .inr (6, [.int (nI mS), .int (nI mQ), .ref gK, .ref gV, .ref gH, .int (nI mL), .int (zb mo), .ref gM, .int (nI mch), .int (nI mA), .int (nI mP), .ref gI, .ref gR, .ref gT, .ref gF, .ref gS, .ref gE, .ref gC, .int (nI mB), .int ml, .int mz])), (gK, .inl (cT 0, 1100, .inl mk)), (gI, .inl (cT 0, 8, .inl (fun j => nI (mi j)))), (gR, .inl (cT 2, 8, .inl (fun j => zb (mr j))))]) (pl := []) hP [] rfl)⟩ rfl rfl hl.1 rfl (lv_room (Nat.le_of_ble_eq_true rfl)) d_Md_write_3 ⟨Nat.le_of_ble_eq_true rfl, Nat.le_of_ble_eq_true rfl⟩) ?_
  refine zb_if_ne (tgt := 11) hx hb d_Md_write_6 (by decide) (fun c_6 => ?_) (fun c_6 => absurd c_6 (by rw [isIn_nI (by decide) hp]; decide))
  refine lv_aload_n hx hb d_Md_write_11 rfl (lv_at hl 0 rfl) ?_
  refine va_get (D := (dC, dI)) (ci := 6) (v := .ref gI) (C := R_Md) (T := F_Md) (N := 21) hx hb hts i_Md hown hK hP 0 rfl rfl 11 (by decide) (hts _ wd_574) (fun _ h9 => h9) rfl d_Md_write_12 ?_
  refine lv_iload_n hx hb d_Md_write_15 rfl (lv_at hl 1 rfl) ?_
  refine lv_aload_n hx hb d_Md_write_16 rfl (lv_at hl 0 rfl) ?_
  refine lv_iload_n hx hb d_Md_write_17 rfl (lv_at hl 1 rfl) ?_
  refine zw_R (r := .int (nI (znum mk pg mL))) (va_runV (As := [.int (nI pg)]) (rest := [.int (nI pg), .ref gI]) ⟨hx, hb, hml, hown, hts⟩ (c_Md_numberOf l dC dI cT h0 mS mQ gK gV gH mL mo gM mch mA mP gI gR gT gF gS gE gC mB ml mz pg mk (by first | omega | assumption) (by first | omega | assumption) (by first | omega | assumption)) (cwV 1 hts (zgV wd_676 wd_678 wp_13 wd_11 wd_679) rfl rfl rfl (by decide +kernel) ⟨Nat.le_of_ble_eq_true rfl, Nat.le_of_ble_eq_true rfl⟩) ⟨zPreR_blind, va_recv hK hP (ci := 6) (q0 := 0) rfl rfl, zp_R hK hE (zSub (X := [(h0, .inr (6, [.int (nI mS), .int (nI mQ), .ref gK, .ref gV, .ref gH, .int (nI mL), .int (zb mo), .ref gM, .int (nI mch), .int (nI mA), .int (nI mP), .ref gI, .ref gR, .ref gT, .ref gF, .ref gS, .ref gE, .ref gC, .int (nI mB), .int ml, .int mz])), (gK, .inl (cT 0, 1100, .inl mk)), (gI, .inl (cT 0, 8, .inl (fun j => nI (mi j)))), (gR, .inl (cT 2, 8, .inl (fun j => zb (mr j))))]) (pl := []) hP [0, 1] rfl)⟩ rfl rfl hl.1 rfl (lv_room (Nat.le_of_ble_eq_true rfl)) d_Md_write_18 ⟨Nat.le_of_ble_eq_true rfl, Nat.le_of_ble_eq_true rfl⟩) ?_
  refine zn_iastN hx hb hK hP hD hS 2 0 rfl rfl (i := pg) (x := znum mk pg mL) (by omega) (by omega) d_Md_write_21 (fun H locs hP hD hS => ?_)
  have hP : va_P (dC, dI) vwCl ([(h0, .inr (6, [.int (nI mS), .int (nI mQ), .ref gK, .ref gV, .ref gH, .int (nI mL), .int (zb mo), .ref gM, .int (nI mch), .int (nI mA), .int (nI mP), .ref gI, .ref gR, .ref gT, .ref gF, .ref gS, .ref gE, .ref gC, .int (nI mB), .int ml, .int mz])), (gK, .inl (cT 0, 1100, .inl mk)), (gI, .inl (cT 0, 8, .inl (fun j => nI ((va_up mi pg (znum mk pg mL)) j)))), (gR, .inl (cT 2, 8, .inl (fun j => zb (mr j))))]) H := hP
  have hD : va_D A ([(h0, .inr (6, [.int (nI mS), .int (nI mQ), .ref gK, .ref gV, .ref gH, .int (nI mL), .int (zb mo), .ref gM, .int (nI mch), .int (nI mA), .int (nI mP), .ref gI, .ref gR, .ref gT, .ref gF, .ref gS, .ref gE, .ref gC, .int (nI mB), .int ml, .int mz])), (gK, .inl (cT 0, 1100, .inl mk)), (gI, .inl (cT 0, 8, .inl (fun j => nI ((va_up mi pg (znum mk pg mL)) j)))), (gR, .inl (cT 2, 8, .inl (fun j => zb (mr j))))]) := hD
  refine lv_aload_n hx hb d_Md_write_22 rfl (lv_at hl 0 rfl) ?_
  refine va_get (D := (dC, dI)) (ci := 6) (v := .ref gR) (C := R_Md) (T := F_Md) (N := 21) hx hb hts i_Md hown hK hP 0 rfl rfl 12 (by decide) (hts _ wd_575) (fun _ h9 => h9) rfl d_Md_write_23 ?_
  refine lv_iload_n hx hb d_Md_write_26 rfl (lv_at hl 1 rfl) ?_
  refine lv_iconst (v := (nI 1)) hx hb d_Md_write_27 (by decide) ?_
  refine W.eq (g2 := F0 m 28 ls [.int (zb true), .int (nI pg), .ref gR]) rfl ?_
  refine zn_zastB hx hb hK hP hD hS 3 2 rfl rfl (i := pg) (x := true) (by omega) (by omega) d_Md_write_28 (fun H locs hP hD hS => ?_)
  have hP : va_P (dC, dI) vwCl ([(h0, .inr (6, [.int (nI mS), .int (nI mQ), .ref gK, .ref gV, .ref gH, .int (nI mL), .int (zb mo), .ref gM, .int (nI mch), .int (nI mA), .int (nI mP), .ref gI, .ref gR, .ref gT, .ref gF, .ref gS, .ref gE, .ref gC, .int (nI mB), .int ml, .int mz])), (gK, .inl (cT 0, 1100, .inl mk)), (gI, .inl (cT 0, 8, .inl (fun j => nI ((va_up mi pg (znum mk pg mL)) j)))), (gR, .inl (cT 2, 8, .inl (fun j => zb ((va_up mr pg true) j))))]) H := hP
  have hD : va_D A ([(h0, .inr (6, [.int (nI mS), .int (nI mQ), .ref gK, .ref gV, .ref gH, .int (nI mL), .int (zb mo), .ref gM, .int (nI mch), .int (nI mA), .int (nI mP), .ref gI, .ref gR, .ref gT, .ref gF, .ref gS, .ref gE, .ref gC, .int (nI mB), .int ml, .int mz])), (gK, .inl (cT 0, 1100, .inl mk)), (gI, .inl (cT 0, 8, .inl (fun j => nI ((va_up mi pg (znum mk pg mL)) j)))), (gR, .inl (cT 2, 8, .inl (fun j => zb ((va_up mr pg true) j))))]) := hD
  refine lv_aload_n hx hb d_Md_write_29 rfl (lv_at hl 0 rfl) ?_
  refine va_get (D := (dC, dI)) (ci := 6) (v := .ref gI) (C := R_Md) (T := F_Md) (N := 21) hx hb hts i_Md hown hK hP 0 rfl rfl 11 (by decide) (hts _ wd_574) (fun _ h9 => h9) rfl d_Md_write_30 ?_
  refine lv_iload_n hx hb d_Md_write_33 rfl (lv_at hl 1 rfl) ?_
  refine zn_iald hx hb hK hP 2 0 rfl rfl (i := pg) (by omega) (by omega) d_Md_write_34 ?_
  have hP9 := hP.sub (ws' := [(h0, .inr (6, [.int (nI mS), .int (nI mQ), .ref gK, .ref gV, .ref gH, .int (nI mL), .int (zb mo), .ref gM, .int (nI mch), .int (nI mA), .int (nI mP), .ref gI, .ref gR, .ref gT, .ref gF, .ref gS, .ref gE, .ref gC, .int (nI mB), .int ml, .int mz])), (gK, .inl (cT 0, 1100, .inl mk)), (gI, .inl (cT 0, 8, .inl (fun j => nI ((va_up mi pg (znum mk pg mL)) j)))), (gR, .inl (cT 2, 8, .inl (fun j => zb ((va_up mr pg true) j))))]) [0, 1, 2, 3] rfl
  have hD9 := hD.sub (ws' := [(h0, .inr (6, [.int (nI mS), .int (nI mQ), .ref gK, .ref gV, .ref gH, .int (nI mL), .int (zb mo), .ref gM, .int (nI mch), .int (nI mA), .int (nI mP), .ref gI, .ref gR, .ref gT, .ref gF, .ref gS, .ref gE, .ref gC, .int (nI mB), .int ml, .int mz])), (gK, .inl (cT 0, 1100, .inl mk)), (gI, .inl (cT 0, 8, .inl (fun j => nI ((va_up mi pg (znum mk pg mL)) j)))), (gR, .inl (cT 2, 8, .inl (fun j => zb ((va_up mr pg true) j))))]) [0, 1, 2, 3] (by decide) rfl
  exact W.iret hx hb hr (fun t ht hW => ⟨⟨(), trivial, by rw [va_up_self], by rw [ht]; exact hP9, hD9⟩, hS.F ht⟩) hS.2.2 d_Md_write_35
set_option maxHeartbeats 4000000 in
set_option maxRecDepth 100000 in
theorem c_Md_archive_no (l : Launch) (dC : Nat → ClassId) (dI : Nat → Nat → Nat) (cT : Nat → ClassId) (sz : Nat) (h0 : Nat) (mS : Nat) (mQ : Nat) (gK : Nat) (gV : Nat) (gH : Nat) (mL : Nat) (mo : Bool) (gM : Nat) (mch : Nat) (mA : Nat) (mP : Nat) (gI : Nat) (gR : Nat) (gT : Nat) (gF : Nat) (gS : Nat) (gE : Nat) (gC : Nat) (mB : Nat) (ml : Int32) (mz : Int32) (hL : mL ≤ 1000) (hm : (mA + 1) * mS < 2 ^ 31) (hno : mL < (mA + 1) * mS) : Met l y_Md_archive w_Md_archive ({ frames := 0, cells := 0, slots := 0, locals := 0 } : Room) (zPre (dC, dI) vwCl (zT cT) [.ref h0] ([(h0, .inr (6, [.int (nI mS), .int (nI mQ), .ref gK, .ref gV, .ref gH, .int (nI mL), .int (zb mo), .ref gM, .int (nI mch), .int (nI mA), .int (nI mP), .ref gI, .ref gR, .ref gT, .ref gF, .ref gS, .ref gE, .ref gC, .int (nI mB), .int ml, .int mz]))]) sz) (zQ (dC, dI) vwCl (S := Unit) (fun zu => True) (fun zu => some (.int (-1))) (fun zu => [(h0, .inr (6, [.int (nI mS), .int (nI mQ), .ref gK, .ref gV, .ref gH, .int (nI mL), .int (zb mo), .ref gM, .int (nI mch), .int (nI mA), .int (nI mP), .ref gI, .ref gR, .ref gT, .ref gF, .ref gS, .ref gE, .ref gC, .int (nI mB), .int ml, .int mz]))]) (va_A ([(h0, .inr (6, [.int (nI mS), .int (nI mQ), .ref gK, .ref gV, .ref gH, .int (nI mL), .int (zb mo), .ref gM, .int (nI mch), .int (nI mA), .int (nI mP), .ref gI, .ref gR, .ref gT, .ref gF, .ref gS, .ref gE, .ref gC, .int (nI mB), .int ml, .int mz]))]) sz)) 0 0 (va_A ([(h0, .inr (6, [.int (nI mS), .int (nI mQ), .ref gK, .ref gV, .ref gH, .int (nI mL), .int (zb mo), .ref gM, .int (nI mch), .int (nI mA), .int (nI mP), .ref gI, .ref gR, .ref gT, .ref gF, .ref gS, .ref gE, .ref gC, .int (nI mB), .int ml, .int mz]))]) sz) := by
  refine Met.ofW (cc := b_Md_archive) (maxL := 1) (ret := (some .int)) (by decide) rfl ?_
  intro p e s m args below meth c s₁ B hml hv
  obtain ⟨rfl, hsz, hP, hK, hD0, hE⟩ := hv
  have hx := B.exec
  have hb := B.bytes
  have hr := B.returns
  have hts := fun w h => atoms_spec (ws := w_Md_archive) B.pre w (List.mem_cons_of_mem _ h)
  have hown : s.vm.findClass R_Md = some m.cls := findClass_of_methodNamed B.named
  have hlocks := B.notSynchronized
  subst hsz
  have hD := hD0.self (sz := s.heap.size)
  generalize hAe : va_A ([(h0, .inr (6, [.int (nI mS), .int (nI mQ), .ref gK, .ref gV, .ref gH, .int (nI mL), .int (zb mo), .ref gM, .int (nI mch), .int (nI mA), .int (nI mP), .ref gI, .ref gR, .ref gT, .ref gF, .ref gS, .ref gE, .ref gC, .int (nI mB), .int ml, .int mz]))]) s.heap.size = A at hD ⊢
  have hA : ∀ q : Nat, s.heap.size ≤ q → A q := fun q h => by rw [← hAe]; exact Or.inr h
  have hS : va_S A s.heap s.heap [] := va_S.rf
  have hl := lv_entry ([.ref h0]) (n := 1) (Nat.le_of_ble_eq_true rfl)
  rw [lg_entry_eq]
  generalize (lg_sl ([.ref h0]) ++ List.replicate (1 - (lg_sl ([.ref h0])).length) Slot.unset).toArray = ls at hl ⊢
  have hl : lv_has ls 1 [(0, .ref h0)] := hl
  refine lv_aload_n hx hb d_Md_archive_0 rfl (lv_at hl 0 rfl) ?_
  refine va_get (D := (dC, dI)) (ci := 6) (v := .int (nI mA)) (C := R_Md) (T := F_Md) (N := 21) hx hb hts i_Md hown hK hP 0 rfl rfl 9 (by decide) (hts _ wd_572) (fun _ h9 => h9) rfl d_Md_archive_1 ?_
  refine lv_iconst (v := (nI 1)) hx hb d_Md_archive_4 (by decide) ?_
  refine zn_iadd hx hb d_Md_archive_5 ?_
  refine lv_aload_n hx hb d_Md_archive_6 rfl (lv_at hl 0 rfl) ?_
  refine va_get (D := (dC, dI)) (ci := 6) (v := .int (nI mS)) (C := R_Md) (T := F_Md) (N := 21) hx hb hts i_Md hown hK hP 0 rfl rfl 0 (by decide) (hts _ wd_563) (fun _ h9 => h9) rfl d_Md_archive_7 ?_
  refine zn_imul hx hb d_Md_archive_10 ?_
  refine lv_aload_n hx hb d_Md_archive_11 rfl (lv_at hl 0 rfl) ?_
  refine va_get (D := (dC, dI)) (ci := 6) (v := .int (nI mL)) (C := R_Md) (T := F_Md) (N := 21) hx hb hts i_Md hown hK hP 0 rfl rfl 5 (by decide) (hts _ wd_568) (fun _ h9 => h9) rfl d_Md_archive_12 ?_
  refine zn_icmp_le (tgt := 20) hx hb (a := (mA + 1) * mS) (b := mL) (by omega) (by omega) d_Md_archive_15 (by decide) (fun c_15 => absurd c_15 (by omega)) (fun c_15 => ?_)
  refine lv_iconst (v := (-1)) hx hb d_Md_archive_18 (by decide) ?_
  have hP9 := hP.sub (ws' := [(h0, .inr (6, [.int (nI mS), .int (nI mQ), .ref gK, .ref gV, .ref gH, .int (nI mL), .int (zb mo), .ref gM, .int (nI mch), .int (nI mA), .int (nI mP), .ref gI, .ref gR, .ref gT, .ref gF, .ref gS, .ref gE, .ref gC, .int (nI mB), .int ml, .int mz]))]) [0] rfl
  have hD9 := hD.sub (ws' := [(h0, .inr (6, [.int (nI mS), .int (nI mQ), .ref gK, .ref gV, .ref gH, .int (nI mL), .int (zb mo), .ref gM, .int (nI mch), .int (nI mA), .int (nI mP), .ref gI, .ref gR, .ref gT, .ref gF, .ref gS, .ref gE, .ref gC, .int (nI mB), .int ml, .int mz]))]) [0] (by decide) rfl
  exact W.iret hx hb hr (fun t ht hW => ⟨⟨(), trivial, rfl, by rw [ht]; exact hP9, hD9⟩, hS.F ht⟩) hS.2.2 d_Md_archive_19
set_option maxHeartbeats 4000000 in
set_option maxRecDepth 100000 in
theorem c_Md_archive_yes (l : Launch) (dC : Nat → ClassId) (dI : Nat → Nat → Nat) (cT : Nat → ClassId) (sz : Nat) (h0 : Nat) (mS : Nat) (mQ : Nat) (gK : Nat) (gV : Nat) (gH : Nat) (mL : Nat) (mo : Bool) (gM : Nat) (mch : Nat) (mA : Nat) (mP : Nat) (gI : Nat) (gR : Nat) (gT : Nat) (gF : Nat) (gS : Nat) (gE : Nat) (gC : Nat) (mB : Nat) (ml : Int32) (mz : Int32) (hL : mL ≤ 1000) (hm : (mA + 1) * mS < 2 ^ 31) (hyes : (mA + 1) * mS ≤ mL) (hA : mA < 2 ^ 30) : Met l y_Md_archive w_Md_archive ({ frames := 0, cells := 0, slots := 0, locals := 0 } : Room) (zPre (dC, dI) vwCl (zT cT) [.ref h0] ([(h0, .inr (6, [.int (nI mS), .int (nI mQ), .ref gK, .ref gV, .ref gH, .int (nI mL), .int (zb mo), .ref gM, .int (nI mch), .int (nI mA), .int (nI mP), .ref gI, .ref gR, .ref gT, .ref gF, .ref gS, .ref gE, .ref gC, .int (nI mB), .int ml, .int mz]))]) sz) (zQ (dC, dI) vwCl (S := Unit) (fun zu => True) (fun zu => some (.int (nI (mA + 1)))) (fun zu => [(h0, .inr (6, [.int (nI mS), .int (nI mQ), .ref gK, .ref gV, .ref gH, .int (nI mL), .int (zb mo), .ref gM, .int (nI mch), .int (nI (mA + 1)), .int (nI mP), .ref gI, .ref gR, .ref gT, .ref gF, .ref gS, .ref gE, .ref gC, .int (nI mB), .int ml, .int mz]))]) (va_A ([(h0, .inr (6, [.int (nI mS), .int (nI mQ), .ref gK, .ref gV, .ref gH, .int (nI mL), .int (zb mo), .ref gM, .int (nI mch), .int (nI mA), .int (nI mP), .ref gI, .ref gR, .ref gT, .ref gF, .ref gS, .ref gE, .ref gC, .int (nI mB), .int ml, .int mz]))]) sz)) 0 0 (va_A ([(h0, .inr (6, [.int (nI mS), .int (nI mQ), .ref gK, .ref gV, .ref gH, .int (nI mL), .int (zb mo), .ref gM, .int (nI mch), .int (nI mA), .int (nI mP), .ref gI, .ref gR, .ref gT, .ref gF, .ref gS, .ref gE, .ref gC, .int (nI mB), .int ml, .int mz]))]) sz) := by
  refine Met.ofW (cc := b_Md_archive) (maxL := 1) (ret := (some .int)) (by decide) rfl ?_
  intro p e s m args below meth c s₁ B hml hv
  obtain ⟨rfl, hsz, hP, hK, hD0, hE⟩ := hv
  have hx := B.exec
  have hb := B.bytes
  have hr := B.returns
  have hts := fun w h => atoms_spec (ws := w_Md_archive) B.pre w (List.mem_cons_of_mem _ h)
  have hown : s.vm.findClass R_Md = some m.cls := findClass_of_methodNamed B.named
  have hlocks := B.notSynchronized
  subst hsz
  have hD := hD0.self (sz := s.heap.size)
  generalize hAe : va_A ([(h0, .inr (6, [.int (nI mS), .int (nI mQ), .ref gK, .ref gV, .ref gH, .int (nI mL), .int (zb mo), .ref gM, .int (nI mch), .int (nI mA), .int (nI mP), .ref gI, .ref gR, .ref gT, .ref gF, .ref gS, .ref gE, .ref gC, .int (nI mB), .int ml, .int mz]))]) s.heap.size = A at hD ⊢
  have hA : ∀ q : Nat, s.heap.size ≤ q → A q := fun q h => by rw [← hAe]; exact Or.inr h
  have hS : va_S A s.heap s.heap [] := va_S.rf
  have hl := lv_entry ([.ref h0]) (n := 1) (Nat.le_of_ble_eq_true rfl)
  rw [lg_entry_eq]
  generalize (lg_sl ([.ref h0]) ++ List.replicate (1 - (lg_sl ([.ref h0])).length) Slot.unset).toArray = ls at hl ⊢
  have hl : lv_has ls 1 [(0, .ref h0)] := hl
  refine lv_aload_n hx hb d_Md_archive_0 rfl (lv_at hl 0 rfl) ?_
  refine va_get (D := (dC, dI)) (ci := 6) (v := .int (nI mA)) (C := R_Md) (T := F_Md) (N := 21) hx hb hts i_Md hown hK hP 0 rfl rfl 9 (by decide) (hts _ wd_572) (fun _ h9 => h9) rfl d_Md_archive_1 ?_
  refine lv_iconst (v := (nI 1)) hx hb d_Md_archive_4 (by decide) ?_
  refine zn_iadd hx hb d_Md_archive_5 ?_
  refine lv_aload_n hx hb d_Md_archive_6 rfl (lv_at hl 0 rfl) ?_
  refine va_get (D := (dC, dI)) (ci := 6) (v := .int (nI mS)) (C := R_Md) (T := F_Md) (N := 21) hx hb hts i_Md hown hK hP 0 rfl rfl 0 (by decide) (hts _ wd_563) (fun _ h9 => h9) rfl d_Md_archive_7 ?_
  refine zn_imul hx hb d_Md_archive_10 ?_
  refine lv_aload_n hx hb d_Md_archive_11 rfl (lv_at hl 0 rfl) ?_
  refine va_get (D := (dC, dI)) (ci := 6) (v := .int (nI mL)) (C := R_Md) (T := F_Md) (N := 21) hx hb hts i_Md hown hK hP 0 rfl rfl 5 (by decide) (hts _ wd_568) (fun _ h9 => h9) rfl d_Md_archive_12 ?_
  refine zn_icmp_le (tgt := 20) hx hb (a := (mA + 1) * mS) (b := mL) (by omega) (by omega) d_Md_archive_15 (by decide) (fun c_15 => ?_) (fun c_15 => absurd c_15 (by omega))
  refine lv_aload_n hx hb d_Md_archive_20 rfl (lv_at hl 0 rfl) ?_
  refine lv_dup hx hb d_Md_archive_21 rfl ?_
  refine va_get (D := (dC, dI)) (ci := 6) (v := .int (nI mA)) (C := R_Md) (T := F_Md) (N := 21) hx hb hts i_Md hown hK hP 0 rfl rfl 9 (by decide) (hts _ wd_572) (fun _ h9 => h9) rfl d_Md_archive_22 ?_
  refine lv_iconst (v := (nI 1)) hx hb d_Md_archive_25 (by decide) ?_
  refine zn_iadd hx hb d_Md_archive_26 ?_
  refine va_put (D := (dC, dI)) (ci := 6) (v := .int (nI (mA + 1))) (ty := .int) (C := R_Md) (T := F_Md) (N := 21) hx hb hts i_Md t_Md t_Md_ok n_Md hown hK hP hD hS 0 rfl rfl 9 (by decide) (hts _ wd_572) (fun _ h9 => h9) rfl (by decide +kernel) rfl rfl (Nat.le_of_ble_eq_true rfl) d_Md_archive_27 (fun H locs hP hD hS => ?_)
  have hP : va_P (dC, dI) vwCl ([(h0, .inr (6, [.int (nI mS), .int (nI mQ), .ref gK, .ref gV, .ref gH, .int (nI mL), .int (zb mo), .ref gM, .int (nI mch), .int (nI (mA + 1)), .int (nI mP), .ref gI, .ref gR, .ref gT, .ref gF, .ref gS, .ref gE, .ref gC, .int (nI mB), .int ml, .int mz]))]) H := hP
  have hD : va_D A ([(h0, .inr (6, [.int (nI mS), .int (nI mQ), .ref gK, .ref gV, .ref gH, .int (nI mL), .int (zb mo), .ref gM, .int (nI mch), .int (nI (mA + 1)), .int (nI mP), .ref gI, .ref gR, .ref gT, .ref gF, .ref gS, .ref gE, .ref gC, .int (nI mB), .int ml, .int mz]))]) := hD
  refine lv_aload_n hx hb d_Md_archive_30 rfl (lv_at hl 0 rfl) ?_
  refine va_get (D := (dC, dI)) (ci := 6) (v := .int (nI (mA + 1))) (C := R_Md) (T := F_Md) (N := 21) hx hb hts i_Md hown hK hP 0 rfl rfl 9 (by decide) (hts _ wd_572) (fun _ h9 => h9) rfl d_Md_archive_31 ?_
  have hP9 := hP.sub (ws' := [(h0, .inr (6, [.int (nI mS), .int (nI mQ), .ref gK, .ref gV, .ref gH, .int (nI mL), .int (zb mo), .ref gM, .int (nI mch), .int (nI (mA + 1)), .int (nI mP), .ref gI, .ref gR, .ref gT, .ref gF, .ref gS, .ref gE, .ref gC, .int (nI mB), .int ml, .int mz]))]) [0] rfl
  have hD9 := hD.sub (ws' := [(h0, .inr (6, [.int (nI mS), .int (nI mQ), .ref gK, .ref gV, .ref gH, .int (nI mL), .int (zb mo), .ref gM, .int (nI mch), .int (nI (mA + 1)), .int (nI mP), .ref gI, .ref gR, .ref gT, .ref gF, .ref gS, .ref gE, .ref gC, .int (nI mB), .int ml, .int mz]))]) [0] (by decide) rfl
  exact W.iret hx hb hr (fun t ht hW => ⟨⟨(), trivial, rfl, by rw [ht]; exact hP9, hD9⟩, hS.F ht⟩) hS.2.2 d_Md_archive_34
set_option maxHeartbeats 4000000 in
set_option maxRecDepth 100000 in
theorem c_Md_backup_run (l : Launch) (dC : Nat → ClassId) (dI : Nat → Nat → Nat) (cT : Nat → ClassId) (sz : Nat) (h0 : Nat) (mS : Nat) (mQ : Nat) (gK : Nat) (gV : Nat) (gH : Nat) (mL : Nat) (mo : Bool) (gM : Nat) (mch : Nat) (mA : Nat) (mP : Nat) (gI : Nat) (gR : Nat) (gT : Nat) (gF : Nat) (gS : Nat) (gE : Nat) (gC : Nat) (mB : Nat) (ml : Int32) (mz : Int32) (lv : Nat) (b : Bool) (hlv : lv ≤ 8) : Met l y_Md_backup w_Md_backup ({ frames := 0, cells := 0, slots := 0, locals := 0 } : Room) (zPre (dC, dI) vwCl (zT cT) [.ref h0, .int (zb b)] ([(h0, .inr (6, [.int (nI mS), .int (nI mQ), .ref gK, .ref gV, .ref gH, .int (nI mL), .int (zb mo), .ref gM, .int (nI mch), .int (nI mA), .int (nI mP), .ref gI, .ref gR, .ref gT, .ref gF, .ref gS, .ref gE, .ref gC, .int (nI mB), .int (nI lv), .int mz]))]) sz) (zQ (dC, dI) vwCl (S := Unit) (fun zu => True) (fun zu => some (.int (-1))) (fun zu => [(h0, .inr (6, [.int (nI mS), .int (nI mQ), .ref gK, .ref gV, .ref gH, .int (nI mL), .int (zb mo), .ref gM, .int (nI mch), .int (nI mA), .int (nI mP), .ref gI, .ref gR, .ref gT, .ref gF, .ref gS, .ref gE, .ref gC, .int (nI mB), .int (nI lv), .int mz]))]) (va_A ([(h0, .inr (6, [.int (nI mS), .int (nI mQ), .ref gK, .ref gV, .ref gH, .int (nI mL), .int (zb mo), .ref gM, .int (nI mch), .int (nI mA), .int (nI mP), .ref gI, .ref gR, .ref gT, .ref gF, .ref gS, .ref gE, .ref gC, .int (nI mB), .int (nI lv), .int mz]))]) sz)) 0 0 (va_A ([(h0, .inr (6, [.int (nI mS), .int (nI mQ), .ref gK, .ref gV, .ref gH, .int (nI mL), .int (zb mo), .ref gM, .int (nI mch), .int (nI mA), .int (nI mP), .ref gI, .ref gR, .ref gT, .ref gF, .ref gS, .ref gE, .ref gC, .int (nI mB), .int (nI lv), .int mz]))]) sz) := by
  refine Met.ofW (cc := b_Md_backup) (maxL := 4) (ret := (some .int)) (by decide) rfl ?_
  intro p e s m args below meth c s₁ B hml hv
  obtain ⟨rfl, hsz, hP, hK, hD0, hE⟩ := hv
  have hx := B.exec
  have hb := B.bytes
  have hr := B.returns
  have hts := fun w h => atoms_spec (ws := w_Md_backup) B.pre w (List.mem_cons_of_mem _ h)
  have hown : s.vm.findClass R_Md = some m.cls := findClass_of_methodNamed B.named
  have hlocks := B.notSynchronized
  subst hsz
  have hD := hD0.self (sz := s.heap.size)
  generalize hAe : va_A ([(h0, .inr (6, [.int (nI mS), .int (nI mQ), .ref gK, .ref gV, .ref gH, .int (nI mL), .int (zb mo), .ref gM, .int (nI mch), .int (nI mA), .int (nI mP), .ref gI, .ref gR, .ref gT, .ref gF, .ref gS, .ref gE, .ref gC, .int (nI mB), .int (nI lv), .int mz]))]) s.heap.size = A at hD ⊢
  have hA : ∀ q : Nat, s.heap.size ≤ q → A q := fun q h => by rw [← hAe]; exact Or.inr h
  have hS : va_S A s.heap s.heap [] := va_S.rf
  have hl := lv_entry ([.ref h0, .int (zb b)]) (n := 4) (Nat.le_of_ble_eq_true rfl)
  rw [lg_entry_eq]
  generalize (lg_sl ([.ref h0, .int (zb b)]) ++ List.replicate (4 - (lg_sl ([.ref h0, .int (zb b)])).length) Slot.unset).toArray = ls at hl ⊢
  have hl : lv_has ls 4 [(0, .ref h0), (1, .int (zb b))] := hl
  refine lv_aload_n hx hb d_Md_backup_0 rfl (lv_at hl 0 rfl) ?_
  refine va_get (D := (dC, dI)) (ci := 6) (v := .int (nI lv)) (C := R_Md) (T := F_Md) (N := 21) hx hb hts i_Md hown hK hP 0 rfl rfl 19 (by decide) (hts _ wd_582) (fun _ h9 => h9) rfl d_Md_backup_1 ?_
  refine zn_if_ge (tgt := 18) hx hb (a := lv) (by omega) d_Md_backup_4 (by decide) (fun _ => ?_) (fun c => c.elim)
  refine lv_iconst (v := (-1)) hx hb d_Md_backup_18 (by decide) ?_
  have hP9 := hP.sub (ws' := [(h0, .inr (6, [.int (nI mS), .int (nI mQ), .ref gK, .ref gV, .ref gH, .int (nI mL), .int (zb mo), .ref gM, .int (nI mch), .int (nI mA), .int (nI mP), .ref gI, .ref gR, .ref gT, .ref gF, .ref gS, .ref gE, .ref gC, .int (nI mB), .int (nI lv), .int mz]))]) [0] rfl
  have hD9 := hD.sub (ws' := [(h0, .inr (6, [.int (nI mS), .int (nI mQ), .ref gK, .ref gV, .ref gH, .int (nI mL), .int (zb mo), .ref gM, .int (nI mch), .int (nI mA), .int (nI mP), .ref gI, .ref gR, .ref gT, .ref gF, .ref gS, .ref gE, .ref gC, .int (nI mB), .int (nI lv), .int mz]))]) [0] (by decide) rfl
  exact W.iret hx hb hr (fun t ht hW => ⟨⟨(), trivial, rfl, by rw [ht]; exact hP9, hD9⟩, hS.F ht⟩) hS.2.2 d_Md_backup_19
set_option maxHeartbeats 4000000 in
set_option maxRecDepth 100000 in
theorem c_Md_backup_ref (l : Launch) (dC : Nat → ClassId) (dI : Nat → Nat → Nat) (cT : Nat → ClassId) (sz : Nat) (h0 : Nat) (mS : Nat) (mQ : Nat) (gK : Nat) (gV : Nat) (gH : Nat) (mL : Nat) (mo : Bool) (gM : Nat) (mch : Nat) (mA : Nat) (mP : Nat) (gI : Nat) (gR : Nat) (gT : Nat) (gF : Nat) (gS : Nat) (gE : Nat) (gC : Nat) (mB : Nat) (mz : Int32) (b : Bool) (mt : Nat → Bool) (mf : Nat → Bool) (hB : mB ≤ 256) (hbf : b = false) (hz : zful mt mf mB = 0) : Met l y_Md_backup w_Md_backup ({ frames := 1, cells := 0, slots := 0, locals := 22 } : Room) (zPre (dC, dI) vwCl (zT cT) [.ref h0, .int (zb b)] ([(h0, .inr (6, [.int (nI mS), .int (nI mQ), .ref gK, .ref gV, .ref gH, .int (nI mL), .int (zb mo), .ref gM, .int (nI mch), .int (nI mA), .int (nI mP), .ref gI, .ref gR, .ref gT, .ref gF, .ref gS, .ref gE, .ref gC, .int (nI mB), .int (-2), .int mz])), (gT, .inl (cT 2, 260, .inl (fun j => zb (mt j)))), (gF, .inl (cT 2, 260, .inl (fun j => zb (mf j))))]) sz) (zQ (dC, dI) vwCl (S := Unit) (fun zu => True) (fun zu => some (.int (-1))) (fun zu => [(h0, .inr (6, [.int (nI mS), .int (nI mQ), .ref gK, .ref gV, .ref gH, .int (nI mL), .int (zb mo), .ref gM, .int (nI mch), .int (nI mA), .int (nI mP), .ref gI, .ref gR, .ref gT, .ref gF, .ref gS, .ref gE, .ref gC, .int (nI mB), .int (-2), .int mz])), (gT, .inl (cT 2, 260, .inl (fun j => zb (mt j)))), (gF, .inl (cT 2, 260, .inl (fun j => zb (mf j))))]) (va_A ([(h0, .inr (6, [.int (nI mS), .int (nI mQ), .ref gK, .ref gV, .ref gH, .int (nI mL), .int (zb mo), .ref gM, .int (nI mch), .int (nI mA), .int (nI mP), .ref gI, .ref gR, .ref gT, .ref gF, .ref gS, .ref gE, .ref gC, .int (nI mB), .int (-2), .int mz])), (gT, .inl (cT 2, 260, .inl (fun j => zb (mt j)))), (gF, .inl (cT 2, 260, .inl (fun j => zb (mf j))))]) sz)) 0 0 (va_A ([(h0, .inr (6, [.int (nI mS), .int (nI mQ), .ref gK, .ref gV, .ref gH, .int (nI mL), .int (zb mo), .ref gM, .int (nI mch), .int (nI mA), .int (nI mP), .ref gI, .ref gR, .ref gT, .ref gF, .ref gS, .ref gE, .ref gC, .int (nI mB), .int (-2), .int mz])), (gT, .inl (cT 2, 260, .inl (fun j => zb (mt j)))), (gF, .inl (cT 2, 260, .inl (fun j => zb (mf j))))]) sz) := by
  refine Met.ofW (cc := b_Md_backup) (maxL := 4) (ret := (some .int)) (by decide) rfl ?_
  intro p e s m args below meth c s₁ B hml hv
  obtain ⟨rfl, hsz, hP, hK, hD0, hE⟩ := hv
  have hx := B.exec
  have hb := B.bytes
  have hr := B.returns
  have hts := fun w h => atoms_spec (ws := w_Md_backup) B.pre w (List.mem_cons_of_mem _ h)
  have hown : s.vm.findClass R_Md = some m.cls := findClass_of_methodNamed B.named
  have hlocks := B.notSynchronized
  subst hsz
  have hD := hD0.self (sz := s.heap.size)
  generalize hAe : va_A ([(h0, .inr (6, [.int (nI mS), .int (nI mQ), .ref gK, .ref gV, .ref gH, .int (nI mL), .int (zb mo), .ref gM, .int (nI mch), .int (nI mA), .int (nI mP), .ref gI, .ref gR, .ref gT, .ref gF, .ref gS, .ref gE, .ref gC, .int (nI mB), .int (-2), .int mz])), (gT, .inl (cT 2, 260, .inl (fun j => zb (mt j)))), (gF, .inl (cT 2, 260, .inl (fun j => zb (mf j))))]) s.heap.size = A at hD ⊢
  have hA : ∀ q : Nat, s.heap.size ≤ q → A q := fun q h => by rw [← hAe]; exact Or.inr h
  have hS : va_S A s.heap s.heap [] := va_S.rf
  have hl := lv_entry ([.ref h0, .int (zb b)]) (n := 4) (Nat.le_of_ble_eq_true rfl)
  rw [lg_entry_eq]
  generalize (lg_sl ([.ref h0, .int (zb b)]) ++ List.replicate (4 - (lg_sl ([.ref h0, .int (zb b)])).length) Slot.unset).toArray = ls at hl ⊢
  have hl : lv_has ls 4 [(0, .ref h0), (1, .int (zb b))] := hl
  refine lv_aload_n hx hb d_Md_backup_0 rfl (lv_at hl 0 rfl) ?_
  refine va_get (D := (dC, dI)) (ci := 6) (v := .int (-2)) (C := R_Md) (T := F_Md) (N := 21) hx hb hts i_Md hown hK hP 0 rfl rfl 19 (by decide) (hts _ wd_582) (fun _ h9 => h9) rfl d_Md_backup_1 ?_
  refine lv_if_ge (tgt := 18) hx hb d_Md_backup_4 (by decide) (fun c_4 => absurd c_4 (by decide)) (fun c_4 => ?_)
  refine lv_iload_n hx hb d_Md_backup_7 rfl (lv_at hl 1 rfl) ?_
  refine zb_if_ne (tgt := 20) hx hb d_Md_backup_8 (by decide) (fun c_8 => absurd c_8 (by rw [hbf]; decide)) (fun c_8 => ?_)
  refine lv_aload_n hx hb d_Md_backup_11 rfl (lv_at hl 0 rfl) ?_
  refine zw_R (r := .int (nI (zful mt mf mB))) (va_runV (As := []) (rest := []) ⟨hx, hb, hml, hown, hts⟩ (c_Md_fulls l dC dI cT h0 mS mQ gK gV gH mL mo gM mch mA mP gI gR gT gF gS gE gC mB (-2) mz mt mf (by first | omega | assumption)) (cwV 0 hts (zgV wd_688 wd_690 wp_14 wd_11 wd_691) rfl rfl rfl (by decide +kernel) ⟨Nat.le_of_ble_eq_true rfl, Nat.le_of_ble_eq_true rfl⟩) ⟨zPreR_blind, va_recv hK hP (ci := 6) (q0 := 0) rfl rfl, zp_R hK hE (zSub (X := [(h0, .inr (6, [.int (nI mS), .int (nI mQ), .ref gK, .ref gV, .ref gH, .int (nI mL), .int (zb mo), .ref gM, .int (nI mch), .int (nI mA), .int (nI mP), .ref gI, .ref gR, .ref gT, .ref gF, .ref gS, .ref gE, .ref gC, .int (nI mB), .int (-2), .int mz])), (gT, .inl (cT 2, 260, .inl (fun j => zb (mt j)))), (gF, .inl (cT 2, 260, .inl (fun j => zb (mf j))))]) (pl := []) hP [0, 1, 2] rfl)⟩ rfl rfl hl.1 rfl (lv_room (Nat.le_of_ble_eq_true rfl)) d_Md_backup_12 ⟨Nat.le_of_ble_eq_true rfl, Nat.le_of_ble_eq_true rfl⟩) ?_
  refine zn_if_ne (tgt := 20) hx hb (a := zful mt mf mB) (by omega) d_Md_backup_15 (by decide) (fun c_15 => absurd c_15 (by omega)) (fun c_15 => ?_)
  refine lv_iconst (v := (-1)) hx hb d_Md_backup_18 (by decide) ?_
  have hP9 := hP.sub (ws' := [(h0, .inr (6, [.int (nI mS), .int (nI mQ), .ref gK, .ref gV, .ref gH, .int (nI mL), .int (zb mo), .ref gM, .int (nI mch), .int (nI mA), .int (nI mP), .ref gI, .ref gR, .ref gT, .ref gF, .ref gS, .ref gE, .ref gC, .int (nI mB), .int (-2), .int mz])), (gT, .inl (cT 2, 260, .inl (fun j => zb (mt j)))), (gF, .inl (cT 2, 260, .inl (fun j => zb (mf j))))]) [0, 1, 2] rfl
  have hD9 := hD.sub (ws' := [(h0, .inr (6, [.int (nI mS), .int (nI mQ), .ref gK, .ref gV, .ref gH, .int (nI mL), .int (zb mo), .ref gM, .int (nI mch), .int (nI mA), .int (nI mP), .ref gI, .ref gR, .ref gT, .ref gF, .ref gS, .ref gE, .ref gC, .int (nI mB), .int (-2), .int mz])), (gT, .inl (cT 2, 260, .inl (fun j => zb (mt j)))), (gF, .inl (cT 2, 260, .inl (fun j => zb (mf j))))]) [0, 1, 2] (by decide) rfl
  exact W.iret hx hb hr (fun t ht hW => ⟨⟨(), trivial, rfl, by rw [ht]; exact hP9, hD9⟩, hS.F ht⟩) hS.2.2 d_Md_backup_19
set_option maxHeartbeats 4000000 in
set_option maxRecDepth 100000 in
theorem c_Md_backup_ok (l : Launch) (dC : Nat → ClassId) (dI : Nat → Nat → Nat) (cT : Nat → ClassId) (sz : Nat) (h0 : Nat) (mS : Nat) (mQ : Nat) (gK : Nat) (gV : Nat) (gH : Nat) (mL : Nat) (mo : Bool) (gM : Nat) (mch : Nat) (mA : Nat) (mP : Nat) (gI : Nat) (gR : Nat) (gT : Nat) (gF : Nat) (gS : Nat) (gE : Nat) (gC : Nat) (mB : Nat) (mz : Int32) (b : Bool) (mt : Nat → Bool) (mf : Nat → Bool) (mst : Nat → Nat) (cp : Nat → Int32) (hB : mB ≤ 255) (hL : mL ≤ 1000) (hz : b = true ∨ ¬ zful mt mf mB = 0) : Met l y_Md_backup w_Md_backup ({ frames := 1, cells := 0, slots := 0, locals := 22 } : Room) (zPre (dC, dI) vwCl (zT cT) [.ref h0, .int (zb b)] ([(h0, .inr (6, [.int (nI mS), .int (nI mQ), .ref gK, .ref gV, .ref gH, .int (nI mL), .int (zb mo), .ref gM, .int (nI mch), .int (nI mA), .int (nI mP), .ref gI, .ref gR, .ref gT, .ref gF, .ref gS, .ref gE, .ref gC, .int (nI mB), .int (-2), .int mz])), (gT, .inl (cT 2, 260, .inl (fun j => zb (mt j)))), (gF, .inl (cT 2, 260, .inl (fun j => zb (mf j)))), (gS, .inl (cT 0, 260, .inl (fun j => nI (mst j)))), (gC, .inl (cT 0, 2080, .inl cp))]) sz) (zQ (dC, dI) vwCl (S := Unit) (fun zu => True) (fun zu => some (.int (nI 0))) (fun zu => [(h0, .inr (6, [.int (nI mS), .int (nI mQ), .ref gK, .ref gV, .ref gH, .int (nI mL), .int (zb mo), .ref gM, .int (nI mch), .int (nI mA), .int (nI mP), .ref gI, .ref gR, .ref gT, .ref gF, .ref gS, .ref gE, .ref gC, .int (nI mB), .int (nI 8), .int mz])), (gT, .inl (cT 2, 260, .inl (fun j => zb (mt j)))), (gF, .inl (cT 2, 260, .inl (fun j => zb ((va_up mf (mB + 1) b) j)))), (gS, .inl (cT 0, 260, .inl (fun j => nI ((va_up mst (mB + 1) mL) j)))), (gC, .inl (cT 0, 2080, .inl (zclr cp (mB + 1) 8)))]) (va_A ([(h0, .inr (6, [.int (nI mS), .int (nI mQ), .ref gK, .ref gV, .ref gH, .int (nI mL), .int (zb mo), .ref gM, .int (nI mch), .int (nI mA), .int (nI mP), .ref gI, .ref gR, .ref gT, .ref gF, .ref gS, .ref gE, .ref gC, .int (nI mB), .int (-2), .int mz])), (gT, .inl (cT 2, 260, .inl (fun j => zb (mt j)))), (gF, .inl (cT 2, 260, .inl (fun j => zb (mf j)))), (gS, .inl (cT 0, 260, .inl (fun j => nI (mst j)))), (gC, .inl (cT 0, 2080, .inl cp))]) sz)) 0 0 (va_A ([(h0, .inr (6, [.int (nI mS), .int (nI mQ), .ref gK, .ref gV, .ref gH, .int (nI mL), .int (zb mo), .ref gM, .int (nI mch), .int (nI mA), .int (nI mP), .ref gI, .ref gR, .ref gT, .ref gF, .ref gS, .ref gE, .ref gC, .int (nI mB), .int (-2), .int mz])), (gT, .inl (cT 2, 260, .inl (fun j => zb (mt j)))), (gF, .inl (cT 2, 260, .inl (fun j => zb (mf j)))), (gS, .inl (cT 0, 260, .inl (fun j => nI (mst j)))), (gC, .inl (cT 0, 2080, .inl cp))]) sz) := by
  refine Met.ofW (cc := b_Md_backup) (maxL := 4) (ret := (some .int)) (by decide) rfl ?_
  intro p e s m args below meth c s₁ B hml hv
  obtain ⟨rfl, hsz, hP, hK, hD0, hE⟩ := hv
  have hx := B.exec
  have hb := B.bytes
  have hr := B.returns
  have hts := fun w h => atoms_spec (ws := w_Md_backup) B.pre w (List.mem_cons_of_mem _ h)
  have hown : s.vm.findClass R_Md = some m.cls := findClass_of_methodNamed B.named
  have hlocks := B.notSynchronized
  subst hsz
  have hD := hD0.self (sz := s.heap.size)
  generalize hAe : va_A ([(h0, .inr (6, [.int (nI mS), .int (nI mQ), .ref gK, .ref gV, .ref gH, .int (nI mL), .int (zb mo), .ref gM, .int (nI mch), .int (nI mA), .int (nI mP), .ref gI, .ref gR, .ref gT, .ref gF, .ref gS, .ref gE, .ref gC, .int (nI mB), .int (-2), .int mz])), (gT, .inl (cT 2, 260, .inl (fun j => zb (mt j)))), (gF, .inl (cT 2, 260, .inl (fun j => zb (mf j)))), (gS, .inl (cT 0, 260, .inl (fun j => nI (mst j)))), (gC, .inl (cT 0, 2080, .inl cp))]) s.heap.size = A at hD ⊢
  have hA : ∀ q : Nat, s.heap.size ≤ q → A q := fun q h => by rw [← hAe]; exact Or.inr h
  have hS : va_S A s.heap s.heap [] := va_S.rf
  have hl := lv_entry ([.ref h0, .int (zb b)]) (n := 4) (Nat.le_of_ble_eq_true rfl)
  rw [lg_entry_eq]
  generalize (lg_sl ([.ref h0, .int (zb b)]) ++ List.replicate (4 - (lg_sl ([.ref h0, .int (zb b)])).length) Slot.unset).toArray = ls at hl ⊢
  have hl : lv_has ls 4 [(0, .ref h0), (1, .int (zb b))] := hl
  have hzf := zful_le mt mf mB
  refine lv_aload_n hx hb d_Md_backup_0 rfl (lv_at hl 0 rfl) ?_
  refine va_get (D := (dC, dI)) (ci := 6) (v := .int (-2)) (C := R_Md) (T := F_Md) (N := 21) hx hb hts i_Md hown hK hP 0 rfl rfl 19 (by decide) (hts _ wd_582) (fun _ h9 => h9) rfl d_Md_backup_1 ?_
  refine lv_if_ge (tgt := 18) hx hb d_Md_backup_4 (by decide) (fun c_4 => absurd c_4 (by decide)) (fun c_4 => ?_)
  refine lv_iload_n hx hb d_Md_backup_7 rfl (lv_at hl 1 rfl) ?_
  refine zb_if_ne (tgt := 20) hx hb d_Md_backup_8 (by decide) (fun c_8 => ?_) (fun c_8 => ?_)
  · refine lv_aload_n hx hb d_Md_backup_20 rfl (lv_at hl 0 rfl) ?_
    refine va_get (D := (dC, dI)) (ci := 6) (v := .int (nI mB)) (C := R_Md) (T := F_Md) (N := 21) hx hb hts i_Md hown hK hP 0 rfl rfl 18 (by decide) (hts _ wd_581) (fun _ h9 => h9) rfl d_Md_backup_21 ?_
    refine lv_iconst (v := (nI 1)) hx hb d_Md_backup_24 (by decide) ?_
    refine zn_iadd hx hb d_Md_backup_25 ?_
    refine lv_istore_n (lv' := [(2, .int (nI (mB + 1))), (0, .ref h0), (1, .int (zb b))]) hx hb d_Md_backup_26 rfl hl (by decide) rfl (fun ls hl => ?_)
    refine lv_aload_n hx hb d_Md_backup_27 rfl (lv_at hl 1 rfl) ?_
    refine va_get (D := (dC, dI)) (ci := 6) (v := .ref gF) (C := R_Md) (T := F_Md) (N := 21) hx hb hts i_Md hown hK hP 0 rfl rfl 14 (by decide) (hts _ wd_577) (fun _ h9 => h9) rfl d_Md_backup_28 ?_
    refine lv_iload_n hx hb d_Md_backup_31 rfl (lv_at hl 0 rfl) ?_
    refine lv_iload_n hx hb d_Md_backup_32 rfl (lv_at hl 2 rfl) ?_
    refine zn_zastB hx hb hK hP hD hS 2 2 rfl rfl (i := mB + 1) (x := b) (by omega) (by omega) d_Md_backup_33 (fun H locs hP hD hS => ?_)
    have hP : va_P (dC, dI) vwCl ([(h0, .inr (6, [.int (nI mS), .int (nI mQ), .ref gK, .ref gV, .ref gH, .int (nI mL), .int (zb mo), .ref gM, .int (nI mch), .int (nI mA), .int (nI mP), .ref gI, .ref gR, .ref gT, .ref gF, .ref gS, .ref gE, .ref gC, .int (nI mB), .int (-2), .int mz])), (gT, .inl (cT 2, 260, .inl (fun j => zb (mt j)))), (gF, .inl (cT 2, 260, .inl (fun j => zb ((va_up mf (mB + 1) b) j)))), (gS, .inl (cT 0, 260, .inl (fun j => nI (mst j)))), (gC, .inl (cT 0, 2080, .inl cp))]) H := hP
    have hD : va_D A ([(h0, .inr (6, [.int (nI mS), .int (nI mQ), .ref gK, .ref gV, .ref gH, .int (nI mL), .int (zb mo), .ref gM, .int (nI mch), .int (nI mA), .int (nI mP), .ref gI, .ref gR, .ref gT, .ref gF, .ref gS, .ref gE, .ref gC, .int (nI mB), .int (-2), .int mz])), (gT, .inl (cT 2, 260, .inl (fun j => zb (mt j)))), (gF, .inl (cT 2, 260, .inl (fun j => zb ((va_up mf (mB + 1) b) j)))), (gS, .inl (cT 0, 260, .inl (fun j => nI (mst j)))), (gC, .inl (cT 0, 2080, .inl cp))]) := hD
    refine lv_aload_n hx hb d_Md_backup_34 rfl (lv_at hl 1 rfl) ?_
    refine va_get (D := (dC, dI)) (ci := 6) (v := .ref gS) (C := R_Md) (T := F_Md) (N := 21) hx hb hts i_Md hown hK hP 0 rfl rfl 15 (by decide) (hts _ wd_578) (fun _ h9 => h9) rfl d_Md_backup_35 ?_
    refine lv_iload_n hx hb d_Md_backup_38 rfl (lv_at hl 0 rfl) ?_
    refine lv_aload_n hx hb d_Md_backup_39 rfl (lv_at hl 1 rfl) ?_
    refine va_get (D := (dC, dI)) (ci := 6) (v := .int (nI mL)) (C := R_Md) (T := F_Md) (N := 21) hx hb hts i_Md hown hK hP 0 rfl rfl 5 (by decide) (hts _ wd_568) (fun _ h9 => h9) rfl d_Md_backup_40 ?_
    refine zn_iastN hx hb hK hP hD hS 3 0 rfl rfl (i := mB + 1) (x := mL) (by omega) (by omega) d_Md_backup_43 (fun H locs hP hD hS => ?_)
    have hP : va_P (dC, dI) vwCl ([(h0, .inr (6, [.int (nI mS), .int (nI mQ), .ref gK, .ref gV, .ref gH, .int (nI mL), .int (zb mo), .ref gM, .int (nI mch), .int (nI mA), .int (nI mP), .ref gI, .ref gR, .ref gT, .ref gF, .ref gS, .ref gE, .ref gC, .int (nI mB), .int (-2), .int mz])), (gT, .inl (cT 2, 260, .inl (fun j => zb (mt j)))), (gF, .inl (cT 2, 260, .inl (fun j => zb ((va_up mf (mB + 1) b) j)))), (gS, .inl (cT 0, 260, .inl (fun j => nI ((va_up mst (mB + 1) mL) j)))), (gC, .inl (cT 0, 2080, .inl cp))]) H := hP
    have hD : va_D A ([(h0, .inr (6, [.int (nI mS), .int (nI mQ), .ref gK, .ref gV, .ref gH, .int (nI mL), .int (zb mo), .ref gM, .int (nI mch), .int (nI mA), .int (nI mP), .ref gI, .ref gR, .ref gT, .ref gF, .ref gS, .ref gE, .ref gC, .int (nI mB), .int (-2), .int mz])), (gT, .inl (cT 2, 260, .inl (fun j => zb (mt j)))), (gF, .inl (cT 2, 260, .inl (fun j => zb ((va_up mf (mB + 1) b) j)))), (gS, .inl (cT 0, 260, .inl (fun j => nI ((va_up mst (mB + 1) mL) j)))), (gC, .inl (cT 0, 2080, .inl cp))]) := hD
    refine lv_iconst (v := (nI 0)) hx hb d_Md_backup_44 (by decide) ?_
    refine lv_istore_n (lv' := [(3, .int (nI 0)), (2, .int (nI (mB + 1))), (0, .ref h0), (1, .int (zb b))]) hx hb d_Md_backup_45 rfl hl (by decide) rfl (fun ls hl => ?_)
    have loop_46 : ∀ (fu : Nat) (i : Nat), 8 - i < fu → (i ≤ 8) → ∀ (H : Heap) (locs : List Loc), va_P (dC, dI) vwCl ([(h0, .inr (6, [.int (nI mS), .int (nI mQ), .ref gK, .ref gV, .ref gH, .int (nI mL), .int (zb mo), .ref gM, .int (nI mch), .int (nI mA), .int (nI mP), .ref gI, .ref gR, .ref gT, .ref gF, .ref gS, .ref gE, .ref gC, .int (nI mB), .int (-2), .int mz])), (gT, .inl (cT 2, 260, .inl (fun j => zb (mt j)))), (gF, .inl (cT 2, 260, .inl (fun j => zb ((va_up mf (mB + 1) b) j)))), (gS, .inl (cT 0, 260, .inl (fun j => nI ((va_up mst (mB + 1) mL) j)))), (gC, .inl (cT 0, 2080, .inl (zclr cp (mB + 1) i)))]) H → va_D A ([(h0, .inr (6, [.int (nI mS), .int (nI mQ), .ref gK, .ref gV, .ref gH, .int (nI mL), .int (zb mo), .ref gM, .int (nI mch), .int (nI mA), .int (nI mP), .ref gI, .ref gR, .ref gT, .ref gF, .ref gS, .ref gE, .ref gC, .int (nI mB), .int (-2), .int mz])), (gT, .inl (cT 2, 260, .inl (fun j => zb (mt j)))), (gF, .inl (cT 2, 260, .inl (fun j => zb ((va_up mf (mB + 1) b) j)))), (gS, .inl (cT 0, 260, .inl (fun j => nI ((va_up mst (mB + 1) mL) j)))), (gC, .inl (cT 0, 2080, .inl (zclr cp (mB + 1) i)))]) → va_S A s.heap H locs → ∀ (ls : Array Slot), lv_has ls 4 [(0, .ref h0), (1, .int (zb b)), (2, .int (nI (mB + 1))), (3, .int (nI i))] → W p l e (headSpec w_Md_backup ({ frames := 1, cells := 0, slots := 0, locals := 22 } : Room)).room s m ([.ref h0, .int (zb b)] : List Value).toArray below meth c H locs 0 0 (MQ below (zQ (dC, dI) vwCl (S := Unit) (fun zu => True) (fun zu => some (.int (nI 0))) (fun zu => [(h0, .inr (6, [.int (nI mS), .int (nI mQ), .ref gK, .ref gV, .ref gH, .int (nI mL), .int (zb mo), .ref gM, .int (nI mch), .int (nI mA), .int (nI mP), .ref gI, .ref gR, .ref gT, .ref gF, .ref gS, .ref gE, .ref gC, .int (nI mB), .int (nI 8), .int mz])), (gT, .inl (cT 2, 260, .inl (fun j => zb (mt j)))), (gF, .inl (cT 2, 260, .inl (fun j => zb ((va_up mf (mB + 1) b) j)))), (gS, .inl (cT 0, 260, .inl (fun j => nI ((va_up mst (mB + 1) mL) j)))), (gC, .inl (cT 0, 2080, .inl (zclr cp (mB + 1) 8)))]) A) ([.ref h0, .int (zb b)] : List Value).toArray s 0 0 A) (F0 m 46 ls []) := by
      intro fu
      induction fu with
      | zero => intro _ hm; exact absurd hm (Nat.not_lt_zero _)
      | succ fu ih =>
        intro i hm h1 H locs hP hD hS ls hl
        refine lv_iload_n hx hb d_Md_backup_46 rfl (lv_at hl 3 rfl) ?_
        refine lv_bipush (v := (nI 8)) hx hb d_Md_backup_47 (by decide) ?_
        refine zn_icmp_ge (tgt := 70) hx hb (a := i) (b := 8) (by omega) (by omega) d_Md_backup_49 (by decide) (fun c_49 => ?_) (fun c_49 => ?_)
        · refine lv_aload_n hx hb d_Md_backup_70 rfl (lv_at hl 0 rfl) ?_
          refine lv_bipush (v := (nI 8)) hx hb d_Md_backup_71 (by decide) ?_
          refine va_put (D := (dC, dI)) (ci := 6) (v := .int (nI 8)) (ty := .int) (C := R_Md) (T := F_Md) (N := 21) hx hb hts i_Md t_Md t_Md_ok n_Md hown hK hP hD hS 0 rfl rfl 19 (by decide) (hts _ wd_582) (fun _ h9 => h9) rfl (by decide +kernel) rfl rfl (Nat.le_of_ble_eq_true rfl) d_Md_backup_73 (fun H locs hP hD hS => ?_)
          have hP : va_P (dC, dI) vwCl ([(h0, .inr (6, [.int (nI mS), .int (nI mQ), .ref gK, .ref gV, .ref gH, .int (nI mL), .int (zb mo), .ref gM, .int (nI mch), .int (nI mA), .int (nI mP), .ref gI, .ref gR, .ref gT, .ref gF, .ref gS, .ref gE, .ref gC, .int (nI mB), .int (nI 8), .int mz])), (gT, .inl (cT 2, 260, .inl (fun j => zb (mt j)))), (gF, .inl (cT 2, 260, .inl (fun j => zb ((va_up mf (mB + 1) b) j)))), (gS, .inl (cT 0, 260, .inl (fun j => nI ((va_up mst (mB + 1) mL) j)))), (gC, .inl (cT 0, 2080, .inl (zclr cp (mB + 1) i)))]) H := hP
          have hD : va_D A ([(h0, .inr (6, [.int (nI mS), .int (nI mQ), .ref gK, .ref gV, .ref gH, .int (nI mL), .int (zb mo), .ref gM, .int (nI mch), .int (nI mA), .int (nI mP), .ref gI, .ref gR, .ref gT, .ref gF, .ref gS, .ref gE, .ref gC, .int (nI mB), .int (nI 8), .int mz])), (gT, .inl (cT 2, 260, .inl (fun j => zb (mt j)))), (gF, .inl (cT 2, 260, .inl (fun j => zb ((va_up mf (mB + 1) b) j)))), (gS, .inl (cT 0, 260, .inl (fun j => nI ((va_up mst (mB + 1) mL) j)))), (gC, .inl (cT 0, 2080, .inl (zclr cp (mB + 1) i)))]) := hD
          refine lv_iconst (v := (nI 0)) hx hb d_Md_backup_76 (by decide) ?_
          have hP9 := hP.sub (ws' := [(h0, .inr (6, [.int (nI mS), .int (nI mQ), .ref gK, .ref gV, .ref gH, .int (nI mL), .int (zb mo), .ref gM, .int (nI mch), .int (nI mA), .int (nI mP), .ref gI, .ref gR, .ref gT, .ref gF, .ref gS, .ref gE, .ref gC, .int (nI mB), .int (nI 8), .int mz])), (gT, .inl (cT 2, 260, .inl (fun j => zb (mt j)))), (gF, .inl (cT 2, 260, .inl (fun j => zb ((va_up mf (mB + 1) b) j)))), (gS, .inl (cT 0, 260, .inl (fun j => nI ((va_up mst (mB + 1) mL) j)))), (gC, .inl (cT 0, 2080, .inl (zclr cp (mB + 1) i)))]) [0, 1, 2, 3, 4] rfl
          have hD9 := hD.sub (ws' := [(h0, .inr (6, [.int (nI mS), .int (nI mQ), .ref gK, .ref gV, .ref gH, .int (nI mL), .int (zb mo), .ref gM, .int (nI mch), .int (nI mA), .int (nI mP), .ref gI, .ref gR, .ref gT, .ref gF, .ref gS, .ref gE, .ref gC, .int (nI mB), .int (nI 8), .int mz])), (gT, .inl (cT 2, 260, .inl (fun j => zb (mt j)))), (gF, .inl (cT 2, 260, .inl (fun j => zb ((va_up mf (mB + 1) b) j)))), (gS, .inl (cT 0, 260, .inl (fun j => nI ((va_up mst (mB + 1) mL) j)))), (gC, .inl (cT 0, 2080, .inl (zclr cp (mB + 1) i)))]) [0, 1, 2, 3, 4] (by decide) rfl
          rw [show i = 8 by omega] at hP9 hD9
          exact W.iret hx hb hr (fun t ht hW => ⟨⟨(), trivial, rfl, by rw [ht]; exact hP9, hD9⟩, hS.F ht⟩) hS.2.2 d_Md_backup_77
        · refine lv_aload_n hx hb d_Md_backup_52 rfl (lv_at hl 0 rfl) ?_
          refine va_get (D := (dC, dI)) (ci := 6) (v := .ref gC) (C := R_Md) (T := F_Md) (N := 21) hx hb hts i_Md hown hK hP 0 rfl rfl 17 (by decide) (hts _ wd_580) (fun _ h9 => h9) rfl d_Md_backup_53 ?_
          refine lv_iload_n hx hb d_Md_backup_56 rfl (lv_at hl 2 rfl) ?_
          refine lv_bipush (v := (nI 8)) hx hb d_Md_backup_57 (by decide) ?_
          refine zn_imul hx hb d_Md_backup_59 ?_
          refine lv_iload_n hx hb d_Md_backup_60 rfl (lv_at hl 3 rfl) ?_
          refine zn_iadd hx hb d_Md_backup_61 ?_
          refine lv_iconst (v := (-1)) hx hb d_Md_backup_62 (by decide) ?_
          refine zn_iast hx hb hK hP hD hS 4 0 rfl rfl (i := ((mB + 1) * 8) + i) (x := (-1)) (by omega) (by omega) d_Md_backup_63 (fun H locs hP hD hS => ?_)
          have hP : va_P (dC, dI) vwCl ([(h0, .inr (6, [.int (nI mS), .int (nI mQ), .ref gK, .ref gV, .ref gH, .int (nI mL), .int (zb mo), .ref gM, .int (nI mch), .int (nI mA), .int (nI mP), .ref gI, .ref gR, .ref gT, .ref gF, .ref gS, .ref gE, .ref gC, .int (nI mB), .int (-2), .int mz])), (gT, .inl (cT 2, 260, .inl (fun j => zb (mt j)))), (gF, .inl (cT 2, 260, .inl (fun j => zb ((va_up mf (mB + 1) b) j)))), (gS, .inl (cT 0, 260, .inl (fun j => nI ((va_up mst (mB + 1) mL) j)))), (gC, .inl (cT 0, 2080, .inl (va_up (zclr cp (mB + 1) i) (((mB + 1) * 8) + i) (-1))))]) H := hP
          have hD : va_D A ([(h0, .inr (6, [.int (nI mS), .int (nI mQ), .ref gK, .ref gV, .ref gH, .int (nI mL), .int (zb mo), .ref gM, .int (nI mch), .int (nI mA), .int (nI mP), .ref gI, .ref gR, .ref gT, .ref gF, .ref gS, .ref gE, .ref gC, .int (nI mB), .int (-2), .int mz])), (gT, .inl (cT 2, 260, .inl (fun j => zb (mt j)))), (gF, .inl (cT 2, 260, .inl (fun j => zb ((va_up mf (mB + 1) b) j)))), (gS, .inl (cT 0, 260, .inl (fun j => nI ((va_up mst (mB + 1) mL) j)))), (gC, .inl (cT 0, 2080, .inl (va_up (zclr cp (mB + 1) i) (((mB + 1) * 8) + i) (-1))))]) := hD
          refine lv_iinc (v := (nI (i + 1))) (lv' := [(3, .int (nI (i + 1))), (0, .ref h0), (1, .int (zb b)), (2, .int (nI (mB + 1)))]) hx hb d_Md_backup_64 hl (k := 3) rfl (nI_1 _) (by decide) rfl (fun ls hl => ?_)
          refine lv_goto (tgt := 46) hx hb d_Md_backup_67 (by decide) ?_
          exact ih (i + 1) (by omega) (by first | omega | assumption) H locs (hP.sub [0, 1, 2, 3, 4] rfl) (hD.sub [0, 1, 2, 3, 4] (by decide) rfl) hS ls (lv_sub hl [1, 2, 3, 0] rfl)
    exact loop_46 (8 - 0 + 1) 0 (by omega) (by first | omega | assumption) H locs (hP.sub [0, 1, 2, 3, 4] rfl) (hD.sub [0, 1, 2, 3, 4] (by decide) rfl) hS ls (lv_sub hl [2, 3, 1, 0] rfl)
  · refine lv_aload_n hx hb d_Md_backup_11 rfl (lv_at hl 0 rfl) ?_
    refine zw_R (r := .int (nI (zful mt mf mB))) (va_runV (As := []) (rest := []) ⟨hx, hb, hml, hown, hts⟩ (c_Md_fulls l dC dI cT h0 mS mQ gK gV gH mL mo gM mch mA mP gI gR gT gF gS gE gC mB (-2) mz mt mf (by first | omega | assumption)) (cwV 0 hts (zgV wd_688 wd_690 wp_14 wd_11 wd_691) rfl rfl rfl (by decide +kernel) ⟨Nat.le_of_ble_eq_true rfl, Nat.le_of_ble_eq_true rfl⟩) ⟨zPreR_blind, va_recv hK hP (ci := 6) (q0 := 0) rfl rfl, zp_R hK hE (zSub (X := [(h0, .inr (6, [.int (nI mS), .int (nI mQ), .ref gK, .ref gV, .ref gH, .int (nI mL), .int (zb mo), .ref gM, .int (nI mch), .int (nI mA), .int (nI mP), .ref gI, .ref gR, .ref gT, .ref gF, .ref gS, .ref gE, .ref gC, .int (nI mB), .int (-2), .int mz])), (gT, .inl (cT 2, 260, .inl (fun j => zb (mt j)))), (gF, .inl (cT 2, 260, .inl (fun j => zb (mf j)))), (gS, .inl (cT 0, 260, .inl (fun j => nI (mst j)))), (gC, .inl (cT 0, 2080, .inl cp))]) (pl := []) hP [0, 1, 2] rfl)⟩ rfl rfl hl.1 rfl (lv_room (Nat.le_of_ble_eq_true rfl)) d_Md_backup_12 ⟨Nat.le_of_ble_eq_true rfl, Nat.le_of_ble_eq_true rfl⟩) ?_
    refine zn_if_ne (tgt := 20) hx hb (a := zful mt mf mB) (by omega) d_Md_backup_15 (by decide) (fun c_15 => ?_) (fun c_15 => ?_)
    · refine lv_aload_n hx hb d_Md_backup_20 rfl (lv_at hl 0 rfl) ?_
      refine va_get (D := (dC, dI)) (ci := 6) (v := .int (nI mB)) (C := R_Md) (T := F_Md) (N := 21) hx hb hts i_Md hown hK hP 0 rfl rfl 18 (by decide) (hts _ wd_581) (fun _ h9 => h9) rfl d_Md_backup_21 ?_
      refine lv_iconst (v := (nI 1)) hx hb d_Md_backup_24 (by decide) ?_
      refine zn_iadd hx hb d_Md_backup_25 ?_
      refine lv_istore_n (lv' := [(2, .int (nI (mB + 1))), (0, .ref h0), (1, .int (zb b))]) hx hb d_Md_backup_26 rfl hl (by decide) rfl (fun ls hl => ?_)
      refine lv_aload_n hx hb d_Md_backup_27 rfl (lv_at hl 1 rfl) ?_
      refine va_get (D := (dC, dI)) (ci := 6) (v := .ref gF) (C := R_Md) (T := F_Md) (N := 21) hx hb hts i_Md hown hK hP 0 rfl rfl 14 (by decide) (hts _ wd_577) (fun _ h9 => h9) rfl d_Md_backup_28 ?_
      refine lv_iload_n hx hb d_Md_backup_31 rfl (lv_at hl 0 rfl) ?_
      refine lv_iload_n hx hb d_Md_backup_32 rfl (lv_at hl 2 rfl) ?_
      refine zn_zastB hx hb hK hP hD hS 2 2 rfl rfl (i := mB + 1) (x := b) (by omega) (by omega) d_Md_backup_33 (fun H locs hP hD hS => ?_)
      have hP : va_P (dC, dI) vwCl ([(h0, .inr (6, [.int (nI mS), .int (nI mQ), .ref gK, .ref gV, .ref gH, .int (nI mL), .int (zb mo), .ref gM, .int (nI mch), .int (nI mA), .int (nI mP), .ref gI, .ref gR, .ref gT, .ref gF, .ref gS, .ref gE, .ref gC, .int (nI mB), .int (-2), .int mz])), (gT, .inl (cT 2, 260, .inl (fun j => zb (mt j)))), (gF, .inl (cT 2, 260, .inl (fun j => zb ((va_up mf (mB + 1) b) j)))), (gS, .inl (cT 0, 260, .inl (fun j => nI (mst j)))), (gC, .inl (cT 0, 2080, .inl cp))]) H := hP
      have hD : va_D A ([(h0, .inr (6, [.int (nI mS), .int (nI mQ), .ref gK, .ref gV, .ref gH, .int (nI mL), .int (zb mo), .ref gM, .int (nI mch), .int (nI mA), .int (nI mP), .ref gI, .ref gR, .ref gT, .ref gF, .ref gS, .ref gE, .ref gC, .int (nI mB), .int (-2), .int mz])), (gT, .inl (cT 2, 260, .inl (fun j => zb (mt j)))), (gF, .inl (cT 2, 260, .inl (fun j => zb ((va_up mf (mB + 1) b) j)))), (gS, .inl (cT 0, 260, .inl (fun j => nI (mst j)))), (gC, .inl (cT 0, 2080, .inl cp))]) := hD
      refine lv_aload_n hx hb d_Md_backup_34 rfl (lv_at hl 1 rfl) ?_
      refine va_get (D := (dC, dI)) (ci := 6) (v := .ref gS) (C := R_Md) (T := F_Md) (N := 21) hx hb hts i_Md hown hK hP 0 rfl rfl 15 (by decide) (hts _ wd_578) (fun _ h9 => h9) rfl d_Md_backup_35 ?_
      refine lv_iload_n hx hb d_Md_backup_38 rfl (lv_at hl 0 rfl) ?_
      refine lv_aload_n hx hb d_Md_backup_39 rfl (lv_at hl 1 rfl) ?_
      refine va_get (D := (dC, dI)) (ci := 6) (v := .int (nI mL)) (C := R_Md) (T := F_Md) (N := 21) hx hb hts i_Md hown hK hP 0 rfl rfl 5 (by decide) (hts _ wd_568) (fun _ h9 => h9) rfl d_Md_backup_40 ?_
      refine zn_iastN hx hb hK hP hD hS 3 0 rfl rfl (i := mB + 1) (x := mL) (by omega) (by omega) d_Md_backup_43 (fun H locs hP hD hS => ?_)
      have hP : va_P (dC, dI) vwCl ([(h0, .inr (6, [.int (nI mS), .int (nI mQ), .ref gK, .ref gV, .ref gH, .int (nI mL), .int (zb mo), .ref gM, .int (nI mch), .int (nI mA), .int (nI mP), .ref gI, .ref gR, .ref gT, .ref gF, .ref gS, .ref gE, .ref gC, .int (nI mB), .int (-2), .int mz])), (gT, .inl (cT 2, 260, .inl (fun j => zb (mt j)))), (gF, .inl (cT 2, 260, .inl (fun j => zb ((va_up mf (mB + 1) b) j)))), (gS, .inl (cT 0, 260, .inl (fun j => nI ((va_up mst (mB + 1) mL) j)))), (gC, .inl (cT 0, 2080, .inl cp))]) H := hP
      have hD : va_D A ([(h0, .inr (6, [.int (nI mS), .int (nI mQ), .ref gK, .ref gV, .ref gH, .int (nI mL), .int (zb mo), .ref gM, .int (nI mch), .int (nI mA), .int (nI mP), .ref gI, .ref gR, .ref gT, .ref gF, .ref gS, .ref gE, .ref gC, .int (nI mB), .int (-2), .int mz])), (gT, .inl (cT 2, 260, .inl (fun j => zb (mt j)))), (gF, .inl (cT 2, 260, .inl (fun j => zb ((va_up mf (mB + 1) b) j)))), (gS, .inl (cT 0, 260, .inl (fun j => nI ((va_up mst (mB + 1) mL) j)))), (gC, .inl (cT 0, 2080, .inl cp))]) := hD
      refine lv_iconst (v := (nI 0)) hx hb d_Md_backup_44 (by decide) ?_
      refine lv_istore_n (lv' := [(3, .int (nI 0)), (2, .int (nI (mB + 1))), (0, .ref h0), (1, .int (zb b))]) hx hb d_Md_backup_45 rfl hl (by decide) rfl (fun ls hl => ?_)
      have loop_46 : ∀ (fu : Nat) (i : Nat), 8 - i < fu → (i ≤ 8) → ∀ (H : Heap) (locs : List Loc), va_P (dC, dI) vwCl ([(h0, .inr (6, [.int (nI mS), .int (nI mQ), .ref gK, .ref gV, .ref gH, .int (nI mL), .int (zb mo), .ref gM, .int (nI mch), .int (nI mA), .int (nI mP), .ref gI, .ref gR, .ref gT, .ref gF, .ref gS, .ref gE, .ref gC, .int (nI mB), .int (-2), .int mz])), (gT, .inl (cT 2, 260, .inl (fun j => zb (mt j)))), (gF, .inl (cT 2, 260, .inl (fun j => zb ((va_up mf (mB + 1) b) j)))), (gS, .inl (cT 0, 260, .inl (fun j => nI ((va_up mst (mB + 1) mL) j)))), (gC, .inl (cT 0, 2080, .inl (zclr cp (mB + 1) i)))]) H → va_D A ([(h0, .inr (6, [.int (nI mS), .int (nI mQ), .ref gK, .ref gV, .ref gH, .int (nI mL), .int (zb mo), .ref gM, .int (nI mch), .int (nI mA), .int (nI mP), .ref gI, .ref gR, .ref gT, .ref gF, .ref gS, .ref gE, .ref gC, .int (nI mB), .int (-2), .int mz])), (gT, .inl (cT 2, 260, .inl (fun j => zb (mt j)))), (gF, .inl (cT 2, 260, .inl (fun j => zb ((va_up mf (mB + 1) b) j)))), (gS, .inl (cT 0, 260, .inl (fun j => nI ((va_up mst (mB + 1) mL) j)))), (gC, .inl (cT 0, 2080, .inl (zclr cp (mB + 1) i)))]) → va_S A s.heap H locs → ∀ (ls : Array Slot), lv_has ls 4 [(0, .ref h0), (1, .int (zb b)), (2, .int (nI (mB + 1))), (3, .int (nI i))] → W p l e (headSpec w_Md_backup ({ frames := 1, cells := 0, slots := 0, locals := 22 } : Room)).room s m ([.ref h0, .int (zb b)] : List Value).toArray below meth c H locs 0 0 (MQ below (zQ (dC, dI) vwCl (S := Unit) (fun zu => True) (fun zu => some (.int (nI 0))) (fun zu => [(h0, .inr (6, [.int (nI mS), .int (nI mQ), .ref gK, .ref gV, .ref gH, .int (nI mL), .int (zb mo), .ref gM, .int (nI mch), .int (nI mA), .int (nI mP), .ref gI, .ref gR, .ref gT, .ref gF, .ref gS, .ref gE, .ref gC, .int (nI mB), .int (nI 8), .int mz])), (gT, .inl (cT 2, 260, .inl (fun j => zb (mt j)))), (gF, .inl (cT 2, 260, .inl (fun j => zb ((va_up mf (mB + 1) b) j)))), (gS, .inl (cT 0, 260, .inl (fun j => nI ((va_up mst (mB + 1) mL) j)))), (gC, .inl (cT 0, 2080, .inl (zclr cp (mB + 1) 8)))]) A) ([.ref h0, .int (zb b)] : List Value).toArray s 0 0 A) (F0 m 46 ls []) := by
        intro fu
        induction fu with
        | zero => intro _ hm; exact absurd hm (Nat.not_lt_zero _)
        | succ fu ih =>
          intro i hm h1 H locs hP hD hS ls hl
          refine lv_iload_n hx hb d_Md_backup_46 rfl (lv_at hl 3 rfl) ?_
          refine lv_bipush (v := (nI 8)) hx hb d_Md_backup_47 (by decide) ?_
          refine zn_icmp_ge (tgt := 70) hx hb (a := i) (b := 8) (by omega) (by omega) d_Md_backup_49 (by decide) (fun c_49 => ?_) (fun c_49 => ?_)
          · refine lv_aload_n hx hb d_Md_backup_70 rfl (lv_at hl 0 rfl) ?_
            refine lv_bipush (v := (nI 8)) hx hb d_Md_backup_71 (by decide) ?_
            refine va_put (D := (dC, dI)) (ci := 6) (v := .int (nI 8)) (ty := .int) (C := R_Md) (T := F_Md) (N := 21) hx hb hts i_Md t_Md t_Md_ok n_Md hown hK hP hD hS 0 rfl rfl 19 (by decide) (hts _ wd_582) (fun _ h9 => h9) rfl (by decide +kernel) rfl rfl (Nat.le_of_ble_eq_true rfl) d_Md_backup_73 (fun H locs hP hD hS => ?_)
            have hP : va_P (dC, dI) vwCl ([(h0, .inr (6, [.int (nI mS), .int (nI mQ), .ref gK, .ref gV, .ref gH, .int (nI mL), .int (zb mo), .ref gM, .int (nI mch), .int (nI mA), .int (nI mP), .ref gI, .ref gR, .ref gT, .ref gF, .ref gS, .ref gE, .ref gC, .int (nI mB), .int (nI 8), .int mz])), (gT, .inl (cT 2, 260, .inl (fun j => zb (mt j)))), (gF, .inl (cT 2, 260, .inl (fun j => zb ((va_up mf (mB + 1) b) j)))), (gS, .inl (cT 0, 260, .inl (fun j => nI ((va_up mst (mB + 1) mL) j)))), (gC, .inl (cT 0, 2080, .inl (zclr cp (mB + 1) i)))]) H := hP
            have hD : va_D A ([(h0, .inr (6, [.int (nI mS), .int (nI mQ), .ref gK, .ref gV, .ref gH, .int (nI mL), .int (zb mo), .ref gM, .int (nI mch), .int (nI mA), .int (nI mP), .ref gI, .ref gR, .ref gT, .ref gF, .ref gS, .ref gE, .ref gC, .int (nI mB), .int (nI 8), .int mz])), (gT, .inl (cT 2, 260, .inl (fun j => zb (mt j)))), (gF, .inl (cT 2, 260, .inl (fun j => zb ((va_up mf (mB + 1) b) j)))), (gS, .inl (cT 0, 260, .inl (fun j => nI ((va_up mst (mB + 1) mL) j)))), (gC, .inl (cT 0, 2080, .inl (zclr cp (mB + 1) i)))]) := hD
            refine lv_iconst (v := (nI 0)) hx hb d_Md_backup_76 (by decide) ?_
            have hP9 := hP.sub (ws' := [(h0, .inr (6, [.int (nI mS), .int (nI mQ), .ref gK, .ref gV, .ref gH, .int (nI mL), .int (zb mo), .ref gM, .int (nI mch), .int (nI mA), .int (nI mP), .ref gI, .ref gR, .ref gT, .ref gF, .ref gS, .ref gE, .ref gC, .int (nI mB), .int (nI 8), .int mz])), (gT, .inl (cT 2, 260, .inl (fun j => zb (mt j)))), (gF, .inl (cT 2, 260, .inl (fun j => zb ((va_up mf (mB + 1) b) j)))), (gS, .inl (cT 0, 260, .inl (fun j => nI ((va_up mst (mB + 1) mL) j)))), (gC, .inl (cT 0, 2080, .inl (zclr cp (mB + 1) i)))]) [0, 1, 2, 3, 4] rfl
            have hD9 := hD.sub (ws' := [(h0, .inr (6, [.int (nI mS), .int (nI mQ), .ref gK, .ref gV, .ref gH, .int (nI mL), .int (zb mo), .ref gM, .int (nI mch), .int (nI mA), .int (nI mP), .ref gI, .ref gR, .ref gT, .ref gF, .ref gS, .ref gE, .ref gC, .int (nI mB), .int (nI 8), .int mz])), (gT, .inl (cT 2, 260, .inl (fun j => zb (mt j)))), (gF, .inl (cT 2, 260, .inl (fun j => zb ((va_up mf (mB + 1) b) j)))), (gS, .inl (cT 0, 260, .inl (fun j => nI ((va_up mst (mB + 1) mL) j)))), (gC, .inl (cT 0, 2080, .inl (zclr cp (mB + 1) i)))]) [0, 1, 2, 3, 4] (by decide) rfl
            rw [show i = 8 by omega] at hP9 hD9
            exact W.iret hx hb hr (fun t ht hW => ⟨⟨(), trivial, rfl, by rw [ht]; exact hP9, hD9⟩, hS.F ht⟩) hS.2.2 d_Md_backup_77
          · refine lv_aload_n hx hb d_Md_backup_52 rfl (lv_at hl 0 rfl) ?_
            refine va_get (D := (dC, dI)) (ci := 6) (v := .ref gC) (C := R_Md) (T := F_Md) (N := 21) hx hb hts i_Md hown hK hP 0 rfl rfl 17 (by decide) (hts _ wd_580) (fun _ h9 => h9) rfl d_Md_backup_53 ?_
            refine lv_iload_n hx hb d_Md_backup_56 rfl (lv_at hl 2 rfl) ?_
            refine lv_bipush (v := (nI 8)) hx hb d_Md_backup_57 (by decide) ?_
            refine zn_imul hx hb d_Md_backup_59 ?_
            refine lv_iload_n hx hb d_Md_backup_60 rfl (lv_at hl 3 rfl) ?_
            refine zn_iadd hx hb d_Md_backup_61 ?_
            refine lv_iconst (v := (-1)) hx hb d_Md_backup_62 (by decide) ?_
            refine zn_iast hx hb hK hP hD hS 4 0 rfl rfl (i := ((mB + 1) * 8) + i) (x := (-1)) (by omega) (by omega) d_Md_backup_63 (fun H locs hP hD hS => ?_)
            have hP : va_P (dC, dI) vwCl ([(h0, .inr (6, [.int (nI mS), .int (nI mQ), .ref gK, .ref gV, .ref gH, .int (nI mL), .int (zb mo), .ref gM, .int (nI mch), .int (nI mA), .int (nI mP), .ref gI, .ref gR, .ref gT, .ref gF, .ref gS, .ref gE, .ref gC, .int (nI mB), .int (-2), .int mz])), (gT, .inl (cT 2, 260, .inl (fun j => zb (mt j)))), (gF, .inl (cT 2, 260, .inl (fun j => zb ((va_up mf (mB + 1) b) j)))), (gS, .inl (cT 0, 260, .inl (fun j => nI ((va_up mst (mB + 1) mL) j)))), (gC, .inl (cT 0, 2080, .inl (va_up (zclr cp (mB + 1) i) (((mB + 1) * 8) + i) (-1))))]) H := hP
            have hD : va_D A ([(h0, .inr (6, [.int (nI mS), .int (nI mQ), .ref gK, .ref gV, .ref gH, .int (nI mL), .int (zb mo), .ref gM, .int (nI mch), .int (nI mA), .int (nI mP), .ref gI, .ref gR, .ref gT, .ref gF, .ref gS, .ref gE, .ref gC, .int (nI mB), .int (-2), .int mz])), (gT, .inl (cT 2, 260, .inl (fun j => zb (mt j)))), (gF, .inl (cT 2, 260, .inl (fun j => zb ((va_up mf (mB + 1) b) j)))), (gS, .inl (cT 0, 260, .inl (fun j => nI ((va_up mst (mB + 1) mL) j)))), (gC, .inl (cT 0, 2080, .inl (va_up (zclr cp (mB + 1) i) (((mB + 1) * 8) + i) (-1))))]) := hD
            refine lv_iinc (v := (nI (i + 1))) (lv' := [(3, .int (nI (i + 1))), (0, .ref h0), (1, .int (zb b)), (2, .int (nI (mB + 1)))]) hx hb d_Md_backup_64 hl (k := 3) rfl (nI_1 _) (by decide) rfl (fun ls hl => ?_)
            refine lv_goto (tgt := 46) hx hb d_Md_backup_67 (by decide) ?_
            exact ih (i + 1) (by omega) (by first | omega | assumption) H locs (hP.sub [0, 1, 2, 3, 4] rfl) (hD.sub [0, 1, 2, 3, 4] (by decide) rfl) hS ls (lv_sub hl [1, 2, 3, 0] rfl)
      exact loop_46 (8 - 0 + 1) 0 (by omega) (by first | omega | assumption) H locs (hP.sub [0, 1, 2, 3, 4] rfl) (hD.sub [0, 1, 2, 3, 4] (by decide) rfl) hS ls (lv_sub hl [2, 3, 1, 0] rfl)
    · exact absurd hz (fun q => q.elim (fun q1 => by rw [c_8] at q1; exact absurd q1 (by decide)) (fun q2 => q2 c_15))
end
