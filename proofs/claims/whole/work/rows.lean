section
/-- a private method of a class that the tables say can be made, by its rows of tables_1 -/
def lw_okq (q : MethodName × Nat) : Prop := (q.1.cls ≠ "java/lang/invoke/MethodHandle" ∧ q.1.cls ≠ "java/lang/invoke/VarHandle") ∧ Cond.instantiable q.1.cls q.2 ∈ tables_1 ∧ Cond.privateMethod q.1 ∈ tables_1 ∧ Cond.instanceMethod q.1 ∈ tables_1
theorem lw_p0 : lw_okq (⟨"java/lang/Throwable", "fillInStackTrace", "(I)Ljava/lang/Throwable;"⟩, 6) := ⟨⟨by decide +kernel, by decide +kernel⟩, List.mem_of_getElem? (i := 173) (by decide +kernel), List.mem_of_getElem? (i := 171) (by decide +kernel), List.mem_of_getElem? (i := 172) (by decide +kernel)⟩
theorem lw_p1 : lw_okq (⟨"RetentionVault", "demandRoom", "()V"⟩, 5) := ⟨⟨by decide +kernel, by decide +kernel⟩, List.mem_of_getElem? (i := 23) (by decide +kernel), List.mem_of_getElem? (i := 203) (by decide +kernel), List.mem_of_getElem? (i := 204) (by decide +kernel)⟩
theorem lw_p2 : lw_okq (⟨"RetentionVault", "isFull", "()Z"⟩, 5) := ⟨⟨by decide +kernel, by decide +kernel⟩, List.mem_of_getElem? (i := 23) (by decide +kernel), List.mem_of_getElem? (i := 207) (by decide +kernel), List.mem_of_getElem? (i := 208) (by decide +kernel)⟩
theorem lw_p3 : lw_okq (⟨"RetentionVault", "add", "(LRetentionVault$Version;)I"⟩, 5) := ⟨⟨by decide +kernel, by decide +kernel⟩, List.mem_of_getElem? (i := 23) (by decide +kernel), List.mem_of_getElem? (i := 294) (by decide +kernel), List.mem_of_getElem? (i := 295) (by decide +kernel)⟩
theorem lw_p4 : lw_okq (⟨"RetentionVault", "latestOf", "(I)LRetentionVault$Version;"⟩, 5) := ⟨⟨by decide +kernel, by decide +kernel⟩, List.mem_of_getElem? (i := 23) (by decide +kernel), List.mem_of_getElem? (i := 298) (by decide +kernel), List.mem_of_getElem? (i := 299) (by decide +kernel)⟩
theorem lw_p5 : lw_okq (⟨"java/util/ArrayList", "add", "(Ljava/lang/Object;[Ljava/lang/Object;I)V"⟩, 3) := ⟨⟨by decide +kernel, by decide +kernel⟩, List.mem_of_getElem? (i := 31) (by decide +kernel), List.mem_of_getElem? (i := 320) (by decide +kernel), List.mem_of_getElem? (i := 321) (by decide +kernel)⟩
theorem lw_p6 : lw_okq (⟨"java/util/ArrayList", "grow", "()[Ljava/lang/Object;"⟩, 3) := ⟨⟨by decide +kernel, by decide +kernel⟩, List.mem_of_getElem? (i := 31) (by decide +kernel), List.mem_of_getElem? (i := 324) (by decide +kernel), List.mem_of_getElem? (i := 325) (by decide +kernel)⟩
theorem lw_p7 : lw_okq (⟨"java/util/ArrayList", "grow", "(I)[Ljava/lang/Object;"⟩, 3) := ⟨⟨by decide +kernel, by decide +kernel⟩, List.mem_of_getElem? (i := 31) (by decide +kernel), List.mem_of_getElem? (i := 328) (by decide +kernel), List.mem_of_getElem? (i := 329) (by decide +kernel)⟩
theorem lw_p8 : lw_okq (⟨"RetentionVault$Log", "append", "(II)V"⟩, 3) := ⟨⟨by decide +kernel, by decide +kernel⟩, List.mem_of_getElem? (i := 78) (by decide +kernel), List.mem_of_getElem? (i := 384) (by decide +kernel), List.mem_of_getElem? (i := 385) (by decide +kernel)⟩
theorem lw_p9 : lw_okq (⟨"RetentionVault", "currentObject", "(I)LRetentionVault$Version;"⟩, 5) := ⟨⟨by decide +kernel, by decide +kernel⟩, List.mem_of_getElem? (i := 23) (by decide +kernel), List.mem_of_getElem? (i := 397) (by decide +kernel), List.mem_of_getElem? (i := 398) (by decide +kernel)⟩
theorem lw_p10 : lw_okq (⟨"RetentionVault", "versionNumbered", "(I)LRetentionVault$Version;"⟩, 5) := ⟨⟨by decide +kernel, by decide +kernel⟩, List.mem_of_getElem? (i := 23) (by decide +kernel), List.mem_of_getElem? (i := 424) (by decide +kernel), List.mem_of_getElem? (i := 425) (by decide +kernel)⟩
theorem lw_p11 : lw_okq (⟨"RetentionVault", "takeAway", "(LRetentionVault$Version;)V"⟩, 5) := ⟨⟨by decide +kernel, by decide +kernel⟩, List.mem_of_getElem? (i := 23) (by decide +kernel), List.mem_of_getElem? (i := 443) (by decide +kernel), List.mem_of_getElem? (i := 444) (by decide +kernel)⟩
theorem lw_p12 : lw_okq (⟨"java/util/ArrayList", "fastRemove", "([Ljava/lang/Object;I)V"⟩, 3) := ⟨⟨by decide +kernel, by decide +kernel⟩, List.mem_of_getElem? (i := 31) (by decide +kernel), List.mem_of_getElem? (i := 451) (by decide +kernel), List.mem_of_getElem? (i := 452) (by decide +kernel)⟩
theorem lw_p13 : lw_okq (⟨"RetentionVault", "objectNumbered", "(I)LRetentionVault$Version;"⟩, 5) := ⟨⟨by decide +kernel, by decide +kernel⟩, List.mem_of_getElem? (i := 23) (by decide +kernel), List.mem_of_getElem? (i := 463) (by decide +kernel), List.mem_of_getElem? (i := 464) (by decide +kernel)⟩
theorem lw_p14 : lw_okq (⟨"RetentionVault", "goThroughVersions", "()V"⟩, 5) := ⟨⟨by decide +kernel, by decide +kernel⟩, List.mem_of_getElem? (i := 23) (by decide +kernel), List.mem_of_getElem? (i := 529) (by decide +kernel), List.mem_of_getElem? (i := 530) (by decide +kernel)⟩
theorem lw_p15 : lw_okq (⟨"RetentionVault", "goThroughRules", "(LRetentionVault$Version;)V"⟩, 5) := ⟨⟨by decide +kernel, by decide +kernel⟩, List.mem_of_getElem? (i := 23) (by decide +kernel), List.mem_of_getElem? (i := 533) (by decide +kernel), List.mem_of_getElem? (i := 534) (by decide +kernel)⟩
def lw_privs_1 : List (MethodName × Nat) := [(⟨"java/lang/Throwable", "fillInStackTrace", "(I)Ljava/lang/Throwable;"⟩, 6), (⟨"RetentionVault", "demandRoom", "()V"⟩, 5), (⟨"RetentionVault", "isFull", "()Z"⟩, 5), (⟨"RetentionVault", "add", "(LRetentionVault$Version;)I"⟩, 5), (⟨"RetentionVault", "latestOf", "(I)LRetentionVault$Version;"⟩, 5), (⟨"java/util/ArrayList", "add", "(Ljava/lang/Object;[Ljava/lang/Object;I)V"⟩, 3), (⟨"java/util/ArrayList", "grow", "()[Ljava/lang/Object;"⟩, 3), (⟨"java/util/ArrayList", "grow", "(I)[Ljava/lang/Object;"⟩, 3), (⟨"RetentionVault$Log", "append", "(II)V"⟩, 3), (⟨"RetentionVault", "currentObject", "(I)LRetentionVault$Version;"⟩, 5), (⟨"RetentionVault", "versionNumbered", "(I)LRetentionVault$Version;"⟩, 5), (⟨"RetentionVault", "takeAway", "(LRetentionVault$Version;)V"⟩, 5), (⟨"java/util/ArrayList", "fastRemove", "([Ljava/lang/Object;I)V"⟩, 3), (⟨"RetentionVault", "objectNumbered", "(I)LRetentionVault$Version;"⟩, 5), (⟨"RetentionVault", "goThroughVersions", "()V"⟩, 5), (⟨"RetentionVault", "goThroughRules", "(LRetentionVault$Version;)V"⟩, 5)]
theorem lw_r1 : ∀ q ∈ lw_privs_1, lw_okq q := List.forall_mem_cons.mpr ⟨lw_p0, List.forall_mem_cons.mpr ⟨lw_p1, List.forall_mem_cons.mpr ⟨lw_p2, List.forall_mem_cons.mpr ⟨lw_p3, List.forall_mem_cons.mpr ⟨lw_p4, List.forall_mem_cons.mpr ⟨lw_p5, List.forall_mem_cons.mpr ⟨lw_p6, List.forall_mem_cons.mpr ⟨lw_p7, List.forall_mem_cons.mpr ⟨lw_p8, List.forall_mem_cons.mpr ⟨lw_p9, List.forall_mem_cons.mpr ⟨lw_p10, List.forall_mem_cons.mpr ⟨lw_p11, List.forall_mem_cons.mpr ⟨lw_p12, List.forall_mem_cons.mpr ⟨lw_p13, List.forall_mem_cons.mpr ⟨lw_p14, List.forall_mem_cons.mpr ⟨lw_p15, fun _ h => absurd h List.not_mem_nil⟩⟩⟩⟩⟩⟩⟩⟩⟩⟩⟩⟩⟩⟩⟩⟩
theorem lw_p16 : lw_okq (⟨"RetentionVault", "cool", "(LRetentionVault$Version;I)V"⟩, 5) := ⟨⟨by decide +kernel, by decide +kernel⟩, List.mem_of_getElem? (i := 23) (by decide +kernel), List.mem_of_getElem? (i := 546) (by decide +kernel), List.mem_of_getElem? (i := 547) (by decide +kernel)⟩
theorem lw_p17 : lw_okq (⟨"RetentionVault", "expire", "(LRetentionVault$Version;)Z"⟩, 5) := ⟨⟨by decide +kernel, by decide +kernel⟩, List.mem_of_getElem? (i := 23) (by decide +kernel), List.mem_of_getElem? (i := 550) (by decide +kernel), List.mem_of_getElem? (i := 551) (by decide +kernel)⟩
theorem lw_p18 : lw_okq (⟨"RetentionVault", "takeLoneMarkersAway", "()V"⟩, 5) := ⟨⟨by decide +kernel, by decide +kernel⟩, List.mem_of_getElem? (i := 23) (by decide +kernel), List.mem_of_getElem? (i := 559) (by decide +kernel), List.mem_of_getElem? (i := 560) (by decide +kernel)⟩
theorem lw_p19 : lw_okq (⟨"RetentionVault", "isAlone", "(LRetentionVault$Version;)Z"⟩, 5) := ⟨⟨by decide +kernel, by decide +kernel⟩, List.mem_of_getElem? (i := 23) (by decide +kernel), List.mem_of_getElem? (i := 563) (by decide +kernel), List.mem_of_getElem? (i := 564) (by decide +kernel)⟩
theorem lw_p20 : lw_okq (⟨"RetentionVault", "sumOfSizes", "()I"⟩, 5) := ⟨⟨by decide +kernel, by decide +kernel⟩, List.mem_of_getElem? (i := 23) (by decide +kernel), List.mem_of_getElem? (i := 622) (by decide +kernel), List.mem_of_getElem? (i := 623) (by decide +kernel)⟩
theorem lw_p21 : lw_okq (⟨"RetentionVault", "countOfGuarded", "()I"⟩, 5) := ⟨⟨by decide +kernel, by decide +kernel⟩, List.mem_of_getElem? (i := 23) (by decide +kernel), List.mem_of_getElem? (i := 626) (by decide +kernel), List.mem_of_getElem? (i := 627) (by decide +kernel)⟩
theorem lw_p22 : lw_okq (⟨"RetentionVaultModel", "add", "(III)I"⟩, 23) := ⟨⟨by decide +kernel, by decide +kernel⟩, List.mem_of_getElem? (i := 631) (by decide +kernel), List.mem_of_getElem? (i := 718) (by decide +kernel), List.mem_of_getElem? (i := 719) (by decide +kernel)⟩
theorem lw_p23 : lw_okq (⟨"RetentionVaultModel", "currentOf", "(I)I"⟩, 23) := ⟨⟨by decide +kernel, by decide +kernel⟩, List.mem_of_getElem? (i := 631) (by decide +kernel), List.mem_of_getElem? (i := 722) (by decide +kernel), List.mem_of_getElem? (i := 723) (by decide +kernel)⟩
theorem lw_p24 : lw_okq (⟨"RetentionVaultModel", "enter", "(III)V"⟩, 23) := ⟨⟨by decide +kernel, by decide +kernel⟩, List.mem_of_getElem? (i := 631) (by decide +kernel), List.mem_of_getElem? (i := 726) (by decide +kernel), List.mem_of_getElem? (i := 727) (by decide +kernel)⟩
theorem lw_p25 : lw_okq (⟨"RetentionVaultModel", "find", "(I)I"⟩, 23) := ⟨⟨by decide +kernel, by decide +kernel⟩, List.mem_of_getElem? (i := 631) (by decide +kernel), List.mem_of_getElem? (i := 739) (by decide +kernel), List.mem_of_getElem? (i := 740) (by decide +kernel)⟩
theorem lw_p26 : lw_okq (⟨"RetentionVaultModel", "isRetained", "(I)Z"⟩, 23) := ⟨⟨by decide +kernel, by decide +kernel⟩, List.mem_of_getElem? (i := 631) (by decide +kernel), List.mem_of_getElem? (i := 743) (by decide +kernel), List.mem_of_getElem? (i := 744) (by decide +kernel)⟩
theorem lw_p27 : lw_okq (⟨"RetentionVaultModel", "takeAway", "(I)V"⟩, 23) := ⟨⟨by decide +kernel, by decide +kernel⟩, List.mem_of_getElem? (i := 631) (by decide +kernel), List.mem_of_getElem? (i := 747) (by decide +kernel), List.mem_of_getElem? (i := 748) (by decide +kernel)⟩
theorem lw_p28 : lw_okq (⟨"RetentionVaultModel", "object", "(I)I"⟩, 23) := ⟨⟨by decide +kernel, by decide +kernel⟩, List.mem_of_getElem? (i := 631) (by decide +kernel), List.mem_of_getElem? (i := 755) (by decide +kernel), List.mem_of_getElem? (i := 756) (by decide +kernel)⟩
theorem lw_p29 : lw_okq (⟨"RetentionVaultModel", "begin", "()V"⟩, 23) := ⟨⟨by decide +kernel, by decide +kernel⟩, List.mem_of_getElem? (i := 631) (by decide +kernel), List.mem_of_getElem? (i := 775) (by decide +kernel), List.mem_of_getElem? (i := 776) (by decide +kernel)⟩
theorem lw_p30 : lw_okq (⟨"RetentionVaultModel", "go", "(I)V"⟩, 23) := ⟨⟨by decide +kernel, by decide +kernel⟩, List.mem_of_getElem? (i := 631) (by decide +kernel), List.mem_of_getElem? (i := 779) (by decide +kernel), List.mem_of_getElem? (i := 780) (by decide +kernel)⟩
theorem lw_p31 : lw_okq (⟨"RetentionVaultModel", "isDue", "(II)Z"⟩, 23) := ⟨⟨by decide +kernel, by decide +kernel⟩, List.mem_of_getElem? (i := 631) (by decide +kernel), List.mem_of_getElem? (i := 783) (by decide +kernel), List.mem_of_getElem? (i := 784) (by decide +kernel)⟩
def lw_privs_2 : List (MethodName × Nat) := [(⟨"RetentionVault", "cool", "(LRetentionVault$Version;I)V"⟩, 5), (⟨"RetentionVault", "expire", "(LRetentionVault$Version;)Z"⟩, 5), (⟨"RetentionVault", "takeLoneMarkersAway", "()V"⟩, 5), (⟨"RetentionVault", "isAlone", "(LRetentionVault$Version;)Z"⟩, 5), (⟨"RetentionVault", "sumOfSizes", "()I"⟩, 5), (⟨"RetentionVault", "countOfGuarded", "()I"⟩, 5), (⟨"RetentionVaultModel", "add", "(III)I"⟩, 23), (⟨"RetentionVaultModel", "currentOf", "(I)I"⟩, 23), (⟨"RetentionVaultModel", "enter", "(III)V"⟩, 23), (⟨"RetentionVaultModel", "find", "(I)I"⟩, 23), (⟨"RetentionVaultModel", "isRetained", "(I)Z"⟩, 23), (⟨"RetentionVaultModel", "takeAway", "(I)V"⟩, 23), (⟨"RetentionVaultModel", "object", "(I)I"⟩, 23), (⟨"RetentionVaultModel", "begin", "()V"⟩, 23), (⟨"RetentionVaultModel", "go", "(I)V"⟩, 23), (⟨"RetentionVaultModel", "isDue", "(II)Z"⟩, 23)]
theorem lw_r2 : ∀ q ∈ lw_privs_2, lw_okq q := List.forall_mem_cons.mpr ⟨lw_p16, List.forall_mem_cons.mpr ⟨lw_p17, List.forall_mem_cons.mpr ⟨lw_p18, List.forall_mem_cons.mpr ⟨lw_p19, List.forall_mem_cons.mpr ⟨lw_p20, List.forall_mem_cons.mpr ⟨lw_p21, List.forall_mem_cons.mpr ⟨lw_p22, List.forall_mem_cons.mpr ⟨lw_p23, List.forall_mem_cons.mpr ⟨lw_p24, List.forall_mem_cons.mpr ⟨lw_p25, List.forall_mem_cons.mpr ⟨lw_p26, List.forall_mem_cons.mpr ⟨lw_p27, List.forall_mem_cons.mpr ⟨lw_p28, List.forall_mem_cons.mpr ⟨lw_p29, List.forall_mem_cons.mpr ⟨lw_p30, List.forall_mem_cons.mpr ⟨lw_p31, fun _ h => absurd h List.not_mem_nil⟩⟩⟩⟩⟩⟩⟩⟩⟩⟩⟩⟩⟩⟩⟩⟩
theorem lw_p32 : lw_okq (⟨"RetentionVaultModel", "isCurrent", "(I)Z"⟩, 23) := ⟨⟨by decide +kernel, by decide +kernel⟩, List.mem_of_getElem? (i := 631) (by decide +kernel), List.mem_of_getElem? (i := 787) (by decide +kernel), List.mem_of_getElem? (i := 788) (by decide +kernel)⟩
theorem lw_p33 : lw_okq (⟨"RetentionVaultModel", "since", "(I)I"⟩, 23) := ⟨⟨by decide +kernel, by decide +kernel⟩, List.mem_of_getElem? (i := 631) (by decide +kernel), List.mem_of_getElem? (i := 791) (by decide +kernel), List.mem_of_getElem? (i := 792) (by decide +kernel)⟩
theorem lw_p34 : lw_okq (⟨"RetentionVaultModel", "isGuarded", "(I)Z"⟩, 23) := ⟨⟨by decide +kernel, by decide +kernel⟩, List.mem_of_getElem? (i := 631) (by decide +kernel), List.mem_of_getElem? (i := 795) (by decide +kernel), List.mem_of_getElem? (i := 796) (by decide +kernel)⟩
theorem lw_p35 : lw_okq (⟨"RetentionVaultModel", "versionsOf", "(I)I"⟩, 23) := ⟨⟨by decide +kernel, by decide +kernel⟩, List.mem_of_getElem? (i := 631) (by decide +kernel), List.mem_of_getElem? (i := 799) (by decide +kernel), List.mem_of_getElem? (i := 800) (by decide +kernel)⟩
def lw_privs_3 : List (MethodName × Nat) := [(⟨"RetentionVaultModel", "isCurrent", "(I)Z"⟩, 23), (⟨"RetentionVaultModel", "since", "(I)I"⟩, 23), (⟨"RetentionVaultModel", "isGuarded", "(I)Z"⟩, 23), (⟨"RetentionVaultModel", "versionsOf", "(I)I"⟩, 23)]
theorem lw_r3 : ∀ q ∈ lw_privs_3, lw_okq q := List.forall_mem_cons.mpr ⟨lw_p32, List.forall_mem_cons.mpr ⟨lw_p33, List.forall_mem_cons.mpr ⟨lw_p34, List.forall_mem_cons.mpr ⟨lw_p35, fun _ h => absurd h List.not_mem_nil⟩⟩⟩⟩
def lw_privs : List (MethodName × Nat) := lw_privs_1 ++ (lw_privs_2 ++ (lw_privs_3))
def lw_tbl : List Cond := k2_sels lw_privs ++ tables_1
theorem lw_privs_ok : ∀ q ∈ lw_privs, lw_okq q := by
  show ∀ q ∈ lw_privs_1 ++ (lw_privs_2 ++ (lw_privs_3)), lw_okq q
  exact List.forall_mem_append.mpr ⟨lw_r1, List.forall_mem_append.mpr ⟨lw_r2, lw_r3⟩⟩
end
section
/-! one list of words for all methods; words by their places; class tables; code names: laid by program (wip/whole/names.py) -/
def tb : List Cond := lw_tbl.filter goodWord
theorem tb_good : GoodIn tb tb := fun w h => ⟨h, good_of_word (List.mem_filter.mp h).2⟩
theorem tb_in {w : Cond} (h : w ∈ lw_tbl) (hg : goodWord w = true) : w ∈ tb := List.mem_filter.mpr ⟨h, hg⟩
theorem tb_t1 {w : Cond} (i : Nat) (h : tables_1_1[i]? = some w) (hg : goodWord w = true) : w ∈ tb := tb_in (List.mem_append_right _ (List.mem_append_left _ (List.mem_of_getElem? h))) hg
theorem tb_t2 {w : Cond} (i : Nat) (h : tables_1_2[i]? = some w) (hg : goodWord w = true) : w ∈ tb := tb_in (List.mem_append_right _ (List.mem_append_right _ (List.mem_append_left _ (List.mem_of_getElem? h)))) hg
theorem tb_t3 {w : Cond} (i : Nat) (h : tables_1_3[i]? = some w) (hg : goodWord w = true) : w ∈ tb := tb_in (List.mem_append_right _ (List.mem_append_right _ (List.mem_append_right _ (List.mem_append_left _ (List.mem_of_getElem? h))))) hg
theorem tb_t4 {w : Cond} (i : Nat) (h : tables_1_4[i]? = some w) (hg : goodWord w = true) : w ∈ tb := tb_in (List.mem_append_right _ (List.mem_append_right _ (List.mem_append_right _ (List.mem_append_right _ (List.mem_of_getElem? h))))) hg
theorem w_0 : (Jvm.Cond.initialized "RetentionVaultLaw") ∈ tb := tb_t1 0 rfl rfl
theorem w_1 : (Jvm.Cond.initialized "RetentionVault") ∈ tb := tb_t1 1 rfl rfl
theorem w_2 : (Jvm.Cond.initialized "java/util/AbstractCollection") ∈ tb := tb_t1 2 rfl rfl
theorem w_3 : (Jvm.Cond.initialized "java/util/AbstractList") ∈ tb := tb_t1 3 rfl rfl
theorem w_4 : (Jvm.Cond.initialized "java/util/ArrayList") ∈ tb := tb_t1 4 rfl rfl
theorem w_5 : (Jvm.Cond.initialized "RetentionVault$Rule") ∈ tb := tb_t1 5 rfl rfl
theorem w_6 : (Jvm.Cond.initialized "RetentionVault$Log") ∈ tb := tb_t1 6 rfl rfl
theorem w_7 : (Jvm.Cond.initialized "RetentionVaultModel") ∈ tb := tb_t1 7 rfl rfl
theorem w_8 : (Jvm.Cond.initialized "java/lang/Throwable") ∈ tb := tb_t1 8 rfl rfl
theorem w_9 : (Jvm.Cond.initialized "java/lang/Exception") ∈ tb := tb_t1 9 rfl rfl
theorem w_10 : (Jvm.Cond.initialized "java/lang/RuntimeException") ∈ tb := tb_t1 10 rfl rfl
theorem w_11 : (Jvm.Cond.initialized "java/lang/IllegalArgumentException") ∈ tb := tb_t1 11 rfl rfl
theorem w_12 : (Jvm.Cond.initialized "java/lang/IllegalStateException") ∈ tb := tb_t1 12 rfl rfl
theorem w_13 : (Jvm.Cond.initialized "RetentionVault$Version") ∈ tb := tb_t1 13 rfl rfl
theorem w_14 : (Jvm.Cond.initialized "java/util/Objects") ∈ tb := tb_t1 14 rfl rfl
theorem w_15 : (Jvm.Cond.initialized "jdk/internal/util/Preconditions") ∈ tb := tb_t1 15 rfl rfl
theorem w_16 : (Jvm.Cond.initialized "jdk/internal/util/ArraysSupport") ∈ tb := tb_t1 16 rfl rfl
theorem w_17 : (Jvm.Cond.initialized "java/lang/Math") ∈ tb := tb_t1 17 rfl rfl
theorem w_18 : (Jvm.Cond.initialized "java/util/Arrays") ∈ tb := tb_t1 18 rfl rfl
theorem w_19 : (Jvm.Cond.initialized "java/lang/System") ∈ tb := tb_t1 19 rfl rfl
theorem w_20 : (Jvm.Cond.initialized "java/util/NoSuchElementException") ∈ tb := tb_t1 20 rfl rfl
theorem w_21 : (Jvm.Cond.initialized "java/lang/IndexOutOfBoundsException") ∈ tb := tb_t1 21 rfl rfl
theorem w_22 : (Jvm.Cond.classLink "RetentionVaultLaw" (8 : Nat) "RetentionVault") ∈ tb := tb_t1 22 rfl rfl
theorem w_23 : (Jvm.Cond.instantiable "RetentionVault" (5 : Nat)) ∈ tb := tb_t1 23 rfl rfl
theorem w_24 : (Jvm.Cond.methodLink "RetentionVaultLaw" (67 : Nat) ({ cls := "RetentionVault", name := "<init>", desc := "()V" } : Jvm.MethodName)) ∈ tb := tb_t1 24 rfl rfl
theorem w_25 : (Jvm.Cond.instanceMethod ({ cls := "RetentionVault", name := "<init>", desc := "()V" } : Jvm.MethodName)) ∈ tb := tb_t1 25 rfl rfl
theorem w_26 : (Jvm.Cond.code ({ cls := "RetentionVault", name := "<init>", desc := "()V" } : Jvm.MethodName) prog_1_method_1_code (2 : Nat) (Option.none : Option Jvm.ClassFile.FieldType)) ∈ tb := tb_t1 26 rfl rfl
theorem w_27 : (Jvm.Cond.methodLink "RetentionVault" (1 : Nat) ({ cls := "java/lang/Object", name := "<init>", desc := "()V" } : Jvm.MethodName)) ∈ tb := tb_t1 27 rfl rfl
theorem w_28 : (Jvm.Cond.instanceMethod ({ cls := "java/lang/Object", name := "<init>", desc := "()V" } : Jvm.MethodName)) ∈ tb := tb_t1 28 rfl rfl
theorem w_29 : (Jvm.Cond.code ({ cls := "java/lang/Object", name := "<init>", desc := "()V" } : Jvm.MethodName) object_method_1_code (1 : Nat) (Option.none : Option Jvm.ClassFile.FieldType)) ∈ tb := tb_t1 29 rfl rfl
theorem w_30 : (Jvm.Cond.classLink "RetentionVault" (7 : Nat) "java/util/ArrayList") ∈ tb := tb_t1 30 rfl rfl
theorem w_31 : (Jvm.Cond.instantiable "java/util/ArrayList" (3 : Nat)) ∈ tb := tb_t1 31 rfl rfl
theorem w_32 : (Jvm.Cond.methodLink "RetentionVault" (9 : Nat) ({ cls := "java/util/ArrayList", name := "<init>", desc := "()V" } : Jvm.MethodName)) ∈ tb := tb_t1 32 rfl rfl
theorem w_33 : (Jvm.Cond.instanceMethod ({ cls := "java/util/ArrayList", name := "<init>", desc := "()V" } : Jvm.MethodName)) ∈ tb := tb_t1 33 rfl rfl
theorem w_34 : (Jvm.Cond.code ({ cls := "java/util/ArrayList", name := "<init>", desc := "()V" } : Jvm.MethodName) prog_21_method_2_code (1 : Nat) (Option.none : Option Jvm.ClassFile.FieldType)) ∈ tb := tb_t1 34 rfl rfl
theorem w_35 : (Jvm.Cond.methodLink "java/util/ArrayList" (1 : Nat) ({ cls := "java/util/AbstractList", name := "<init>", desc := "()V" } : Jvm.MethodName)) ∈ tb := tb_t1 35 rfl rfl
theorem w_36 : (Jvm.Cond.instanceMethod ({ cls := "java/util/AbstractList", name := "<init>", desc := "()V" } : Jvm.MethodName)) ∈ tb := tb_t1 36 rfl rfl
theorem w_37 : (Jvm.Cond.code ({ cls := "java/util/AbstractList", name := "<init>", desc := "()V" } : Jvm.MethodName) prog_20_method_1_code (1 : Nat) (Option.none : Option Jvm.ClassFile.FieldType)) ∈ tb := tb_t1 37 rfl rfl
theorem w_38 : (Jvm.Cond.methodLink "java/util/AbstractList" (1 : Nat) ({ cls := "java/util/AbstractCollection", name := "<init>", desc := "()V" } : Jvm.MethodName)) ∈ tb := tb_t1 38 rfl rfl
theorem w_39 : (Jvm.Cond.instanceMethod ({ cls := "java/util/AbstractCollection", name := "<init>", desc := "()V" } : Jvm.MethodName)) ∈ tb := tb_t1 39 rfl rfl
theorem w_40 : (Jvm.Cond.code ({ cls := "java/util/AbstractCollection", name := "<init>", desc := "()V" } : Jvm.MethodName) prog_19_method_1_code (1 : Nat) (Option.none : Option Jvm.ClassFile.FieldType)) ∈ tb := tb_t1 40 rfl rfl
theorem w_41 : (Jvm.Cond.methodLink "java/util/AbstractCollection" (1 : Nat) ({ cls := "java/lang/Object", name := "<init>", desc := "()V" } : Jvm.MethodName)) ∈ tb := tb_t1 41 rfl rfl
theorem w_42 : (Jvm.Cond.fieldLink "java/util/ArrayList" (39 : Nat) "java/util/ArrayList" "DEFAULTCAPACITY_EMPTY_ELEMENTDATA" "[Ljava/lang/Object;") ∈ tb := tb_t1 42 rfl rfl
theorem w_44 : (Jvm.Cond.fieldLink "java/util/ArrayList" (9 : Nat) "java/util/ArrayList" "elementData" "[Ljava/lang/Object;") ∈ tb := tb_t1 44 rfl rfl
theorem w_45 : (Jvm.Cond.fieldLink "java/util/ArrayList" (48 : Nat) "java/util/ArrayList" "size" "I") ∈ tb := tb_t1 45 rfl rfl
theorem w_46 : (Jvm.Cond.fieldLink "java/util/AbstractList" (7 : Nat) "java/util/AbstractList" "modCount" "I") ∈ tb := tb_t1 46 rfl rfl
theorem w_47 : (Jvm.Cond.fieldLink "java/util/ArrayList" (63 : Nat) "java/util/ArrayList" "modCount" "I") ∈ tb := tb_t1 47 rfl rfl
theorem w_48 : (Jvm.Cond.sameField "java/util/ArrayList" "java/util/AbstractList" "modCount" "I") ∈ tb := tb_t1 48 rfl rfl
theorem w_49 : (Jvm.Cond.lays "java/util/ArrayList" "java/util/ArrayList" "elementData" "[Ljava/lang/Object;") ∈ tb := tb_t1 49 rfl rfl
theorem w_50 : (Jvm.Cond.soleField "java/util/ArrayList" "elementData") ∈ tb := tb_t1 50 rfl rfl
theorem w_51 : (Jvm.Cond.lays "java/util/ArrayList" "java/util/ArrayList" "size" "I") ∈ tb := tb_t1 51 rfl rfl
theorem w_52 : (Jvm.Cond.soleField "java/util/ArrayList" "size") ∈ tb := tb_t1 52 rfl rfl
theorem w_53 : (Jvm.Cond.lays "java/util/ArrayList" "java/util/AbstractList" "modCount" "I") ∈ tb := tb_t1 53 rfl rfl
theorem w_54 : (Jvm.Cond.soleField "java/util/AbstractList" "modCount") ∈ tb := tb_t1 54 rfl rfl
theorem w_55 : (Jvm.Cond.superclass "java/util/ArrayList" "java/util/AbstractList") ∈ tb := tb_t1 55 rfl rfl
theorem w_56 : (Jvm.Cond.classLink "RetentionVault" (16 : Nat) "RetentionVault$Rule") ∈ tb := tb_t1 56 rfl rfl
theorem w_58 : (Jvm.Cond.instantiable "RetentionVault$Rule" (4 : Nat)) ∈ tb := tb_t1 58 rfl rfl
theorem w_60 : (Jvm.Cond.instanceMethod ({ cls := "RetentionVault$Rule", name := "<init>", desc := "()V" } : Jvm.MethodName)) ∈ tb := tb_t1 60 rfl rfl
theorem w_61 : (Jvm.Cond.code ({ cls := "RetentionVault$Rule", name := "<init>", desc := "()V" } : Jvm.MethodName) prog_3_method_1_code (1 : Nat) (Option.none : Option Jvm.ClassFile.FieldType)) ∈ tb := tb_t1 61 rfl rfl
theorem w_62 : (Jvm.Cond.methodLink "RetentionVault$Rule" (3 : Nat) ({ cls := "java/lang/Object", name := "<init>", desc := "()V" } : Jvm.MethodName)) ∈ tb := tb_t1 62 rfl rfl
theorem w_63 : (Jvm.Cond.fieldLink "RetentionVault$Rule" (9 : Nat) "RetentionVault$Rule" "tag" "I") ∈ tb := tb_t1 63 rfl rfl
theorem w_64 : (Jvm.Cond.fieldLink "RetentionVault$Rule" (15 : Nat) "RetentionVault$Rule" "forCurrent" "Z") ∈ tb := tb_t1 64 rfl rfl
theorem w_65 : (Jvm.Cond.fieldLink "RetentionVault$Rule" (19 : Nat) "RetentionVault$Rule" "days" "I") ∈ tb := tb_t1 65 rfl rfl
theorem w_66 : (Jvm.Cond.fieldLink "RetentionVault$Rule" (22 : Nat) "RetentionVault$Rule" "action" "I") ∈ tb := tb_t1 66 rfl rfl
theorem w_67 : (Jvm.Cond.fieldLink "RetentionVault" (123 : Nat) "RetentionVault$Rule" "action" "I") ∈ tb := tb_t1 67 rfl rfl
theorem w_68 : (Jvm.Cond.lays "RetentionVault$Rule" "RetentionVault$Rule" "tag" "I") ∈ tb := tb_t1 68 rfl rfl
theorem w_69 : (Jvm.Cond.soleField "RetentionVault$Rule" "tag") ∈ tb := tb_t1 69 rfl rfl
theorem w_70 : (Jvm.Cond.lays "RetentionVault$Rule" "RetentionVault$Rule" "forCurrent" "Z") ∈ tb := tb_t1 70 rfl rfl
theorem w_71 : (Jvm.Cond.soleField "RetentionVault$Rule" "forCurrent") ∈ tb := tb_t1 71 rfl rfl
theorem w_72 : (Jvm.Cond.lays "RetentionVault$Rule" "RetentionVault$Rule" "days" "I") ∈ tb := tb_t1 72 rfl rfl
theorem w_73 : (Jvm.Cond.soleField "RetentionVault$Rule" "days") ∈ tb := tb_t1 73 rfl rfl
theorem w_74 : (Jvm.Cond.lays "RetentionVault$Rule" "RetentionVault$Rule" "action" "I") ∈ tb := tb_t1 74 rfl rfl
theorem w_75 : (Jvm.Cond.soleField "RetentionVault$Rule" "action") ∈ tb := tb_t1 75 rfl rfl
theorem w_76 : (Jvm.Cond.superclass "RetentionVault$Rule" "java/lang/Object") ∈ tb := tb_t1 76 rfl rfl
theorem w_77 : (Jvm.Cond.classLink "RetentionVault" (23 : Nat) "RetentionVault$Log") ∈ tb := tb_t1 77 rfl rfl
theorem w_78 : (Jvm.Cond.instantiable "RetentionVault$Log" (3 : Nat)) ∈ tb := tb_t1 78 rfl rfl
theorem w_80 : (Jvm.Cond.instanceMethod ({ cls := "RetentionVault$Log", name := "<init>", desc := "()V" } : Jvm.MethodName)) ∈ tb := tb_t1 80 rfl rfl
theorem w_81 : (Jvm.Cond.code ({ cls := "RetentionVault$Log", name := "<init>", desc := "()V" } : Jvm.MethodName) prog_2_method_1_code (1 : Nat) (Option.none : Option Jvm.ClassFile.FieldType)) ∈ tb := tb_t1 81 rfl rfl
theorem w_82 : (Jvm.Cond.methodLink "RetentionVault$Log" (1 : Nat) ({ cls := "java/lang/Object", name := "<init>", desc := "()V" } : Jvm.MethodName)) ∈ tb := tb_t1 82 rfl rfl
theorem w_83 : (Jvm.Cond.constantLong "RetentionVault$Log" (13 : Nat) (7 : Int64)) ∈ tb := tb_t1 83 rfl rfl
theorem w_84 : (Jvm.Cond.fieldLink "RetentionVault$Log" (9 : Nat) "RetentionVault$Log" "ring" "[I") ∈ tb := tb_t1 84 rfl rfl
theorem w_85 : (Jvm.Cond.fieldLink "RetentionVault$Log" (19 : Nat) "RetentionVault$Log" "written" "I") ∈ tb := tb_t1 85 rfl rfl
theorem w_86 : (Jvm.Cond.fieldLink "RetentionVault" (148 : Nat) "RetentionVault$Log" "written" "I") ∈ tb := tb_t1 86 rfl rfl
theorem w_87 : (Jvm.Cond.fieldLink "RetentionVault$Log" (15 : Nat) "RetentionVault$Log" "chain" "J") ∈ tb := tb_t1 87 rfl rfl
theorem w_88 : (Jvm.Cond.fieldLink "RetentionVault" (184 : Nat) "RetentionVault$Log" "chain" "J") ∈ tb := tb_t1 88 rfl rfl
theorem w_89 : (Jvm.Cond.laysFinal "RetentionVault$Log" "RetentionVault$Log" "ring" "[I") ∈ tb := tb_t1 89 rfl rfl
theorem w_90 : (Jvm.Cond.soleField "RetentionVault$Log" "ring") ∈ tb := tb_t1 90 rfl rfl
theorem w_91 : (Jvm.Cond.lays "RetentionVault$Log" "RetentionVault$Log" "written" "I") ∈ tb := tb_t1 91 rfl rfl
theorem w_92 : (Jvm.Cond.soleField "RetentionVault$Log" "written") ∈ tb := tb_t1 92 rfl rfl
theorem w_93 : (Jvm.Cond.lays "RetentionVault$Log" "RetentionVault$Log" "chain" "J") ∈ tb := tb_t1 93 rfl rfl
theorem w_94 : (Jvm.Cond.soleField "RetentionVault$Log" "chain") ∈ tb := tb_t1 94 rfl rfl
theorem w_95 : (Jvm.Cond.superclass "RetentionVault$Log" "java/lang/Object") ∈ tb := tb_t1 95 rfl rfl
theorem w_96 : (Jvm.Cond.arrayClass Jvm.ClassFile.FieldType.int) ∈ tb := tb_t1 96 rfl rfl
theorem w_97 : (Jvm.Cond.fieldLink "RetentionVault" (10 : Nat) "RetentionVault" "versions" "Ljava/util/ArrayList;") ∈ tb := tb_t1 97 rfl rfl
theorem w_98 : (Jvm.Cond.fieldLink "RetentionVault" (18 : Nat) "RetentionVault" "rules" "[LRetentionVault$Rule;") ∈ tb := tb_t1 98 rfl rfl
theorem w_99 : (Jvm.Cond.fieldLink "RetentionVault" (26 : Nat) "RetentionVault" "log" "LRetentionVault$Log;") ∈ tb := tb_t1 99 rfl rfl
theorem w_100 : (Jvm.Cond.fieldLink "RetentionVault" (48 : Nat) "RetentionVault" "day" "I") ∈ tb := tb_t1 100 rfl rfl
theorem w_101 : (Jvm.Cond.fieldLink "RetentionVault" (44 : Nat) "RetentionVault" "everPut" "I") ∈ tb := tb_t1 101 rfl rfl
theorem w_102 : (Jvm.Cond.laysFinal "RetentionVault" "RetentionVault" "versions" "Ljava/util/ArrayList;") ∈ tb := tb_t1 102 rfl rfl
theorem w_103 : (Jvm.Cond.soleField "RetentionVault" "versions") ∈ tb := tb_t1 103 rfl rfl
theorem w_104 : (Jvm.Cond.laysFinal "RetentionVault" "RetentionVault" "rules" "[LRetentionVault$Rule;") ∈ tb := tb_t1 104 rfl rfl
theorem w_105 : (Jvm.Cond.soleField "RetentionVault" "rules") ∈ tb := tb_t1 105 rfl rfl
theorem w_106 : (Jvm.Cond.laysFinal "RetentionVault" "RetentionVault" "log" "LRetentionVault$Log;") ∈ tb := tb_t1 106 rfl rfl
theorem w_107 : (Jvm.Cond.soleField "RetentionVault" "log") ∈ tb := tb_t1 107 rfl rfl
theorem w_108 : (Jvm.Cond.lays "RetentionVault" "RetentionVault" "day" "I") ∈ tb := tb_t1 108 rfl rfl
theorem w_109 : (Jvm.Cond.soleField "RetentionVault" "day") ∈ tb := tb_t1 109 rfl rfl
theorem w_110 : (Jvm.Cond.lays "RetentionVault" "RetentionVault" "everPut" "I") ∈ tb := tb_t1 110 rfl rfl
theorem w_111 : (Jvm.Cond.soleField "RetentionVault" "everPut") ∈ tb := tb_t1 111 rfl rfl
theorem w_112 : (Jvm.Cond.superclass "RetentionVault" "java/lang/Object") ∈ tb := tb_t1 112 rfl rfl
theorem w_113 : (Jvm.Cond.methodLink "RetentionVaultLaw" (123 : Nat) ({ cls := "RetentionVault", name := "link", desc := "()J" } : Jvm.MethodName)) ∈ tb := tb_t1 113 rfl rfl
theorem w_114 : (Jvm.Cond.instanceMethod ({ cls := "RetentionVault", name := "link", desc := "()J" } : Jvm.MethodName)) ∈ tb := tb_t1 114 rfl rfl
theorem w_115 : (Jvm.Cond.selects "RetentionVault" ({ cls := "RetentionVault", name := "link", desc := "()J" } : Jvm.MethodName) ({ cls := "RetentionVault", name := "link", desc := "()J" } : Jvm.MethodName)) ∈ tb := tb_t1 115 rfl rfl
theorem w_116 : (Jvm.Cond.code ({ cls := "RetentionVault", name := "link", desc := "()J" } : Jvm.MethodName) prog_1_method_15_code (1 : Nat) (Option.some Jvm.ClassFile.FieldType.long)) ∈ tb := tb_t1 116 rfl rfl
theorem w_117 : (Jvm.Cond.methodLink "RetentionVaultLaw" (71 : Nat) ({ cls := "RetentionVaultLaw", name := "put", desc := "(LRetentionVault;III[J)I" } : Jvm.MethodName)) ∈ tb := tb_t1 117 rfl rfl
theorem w_118 : (Jvm.Cond.static ({ cls := "RetentionVaultLaw", name := "put", desc := "(LRetentionVault;III[J)I" } : Jvm.MethodName)) ∈ tb := tb_t1 118 rfl rfl
theorem w_119 : (Jvm.Cond.codeWith ({ cls := "RetentionVaultLaw", name := "put", desc := "(LRetentionVault;III[J)I" } : Jvm.MethodName) method_3_code (6 : Nat) (Option.some Jvm.ClassFile.FieldType.int) [((0 : Nat), (12 : Nat), (15 : Nat), (13 : Nat)), ((0 : Nat), (12 : Nat), (19 : Nat), (15 : Nat))]) ∈ tb := tb_t1 119 rfl rfl
theorem w_120 : (Jvm.Cond.classLink "RetentionVaultLaw" (13 : Nat) "java/lang/IllegalArgumentException") ∈ tb := tb_t1 120 rfl rfl
theorem w_121 : (Jvm.Cond.classLink "RetentionVaultLaw" (15 : Nat) "java/lang/IllegalStateException") ∈ tb := tb_t1 121 rfl rfl
theorem w_122 : (Jvm.Cond.methodLink "RetentionVaultLaw" (7 : Nat) ({ cls := "RetentionVault", name := "put", desc := "(III)I" } : Jvm.MethodName)) ∈ tb := tb_t1 122 rfl rfl
theorem w_123 : (Jvm.Cond.instanceMethod ({ cls := "RetentionVault", name := "put", desc := "(III)I" } : Jvm.MethodName)) ∈ tb := tb_t1 123 rfl rfl
theorem w_124 : (Jvm.Cond.selects "RetentionVault" ({ cls := "RetentionVault", name := "put", desc := "(III)I" } : Jvm.MethodName) ({ cls := "RetentionVault", name := "put", desc := "(III)I" } : Jvm.MethodName)) ∈ tb := tb_t1 124 rfl rfl
theorem w_125 : (Jvm.Cond.code ({ cls := "RetentionVault", name := "put", desc := "(III)I" } : Jvm.MethodName) prog_1_method_2_code (5 : Nat) (Option.some Jvm.ClassFile.FieldType.int)) ∈ tb := tb_t1 125 rfl rfl
theorem w_126 : (Jvm.Cond.constant "RetentionVault" (30 : Nat) (1000000 : Int32)) ∈ tb := tb_t1 126 rfl rfl
theorem w_127 : (Jvm.Cond.methodLink "RetentionVault" (31 : Nat) ({ cls := "RetentionVault", name := "isWithin", desc := "(III)Z" } : Jvm.MethodName)) ∈ tb := tb_t1 127 rfl rfl
theorem w_128 : (Jvm.Cond.static ({ cls := "RetentionVault", name := "isWithin", desc := "(III)Z" } : Jvm.MethodName)) ∈ tb := tb_t1 128 rfl rfl
theorem w_129 : (Jvm.Cond.code ({ cls := "RetentionVault", name := "isWithin", desc := "(III)Z" } : Jvm.MethodName) prog_1_method_17_code (3 : Nat) (Option.some Jvm.ClassFile.FieldType.boolean)) ∈ tb := tb_t1 129 rfl rfl
theorem w_130 : (Jvm.Cond.methodLink "RetentionVault" (35 : Nat) ({ cls := "RetentionVault", name := "demand", desc := "(Z)V" } : Jvm.MethodName)) ∈ tb := tb_t1 130 rfl rfl
theorem w_131 : (Jvm.Cond.static ({ cls := "RetentionVault", name := "demand", desc := "(Z)V" } : Jvm.MethodName)) ∈ tb := tb_t1 131 rfl rfl
theorem w_132 : (Jvm.Cond.code ({ cls := "RetentionVault", name := "demand", desc := "(Z)V" } : Jvm.MethodName) prog_1_method_18_code (1 : Nat) (Option.none : Option Jvm.ClassFile.FieldType)) ∈ tb := tb_t1 132 rfl rfl
theorem w_133 : (Jvm.Cond.classLink "RetentionVault" (167 : Nat) "java/lang/IllegalArgumentException") ∈ tb := tb_t1 133 rfl rfl
theorem w_134 : (Jvm.Cond.instantiable "java/lang/IllegalArgumentException" (6 : Nat)) ∈ tb := tb_t1 134 rfl rfl
theorem w_142 : (Jvm.Cond.selects "java/lang/IllegalArgumentException" ({ cls := "java/lang/Throwable", name := "fillInStackTrace", desc := "(I)Ljava/lang/Throwable;" } : Jvm.MethodName) ({ cls := "java/lang/Throwable", name := "fillInStackTrace", desc := "(I)Ljava/lang/Throwable;" } : Jvm.MethodName)) ∈ tb := tb_t1 142 rfl rfl
theorem w_143 : (Jvm.Cond.selects "java/lang/IllegalArgumentException" ({ cls := "java/lang/Throwable", name := "fillInStackTrace", desc := "()Ljava/lang/Throwable;" } : Jvm.MethodName) ({ cls := "java/lang/Throwable", name := "fillInStackTrace", desc := "()Ljava/lang/Throwable;" } : Jvm.MethodName)) ∈ tb := tb_t1 143 rfl rfl
theorem w_144 : (Jvm.Cond.lays "java/lang/IllegalArgumentException" "java/lang/Throwable" "cause" "Ljava/lang/Throwable;") ∈ tb := tb_t1 144 rfl rfl
theorem w_145 : (Jvm.Cond.lays "java/lang/Throwable" "java/lang/Throwable" "cause" "Ljava/lang/Throwable;") ∈ tb := tb_t1 145 rfl rfl
theorem w_146 : (Jvm.Cond.lays "java/lang/IllegalArgumentException" "java/lang/Throwable" "stackTrace" "[Ljava/lang/StackTraceElement;") ∈ tb := tb_t1 146 rfl rfl
theorem w_147 : (Jvm.Cond.lays "java/lang/Throwable" "java/lang/Throwable" "stackTrace" "[Ljava/lang/StackTraceElement;") ∈ tb := tb_t1 147 rfl rfl
theorem w_148 : (Jvm.Cond.lays "java/lang/IllegalArgumentException" "java/lang/Throwable" "suppressedExceptions" "Ljava/util/List;") ∈ tb := tb_t1 148 rfl rfl
theorem w_149 : (Jvm.Cond.lays "java/lang/Throwable" "java/lang/Throwable" "suppressedExceptions" "Ljava/util/List;") ∈ tb := tb_t1 149 rfl rfl
theorem w_150 : (Jvm.Cond.lays "java/lang/IllegalArgumentException" "java/lang/Throwable" "detailMessage" "Ljava/lang/String;") ∈ tb := tb_t1 150 rfl rfl
theorem w_151 : (Jvm.Cond.lays "java/lang/Throwable" "java/lang/Throwable" "detailMessage" "Ljava/lang/String;") ∈ tb := tb_t1 151 rfl rfl
theorem w_152 : (Jvm.Cond.lays "java/lang/IllegalArgumentException" "java/lang/Throwable" "backtrace" "Ljava/lang/Object;") ∈ tb := tb_t1 152 rfl rfl
theorem w_153 : (Jvm.Cond.lays "java/lang/Throwable" "java/lang/Throwable" "backtrace" "Ljava/lang/Object;") ∈ tb := tb_t1 153 rfl rfl
theorem w_154 : (Jvm.Cond.fieldLink "java/lang/Throwable" (198 : Nat) "java/lang/Throwable" "backtrace" "Ljava/lang/Object;") ∈ tb := tb_t1 154 rfl rfl
theorem w_155 : (Jvm.Cond.superclass "java/lang/Throwable" "java/lang/Object") ∈ tb := tb_t1 155 rfl rfl
theorem w_156 : (Jvm.Cond.instanceMethod ({ cls := "java/lang/Throwable", name := "<init>", desc := "()V" } : Jvm.MethodName)) ∈ tb := tb_t1 156 rfl rfl
theorem w_157 : (Jvm.Cond.code ({ cls := "java/lang/Throwable", name := "<init>", desc := "()V" } : Jvm.MethodName) prog_18_method_1_code (1 : Nat) (Option.none : Option Jvm.ClassFile.FieldType)) ∈ tb := tb_t1 157 rfl rfl
theorem w_158 : (Jvm.Cond.methodLink "java/lang/Throwable" (1 : Nat) ({ cls := "java/lang/Object", name := "<init>", desc := "()V" } : Jvm.MethodName)) ∈ tb := tb_t1 158 rfl rfl
theorem w_159 : (Jvm.Cond.fieldLink "java/lang/Throwable" (13 : Nat) "java/lang/Throwable" "UNASSIGNED_STACK" "[Ljava/lang/StackTraceElement;") ∈ tb := tb_t1 159 rfl rfl
theorem w_161 : (Jvm.Cond.fieldLink "java/lang/Throwable" (20 : Nat) "java/lang/Throwable" "SUPPRESSED_SENTINEL" "Ljava/util/List;") ∈ tb := tb_t1 161 rfl rfl
theorem w_163 : (Jvm.Cond.methodLink "java/lang/Throwable" (27 : Nat) ({ cls := "java/lang/Throwable", name := "fillInStackTrace", desc := "()Ljava/lang/Throwable;" } : Jvm.MethodName)) ∈ tb := tb_t1 163 rfl rfl
theorem w_164 : (Jvm.Cond.instanceMethod ({ cls := "java/lang/Throwable", name := "fillInStackTrace", desc := "()Ljava/lang/Throwable;" } : Jvm.MethodName)) ∈ tb := tb_t1 164 rfl rfl
theorem w_165 : (Jvm.Cond.sameMethod "java/lang/Throwable" "java/lang/Throwable" "fillInStackTrace" "()Ljava/lang/Throwable;") ∈ tb := tb_t1 165 rfl rfl
theorem w_166 : (Jvm.Cond.selects "java/lang/IllegalStateException" ({ cls := "java/lang/Throwable", name := "fillInStackTrace", desc := "()Ljava/lang/Throwable;" } : Jvm.MethodName) ({ cls := "java/lang/Throwable", name := "fillInStackTrace", desc := "()Ljava/lang/Throwable;" } : Jvm.MethodName)) ∈ tb := tb_t1 166 rfl rfl
theorem w_167 : (Jvm.Cond.selects "java/lang/IndexOutOfBoundsException" ({ cls := "java/lang/Throwable", name := "fillInStackTrace", desc := "()Ljava/lang/Throwable;" } : Jvm.MethodName) ({ cls := "java/lang/Throwable", name := "fillInStackTrace", desc := "()Ljava/lang/Throwable;" } : Jvm.MethodName)) ∈ tb := tb_t1 167 rfl rfl
theorem w_168 : (Jvm.Cond.selects "java/util/NoSuchElementException" ({ cls := "java/lang/Throwable", name := "fillInStackTrace", desc := "()Ljava/lang/Throwable;" } : Jvm.MethodName) ({ cls := "java/lang/Throwable", name := "fillInStackTrace", desc := "()Ljava/lang/Throwable;" } : Jvm.MethodName)) ∈ tb := tb_t1 168 rfl rfl
theorem w_169 : (Jvm.Cond.codeSync ({ cls := "java/lang/Throwable", name := "fillInStackTrace", desc := "()Ljava/lang/Throwable;" } : Jvm.MethodName) prog_18_method_18_code (1 : Nat) (Option.some (Jvm.ClassFile.FieldType.object "java/lang/Throwable"))) ∈ tb := tb_t1 169 rfl rfl
theorem w_170 : (Jvm.Cond.methodLink "java/lang/Throwable" (202 : Nat) ({ cls := "java/lang/Throwable", name := "fillInStackTrace", desc := "(I)Ljava/lang/Throwable;" } : Jvm.MethodName)) ∈ tb := tb_t1 170 rfl rfl
theorem w_172 : (Jvm.Cond.instanceMethod ({ cls := "java/lang/Throwable", name := "fillInStackTrace", desc := "(I)Ljava/lang/Throwable;" } : Jvm.MethodName)) ∈ tb := tb_t1 172 rfl rfl
theorem w_173 : (Jvm.Cond.instantiable "java/lang/Throwable" (6 : Nat)) ∈ tb := tb_t1 173 rfl rfl
theorem w_174 : (Jvm.Cond.native ({ cls := "java/lang/Throwable", name := "fillInStackTrace", desc := "(I)Ljava/lang/Throwable;" } : Jvm.MethodName)) ∈ tb := tb_t1 174 rfl rfl
theorem w_176 : (Jvm.Cond.methodLink "RetentionVault" (171 : Nat) ({ cls := "java/lang/IllegalArgumentException", name := "<init>", desc := "(Ljava/lang/String;)V" } : Jvm.MethodName)) ∈ tb := tb_t1 176 rfl rfl
theorem w_177 : (Jvm.Cond.instanceMethod ({ cls := "java/lang/IllegalArgumentException", name := "<init>", desc := "(Ljava/lang/String;)V" } : Jvm.MethodName)) ∈ tb := tb_t1 177 rfl rfl
theorem w_178 : (Jvm.Cond.code ({ cls := "java/lang/IllegalArgumentException", name := "<init>", desc := "(Ljava/lang/String;)V" } : Jvm.MethodName) prog_10_method_2_code (2 : Nat) (Option.none : Option Jvm.ClassFile.FieldType)) ∈ tb := tb_t1 178 rfl rfl
theorem w_179 : (Jvm.Cond.methodLink "java/lang/IllegalArgumentException" (7 : Nat) ({ cls := "java/lang/RuntimeException", name := "<init>", desc := "(Ljava/lang/String;)V" } : Jvm.MethodName)) ∈ tb := tb_t1 179 rfl rfl
theorem w_180 : (Jvm.Cond.instanceMethod ({ cls := "java/lang/RuntimeException", name := "<init>", desc := "(Ljava/lang/String;)V" } : Jvm.MethodName)) ∈ tb := tb_t1 180 rfl rfl
theorem w_181 : (Jvm.Cond.code ({ cls := "java/lang/RuntimeException", name := "<init>", desc := "(Ljava/lang/String;)V" } : Jvm.MethodName) prog_15_method_2_code (2 : Nat) (Option.none : Option Jvm.ClassFile.FieldType)) ∈ tb := tb_t1 181 rfl rfl
theorem w_182 : (Jvm.Cond.methodLink "java/lang/RuntimeException" (7 : Nat) ({ cls := "java/lang/Exception", name := "<init>", desc := "(Ljava/lang/String;)V" } : Jvm.MethodName)) ∈ tb := tb_t1 182 rfl rfl
theorem w_183 : (Jvm.Cond.instanceMethod ({ cls := "java/lang/Exception", name := "<init>", desc := "(Ljava/lang/String;)V" } : Jvm.MethodName)) ∈ tb := tb_t1 183 rfl rfl
theorem w_184 : (Jvm.Cond.code ({ cls := "java/lang/Exception", name := "<init>", desc := "(Ljava/lang/String;)V" } : Jvm.MethodName) prog_9_method_2_code (2 : Nat) (Option.none : Option Jvm.ClassFile.FieldType)) ∈ tb := tb_t1 184 rfl rfl
theorem w_185 : (Jvm.Cond.methodLink "java/lang/Exception" (7 : Nat) ({ cls := "java/lang/Throwable", name := "<init>", desc := "(Ljava/lang/String;)V" } : Jvm.MethodName)) ∈ tb := tb_t1 185 rfl rfl
theorem w_186 : (Jvm.Cond.instanceMethod ({ cls := "java/lang/Throwable", name := "<init>", desc := "(Ljava/lang/String;)V" } : Jvm.MethodName)) ∈ tb := tb_t1 186 rfl rfl
theorem w_187 : (Jvm.Cond.code ({ cls := "java/lang/Throwable", name := "<init>", desc := "(Ljava/lang/String;)V" } : Jvm.MethodName) prog_18_method_2_code (2 : Nat) (Option.none : Option Jvm.ClassFile.FieldType)) ∈ tb := tb_t1 187 rfl rfl
theorem w_188 : (Jvm.Cond.fieldLink "java/lang/Throwable" (198 : Nat) "java/lang/Throwable" "backtrace" "Ljava/lang/Object;") ∈ tb := tb_t1 188 rfl rfl
theorem w_189 : (Jvm.Cond.fieldLink "java/lang/Throwable" (31 : Nat) "java/lang/Throwable" "detailMessage" "Ljava/lang/String;") ∈ tb := tb_t1 189 rfl rfl
theorem w_190 : (Jvm.Cond.fieldLink "java/lang/Throwable" (7 : Nat) "java/lang/Throwable" "cause" "Ljava/lang/Throwable;") ∈ tb := tb_t1 190 rfl rfl
theorem w_191 : (Jvm.Cond.fieldLink "java/lang/Throwable" (17 : Nat) "java/lang/Throwable" "stackTrace" "[Ljava/lang/StackTraceElement;") ∈ tb := tb_t1 191 rfl rfl
theorem w_192 : (Jvm.Cond.fieldLink "java/lang/Throwable" (24 : Nat) "java/lang/Throwable" "suppressedExceptions" "Ljava/util/List;") ∈ tb := tb_t1 192 rfl rfl
theorem w_193 : (Jvm.Cond.soleField "java/lang/Throwable" "backtrace") ∈ tb := tb_t1 193 rfl rfl
theorem w_194 : (Jvm.Cond.soleField "java/lang/Throwable" "detailMessage") ∈ tb := tb_t1 194 rfl rfl
theorem w_195 : (Jvm.Cond.soleField "java/lang/Throwable" "cause") ∈ tb := tb_t1 195 rfl rfl
theorem w_196 : (Jvm.Cond.soleField "java/lang/Throwable" "stackTrace") ∈ tb := tb_t1 196 rfl rfl
theorem w_197 : (Jvm.Cond.lays "java/lang/IllegalArgumentException" "java/lang/Throwable" "depth" "I") ∈ tb := tb_t1 197 rfl rfl
theorem w_198 : (Jvm.Cond.soleField "java/lang/Throwable" "depth") ∈ tb := tb_t1 198 rfl rfl
theorem w_199 : (Jvm.Cond.soleField "java/lang/Throwable" "suppressedExceptions") ∈ tb := tb_t1 199 rfl rfl
theorem w_200 : (Jvm.Cond.superclass "java/lang/IllegalArgumentException" "java/lang/RuntimeException") ∈ tb := tb_t1 200 rfl rfl
theorem w_201 : (Jvm.Cond.arrayClass Jvm.ClassFile.FieldType.byte) ∈ tb := tb_t1 201 rfl rfl
theorem w_202 : (Jvm.Cond.methodLink "RetentionVault" (39 : Nat) ({ cls := "RetentionVault", name := "demandRoom", desc := "()V" } : Jvm.MethodName)) ∈ tb := tb_t1 202 rfl rfl
theorem w_204 : (Jvm.Cond.instanceMethod ({ cls := "RetentionVault", name := "demandRoom", desc := "()V" } : Jvm.MethodName)) ∈ tb := tb_t1 204 rfl rfl
theorem w_205 : (Jvm.Cond.code ({ cls := "RetentionVault", name := "demandRoom", desc := "()V" } : Jvm.MethodName) prog_1_method_19_code (1 : Nat) (Option.none : Option Jvm.ClassFile.FieldType)) ∈ tb := tb_t1 205 rfl rfl
theorem w_206 : (Jvm.Cond.methodLink "RetentionVault" (200 : Nat) ({ cls := "RetentionVault", name := "isFull", desc := "()Z" } : Jvm.MethodName)) ∈ tb := tb_t1 206 rfl rfl
theorem w_208 : (Jvm.Cond.instanceMethod ({ cls := "RetentionVault", name := "isFull", desc := "()Z" } : Jvm.MethodName)) ∈ tb := tb_t1 208 rfl rfl
theorem w_209 : (Jvm.Cond.code ({ cls := "RetentionVault", name := "isFull", desc := "()Z" } : Jvm.MethodName) prog_1_method_20_code (1 : Nat) (Option.some Jvm.ClassFile.FieldType.boolean)) ∈ tb := tb_t1 209 rfl rfl
theorem w_210 : (Jvm.Cond.methodLink "RetentionVault" (188 : Nat) ({ cls := "java/util/ArrayList", name := "size", desc := "()I" } : Jvm.MethodName)) ∈ tb := tb_t1 210 rfl rfl
theorem w_211 : (Jvm.Cond.instanceMethod ({ cls := "java/util/ArrayList", name := "size", desc := "()I" } : Jvm.MethodName)) ∈ tb := tb_t1 211 rfl rfl
theorem w_212 : (Jvm.Cond.selects "java/util/ArrayList" ({ cls := "java/util/ArrayList", name := "size", desc := "()I" } : Jvm.MethodName) ({ cls := "java/util/ArrayList", name := "size", desc := "()I" } : Jvm.MethodName)) ∈ tb := tb_t1 212 rfl rfl
theorem w_213 : (Jvm.Cond.code ({ cls := "java/util/ArrayList", name := "size", desc := "()I" } : Jvm.MethodName) prog_21_method_8_code (1 : Nat) (Option.some Jvm.ClassFile.FieldType.int)) ∈ tb := tb_t1 213 rfl rfl
theorem w_214 : (Jvm.Cond.classLink "RetentionVault" (80 : Nat) "java/lang/IllegalStateException") ∈ tb := tb_t1 214 rfl rfl
theorem w_215 : (Jvm.Cond.instantiable "java/lang/IllegalStateException" (6 : Nat)) ∈ tb := tb_t1 215 rfl rfl
theorem w_217 : (Jvm.Cond.selects "java/lang/IllegalStateException" ({ cls := "java/lang/Throwable", name := "fillInStackTrace", desc := "(I)Ljava/lang/Throwable;" } : Jvm.MethodName) ({ cls := "java/lang/Throwable", name := "fillInStackTrace", desc := "(I)Ljava/lang/Throwable;" } : Jvm.MethodName)) ∈ tb := tb_t1 217 rfl rfl
theorem w_218 : (Jvm.Cond.lays "java/lang/IllegalStateException" "java/lang/Throwable" "cause" "Ljava/lang/Throwable;") ∈ tb := tb_t1 218 rfl rfl
theorem w_219 : (Jvm.Cond.lays "java/lang/IllegalStateException" "java/lang/Throwable" "stackTrace" "[Ljava/lang/StackTraceElement;") ∈ tb := tb_t1 219 rfl rfl
theorem w_220 : (Jvm.Cond.lays "java/lang/IllegalStateException" "java/lang/Throwable" "suppressedExceptions" "Ljava/util/List;") ∈ tb := tb_t1 220 rfl rfl
theorem w_221 : (Jvm.Cond.lays "java/lang/IllegalStateException" "java/lang/Throwable" "detailMessage" "Ljava/lang/String;") ∈ tb := tb_t1 221 rfl rfl
theorem w_222 : (Jvm.Cond.lays "java/lang/IllegalStateException" "java/lang/Throwable" "backtrace" "Ljava/lang/Object;") ∈ tb := tb_t1 222 rfl rfl
theorem w_224 : (Jvm.Cond.methodLink "RetentionVault" (84 : Nat) ({ cls := "java/lang/IllegalStateException", name := "<init>", desc := "(Ljava/lang/String;)V" } : Jvm.MethodName)) ∈ tb := tb_t1 224 rfl rfl
theorem w_225 : (Jvm.Cond.instanceMethod ({ cls := "java/lang/IllegalStateException", name := "<init>", desc := "(Ljava/lang/String;)V" } : Jvm.MethodName)) ∈ tb := tb_t1 225 rfl rfl
theorem w_226 : (Jvm.Cond.code ({ cls := "java/lang/IllegalStateException", name := "<init>", desc := "(Ljava/lang/String;)V" } : Jvm.MethodName) prog_11_method_2_code (2 : Nat) (Option.none : Option Jvm.ClassFile.FieldType)) ∈ tb := tb_t1 226 rfl rfl
theorem w_227 : (Jvm.Cond.methodLink "java/lang/IllegalStateException" (7 : Nat) ({ cls := "java/lang/RuntimeException", name := "<init>", desc := "(Ljava/lang/String;)V" } : Jvm.MethodName)) ∈ tb := tb_t1 227 rfl rfl
theorem w_228 : (Jvm.Cond.lays "java/lang/IllegalStateException" "java/lang/Throwable" "depth" "I") ∈ tb := tb_t1 228 rfl rfl
theorem w_229 : (Jvm.Cond.superclass "java/lang/IllegalStateException" "java/lang/RuntimeException") ∈ tb := tb_t1 229 rfl rfl
theorem w_230 : (Jvm.Cond.classLink "RetentionVault" (42 : Nat) "RetentionVault$Version") ∈ tb := tb_t1 230 rfl rfl
theorem w_231 : (Jvm.Cond.instantiable "RetentionVault$Version" (13 : Nat)) ∈ tb := tb_t1 231 rfl rfl
theorem w_232 : (Jvm.Cond.methodLink "RetentionVault" (51 : Nat) ({ cls := "RetentionVault$Version", name := "<init>", desc := "(III)V" } : Jvm.MethodName)) ∈ tb := tb_t1 232 rfl rfl
theorem w_233 : (Jvm.Cond.instanceMethod ({ cls := "RetentionVault$Version", name := "<init>", desc := "(III)V" } : Jvm.MethodName)) ∈ tb := tb_t1 233 rfl rfl
theorem w_234 : (Jvm.Cond.code ({ cls := "RetentionVault$Version", name := "<init>", desc := "(III)V" } : Jvm.MethodName) prog_4_method_1_code (4 : Nat) (Option.none : Option Jvm.ClassFile.FieldType)) ∈ tb := tb_t1 234 rfl rfl
theorem w_235 : (Jvm.Cond.methodLink "RetentionVault$Version" (3 : Nat) ({ cls := "java/lang/Object", name := "<init>", desc := "()V" } : Jvm.MethodName)) ∈ tb := tb_t1 235 rfl rfl
theorem w_236 : (Jvm.Cond.fieldLink "RetentionVault$Version" (9 : Nat) "RetentionVault$Version" "number" "I") ∈ tb := tb_t1 236 rfl rfl
theorem w_237 : (Jvm.Cond.fieldLink "RetentionVault" (106 : Nat) "RetentionVault$Version" "number" "I") ∈ tb := tb_t1 237 rfl rfl
theorem w_238 : (Jvm.Cond.fieldLink "RetentionVault$Version" (15 : Nat) "RetentionVault$Version" "key" "I") ∈ tb := tb_t1 238 rfl rfl
theorem w_239 : (Jvm.Cond.fieldLink "RetentionVault" (91 : Nat) "RetentionVault$Version" "key" "I") ∈ tb := tb_t1 239 rfl rfl
theorem w_240 : (Jvm.Cond.fieldLink "RetentionVault$Version" (18 : Nat) "RetentionVault$Version" "putDay" "I") ∈ tb := tb_t2 0 rfl rfl
theorem w_241 : (Jvm.Cond.fieldLink "RetentionVault$Version" (28 : Nat) "RetentionVault$Version" "size" "I") ∈ tb := tb_t2 1 rfl rfl
theorem w_242 : (Jvm.Cond.fieldLink "RetentionVault" (145 : Nat) "RetentionVault$Version" "size" "I") ∈ tb := tb_t2 2 rfl rfl
theorem w_243 : (Jvm.Cond.fieldLink "RetentionVault$Version" (31 : Nat) "RetentionVault$Version" "tag" "I") ∈ tb := tb_t2 3 rfl rfl
theorem w_244 : (Jvm.Cond.fieldLink "RetentionVault$Rule" (29 : Nat) "RetentionVault$Version" "tag" "I") ∈ tb := tb_t2 4 rfl rfl
theorem w_245 : (Jvm.Cond.fieldLink "RetentionVault$Version" (21 : Nat) "RetentionVault$Version" "tier" "I") ∈ tb := tb_t2 5 rfl rfl
theorem w_246 : (Jvm.Cond.fieldLink "RetentionVault" (131 : Nat) "RetentionVault$Version" "tier" "I") ∈ tb := tb_t2 6 rfl rfl
theorem w_247 : (Jvm.Cond.fieldLink "RetentionVault$Version" (24 : Nat) "RetentionVault$Version" "isCurrent" "Z") ∈ tb := tb_t2 7 rfl rfl
theorem w_248 : (Jvm.Cond.fieldLink "RetentionVault$Rule" (32 : Nat) "RetentionVault$Version" "isCurrent" "Z") ∈ tb := tb_t2 8 rfl rfl
theorem w_249 : (Jvm.Cond.fieldLink "RetentionVault" (161 : Nat) "RetentionVault$Version" "isCurrent" "Z") ∈ tb := tb_t2 9 rfl rfl
theorem w_250 : (Jvm.Cond.fieldLink "RetentionVault$Version" (34 : Nat) "RetentionVault$Version" "ceasedDay" "I") ∈ tb := tb_t2 10 rfl rfl
theorem w_251 : (Jvm.Cond.fieldLink "RetentionVault" (224 : Nat) "RetentionVault$Version" "ceasedDay" "I") ∈ tb := tb_t2 11 rfl rfl
theorem w_252 : (Jvm.Cond.fieldLink "RetentionVault" (97 : Nat) "RetentionVault$Version" "retainedUntil" "I") ∈ tb := tb_t2 12 rfl rfl
theorem w_253 : (Jvm.Cond.fieldLink "RetentionVault$Version" (40 : Nat) "RetentionVault$Version" "retainedUntil" "I") ∈ tb := tb_t2 13 rfl rfl
theorem w_254 : (Jvm.Cond.fieldLink "RetentionVault" (102 : Nat) "RetentionVault$Version" "strict" "Z") ∈ tb := tb_t2 14 rfl rfl
theorem w_255 : (Jvm.Cond.fieldLink "RetentionVault$Version" (43 : Nat) "RetentionVault$Version" "strict" "Z") ∈ tb := tb_t2 15 rfl rfl
theorem w_256 : (Jvm.Cond.fieldLink "RetentionVault$Version" (37 : Nat) "RetentionVault$Version" "holds" "I") ∈ tb := tb_t2 16 rfl rfl
theorem w_257 : (Jvm.Cond.fieldLink "RetentionVault" (113 : Nat) "RetentionVault$Version" "holds" "I") ∈ tb := tb_t2 17 rfl rfl
theorem w_258 : (Jvm.Cond.fieldLink "RetentionVault" (134 : Nat) "RetentionVault$Version" "readableFrom" "I") ∈ tb := tb_t2 18 rfl rfl
theorem w_259 : (Jvm.Cond.fieldLink "RetentionVault$Version" (54 : Nat) "RetentionVault$Version" "readableFrom" "I") ∈ tb := tb_t2 19 rfl rfl
theorem w_260 : (Jvm.Cond.fieldLink "RetentionVault" (137 : Nat) "RetentionVault$Version" "readableBefore" "I") ∈ tb := tb_t2 20 rfl rfl
theorem w_261 : (Jvm.Cond.fieldLink "RetentionVault$Version" (57 : Nat) "RetentionVault$Version" "readableBefore" "I") ∈ tb := tb_t2 21 rfl rfl
theorem w_262 : (Jvm.Cond.laysFinal "RetentionVault$Version" "RetentionVault$Version" "number" "I") ∈ tb := tb_t2 22 rfl rfl
theorem w_263 : (Jvm.Cond.soleField "RetentionVault$Version" "number") ∈ tb := tb_t2 23 rfl rfl
theorem w_264 : (Jvm.Cond.laysFinal "RetentionVault$Version" "RetentionVault$Version" "key" "I") ∈ tb := tb_t2 24 rfl rfl
theorem w_265 : (Jvm.Cond.soleField "RetentionVault$Version" "key") ∈ tb := tb_t2 25 rfl rfl
theorem w_266 : (Jvm.Cond.laysFinal "RetentionVault$Version" "RetentionVault$Version" "putDay" "I") ∈ tb := tb_t2 26 rfl rfl
theorem w_267 : (Jvm.Cond.soleField "RetentionVault$Version" "putDay") ∈ tb := tb_t2 27 rfl rfl
theorem w_268 : (Jvm.Cond.lays "RetentionVault$Version" "RetentionVault$Version" "size" "I") ∈ tb := tb_t2 28 rfl rfl
theorem w_269 : (Jvm.Cond.soleField "RetentionVault$Version" "size") ∈ tb := tb_t2 29 rfl rfl
theorem w_270 : (Jvm.Cond.lays "RetentionVault$Version" "RetentionVault$Version" "tag" "I") ∈ tb := tb_t2 30 rfl rfl
theorem w_271 : (Jvm.Cond.soleField "RetentionVault$Version" "tag") ∈ tb := tb_t2 31 rfl rfl
theorem w_272 : (Jvm.Cond.lays "RetentionVault$Version" "RetentionVault$Version" "tier" "I") ∈ tb := tb_t2 32 rfl rfl
theorem w_273 : (Jvm.Cond.soleField "RetentionVault$Version" "tier") ∈ tb := tb_t2 33 rfl rfl
theorem w_274 : (Jvm.Cond.lays "RetentionVault$Version" "RetentionVault$Version" "isCurrent" "Z") ∈ tb := tb_t2 34 rfl rfl
theorem w_275 : (Jvm.Cond.soleField "RetentionVault$Version" "isCurrent") ∈ tb := tb_t2 35 rfl rfl
theorem w_276 : (Jvm.Cond.lays "RetentionVault$Version" "RetentionVault$Version" "ceasedDay" "I") ∈ tb := tb_t2 36 rfl rfl
theorem w_277 : (Jvm.Cond.soleField "RetentionVault$Version" "ceasedDay") ∈ tb := tb_t2 37 rfl rfl
theorem w_278 : (Jvm.Cond.lays "RetentionVault$Version" "RetentionVault$Version" "retainedUntil" "I") ∈ tb := tb_t2 38 rfl rfl
theorem w_279 : (Jvm.Cond.soleField "RetentionVault$Version" "retainedUntil") ∈ tb := tb_t2 39 rfl rfl
theorem w_280 : (Jvm.Cond.lays "RetentionVault$Version" "RetentionVault$Version" "strict" "Z") ∈ tb := tb_t2 40 rfl rfl
theorem w_281 : (Jvm.Cond.soleField "RetentionVault$Version" "strict") ∈ tb := tb_t2 41 rfl rfl
theorem w_282 : (Jvm.Cond.lays "RetentionVault$Version" "RetentionVault$Version" "holds" "I") ∈ tb := tb_t2 42 rfl rfl
theorem w_283 : (Jvm.Cond.soleField "RetentionVault$Version" "holds") ∈ tb := tb_t2 43 rfl rfl
theorem w_284 : (Jvm.Cond.lays "RetentionVault$Version" "RetentionVault$Version" "readableFrom" "I") ∈ tb := tb_t2 44 rfl rfl
theorem w_285 : (Jvm.Cond.soleField "RetentionVault$Version" "readableFrom") ∈ tb := tb_t2 45 rfl rfl
theorem w_286 : (Jvm.Cond.lays "RetentionVault$Version" "RetentionVault$Version" "readableBefore" "I") ∈ tb := tb_t2 46 rfl rfl
theorem w_287 : (Jvm.Cond.soleField "RetentionVault$Version" "readableBefore") ∈ tb := tb_t2 47 rfl rfl
theorem w_288 : (Jvm.Cond.superclass "RetentionVault$Version" "java/lang/Object") ∈ tb := tb_t2 48 rfl rfl
theorem w_289 : (Jvm.Cond.methodLink "RetentionVault" (54 : Nat) ({ cls := "RetentionVault$Version", name := "makeObject", desc := "(II)V" } : Jvm.MethodName)) ∈ tb := tb_t2 49 rfl rfl
theorem w_290 : (Jvm.Cond.instanceMethod ({ cls := "RetentionVault$Version", name := "makeObject", desc := "(II)V" } : Jvm.MethodName)) ∈ tb := tb_t2 50 rfl rfl
theorem w_291 : (Jvm.Cond.selects "RetentionVault$Version" ({ cls := "RetentionVault$Version", name := "makeObject", desc := "(II)V" } : Jvm.MethodName) ({ cls := "RetentionVault$Version", name := "makeObject", desc := "(II)V" } : Jvm.MethodName)) ∈ tb := tb_t2 51 rfl rfl
theorem w_292 : (Jvm.Cond.code ({ cls := "RetentionVault$Version", name := "makeObject", desc := "(II)V" } : Jvm.MethodName) prog_4_method_2_code (3 : Nat) (Option.none : Option Jvm.ClassFile.FieldType)) ∈ tb := tb_t2 52 rfl rfl
theorem w_293 : (Jvm.Cond.methodLink "RetentionVault" (58 : Nat) ({ cls := "RetentionVault", name := "add", desc := "(LRetentionVault$Version;)I" } : Jvm.MethodName)) ∈ tb := tb_t2 53 rfl rfl
theorem w_295 : (Jvm.Cond.instanceMethod ({ cls := "RetentionVault", name := "add", desc := "(LRetentionVault$Version;)I" } : Jvm.MethodName)) ∈ tb := tb_t2 55 rfl rfl
theorem w_296 : (Jvm.Cond.code ({ cls := "RetentionVault", name := "add", desc := "(LRetentionVault$Version;)I" } : Jvm.MethodName) prog_1_method_25_code (3 : Nat) (Option.some Jvm.ClassFile.FieldType.int)) ∈ tb := tb_t2 56 rfl rfl
theorem w_297 : (Jvm.Cond.methodLink "RetentionVault" (219 : Nat) ({ cls := "RetentionVault", name := "latestOf", desc := "(I)LRetentionVault$Version;" } : Jvm.MethodName)) ∈ tb := tb_t2 57 rfl rfl
theorem w_299 : (Jvm.Cond.instanceMethod ({ cls := "RetentionVault", name := "latestOf", desc := "(I)LRetentionVault$Version;" } : Jvm.MethodName)) ∈ tb := tb_t2 59 rfl rfl
theorem w_300 : (Jvm.Cond.code ({ cls := "RetentionVault", name := "latestOf", desc := "(I)LRetentionVault$Version;" } : Jvm.MethodName) prog_1_method_24_code (4 : Nat) (Option.some (Jvm.ClassFile.FieldType.object "RetentionVault$Version"))) ∈ tb := tb_t2 60 rfl rfl
theorem w_301 : (Jvm.Cond.methodLink "RetentionVault" (205 : Nat) ({ cls := "java/util/ArrayList", name := "get", desc := "(I)Ljava/lang/Object;" } : Jvm.MethodName)) ∈ tb := tb_t2 61 rfl rfl
theorem w_302 : (Jvm.Cond.instanceMethod ({ cls := "java/util/ArrayList", name := "get", desc := "(I)Ljava/lang/Object;" } : Jvm.MethodName)) ∈ tb := tb_t2 62 rfl rfl
theorem w_303 : (Jvm.Cond.selects "java/util/ArrayList" ({ cls := "java/util/ArrayList", name := "get", desc := "(I)Ljava/lang/Object;" } : Jvm.MethodName) ({ cls := "java/util/ArrayList", name := "get", desc := "(I)Ljava/lang/Object;" } : Jvm.MethodName)) ∈ tb := tb_t2 63 rfl rfl
theorem w_304 : (Jvm.Cond.code ({ cls := "java/util/ArrayList", name := "get", desc := "(I)Ljava/lang/Object;" } : Jvm.MethodName) prog_21_method_20_code (2 : Nat) (Option.some (Jvm.ClassFile.FieldType.object "java/lang/Object"))) ∈ tb := tb_t2 64 rfl rfl
theorem w_305 : (Jvm.Cond.methodLink "java/util/ArrayList" (118 : Nat) ({ cls := "java/util/Objects", name := "checkIndex", desc := "(II)I" } : Jvm.MethodName)) ∈ tb := tb_t2 65 rfl rfl
theorem w_306 : (Jvm.Cond.static ({ cls := "java/util/Objects", name := "checkIndex", desc := "(II)I" } : Jvm.MethodName)) ∈ tb := tb_t2 66 rfl rfl
theorem w_307 : (Jvm.Cond.code ({ cls := "java/util/Objects", name := "checkIndex", desc := "(II)I" } : Jvm.MethodName) prog_26_method_17_code (2 : Nat) (Option.some Jvm.ClassFile.FieldType.int)) ∈ tb := tb_t2 67 rfl rfl
theorem w_308 : (Jvm.Cond.methodLink "java/util/Objects" (105 : Nat) ({ cls := "jdk/internal/util/Preconditions", name := "checkIndex", desc := "(IILjava/util/function/BiFunction;)I" } : Jvm.MethodName)) ∈ tb := tb_t2 68 rfl rfl
theorem w_309 : (Jvm.Cond.static ({ cls := "jdk/internal/util/Preconditions", name := "checkIndex", desc := "(IILjava/util/function/BiFunction;)I" } : Jvm.MethodName)) ∈ tb := tb_t2 69 rfl rfl
theorem w_310 : (Jvm.Cond.code ({ cls := "jdk/internal/util/Preconditions", name := "checkIndex", desc := "(IILjava/util/function/BiFunction;)I" } : Jvm.MethodName) prog_30_method_11_code (3 : Nat) (Option.some Jvm.ClassFile.FieldType.int)) ∈ tb := tb_t2 70 rfl rfl
theorem w_311 : (Jvm.Cond.methodLink "java/util/ArrayList" (123 : Nat) ({ cls := "java/util/ArrayList", name := "elementData", desc := "(I)Ljava/lang/Object;" } : Jvm.MethodName)) ∈ tb := tb_t2 71 rfl rfl
theorem w_312 : (Jvm.Cond.instanceMethod ({ cls := "java/util/ArrayList", name := "elementData", desc := "(I)Ljava/lang/Object;" } : Jvm.MethodName)) ∈ tb := tb_t2 72 rfl rfl
theorem w_313 : (Jvm.Cond.selects "java/util/ArrayList" ({ cls := "java/util/ArrayList", name := "elementData", desc := "(I)Ljava/lang/Object;" } : Jvm.MethodName) ({ cls := "java/util/ArrayList", name := "elementData", desc := "(I)Ljava/lang/Object;" } : Jvm.MethodName)) ∈ tb := tb_t2 73 rfl rfl
theorem w_314 : (Jvm.Cond.code ({ cls := "java/util/ArrayList", name := "elementData", desc := "(I)Ljava/lang/Object;" } : Jvm.MethodName) prog_21_method_18_code (2 : Nat) (Option.some (Jvm.ClassFile.FieldType.object "java/lang/Object"))) ∈ tb := tb_t2 74 rfl rfl
theorem w_315 : (Jvm.Cond.methodLink "RetentionVault" (227 : Nat) ({ cls := "java/util/ArrayList", name := "add", desc := "(Ljava/lang/Object;)Z" } : Jvm.MethodName)) ∈ tb := tb_t2 75 rfl rfl
theorem w_316 : (Jvm.Cond.instanceMethod ({ cls := "java/util/ArrayList", name := "add", desc := "(Ljava/lang/Object;)Z" } : Jvm.MethodName)) ∈ tb := tb_t2 76 rfl rfl
theorem w_317 : (Jvm.Cond.selects "java/util/ArrayList" ({ cls := "java/util/ArrayList", name := "add", desc := "(Ljava/lang/Object;)Z" } : Jvm.MethodName) ({ cls := "java/util/ArrayList", name := "add", desc := "(Ljava/lang/Object;)Z" } : Jvm.MethodName)) ∈ tb := tb_t2 77 rfl rfl
theorem w_318 : (Jvm.Cond.code ({ cls := "java/util/ArrayList", name := "add", desc := "(Ljava/lang/Object;)Z" } : Jvm.MethodName) prog_21_method_25_code (2 : Nat) (Option.some Jvm.ClassFile.FieldType.boolean)) ∈ tb := tb_t2 78 rfl rfl
theorem w_319 : (Jvm.Cond.methodLink "java/util/ArrayList" (131 : Nat) ({ cls := "java/util/ArrayList", name := "add", desc := "(Ljava/lang/Object;[Ljava/lang/Object;I)V" } : Jvm.MethodName)) ∈ tb := tb_t2 79 rfl rfl
theorem w_321 : (Jvm.Cond.instanceMethod ({ cls := "java/util/ArrayList", name := "add", desc := "(Ljava/lang/Object;[Ljava/lang/Object;I)V" } : Jvm.MethodName)) ∈ tb := tb_t2 81 rfl rfl
theorem w_322 : (Jvm.Cond.code ({ cls := "java/util/ArrayList", name := "add", desc := "(Ljava/lang/Object;[Ljava/lang/Object;I)V" } : Jvm.MethodName) prog_21_method_24_code (4 : Nat) (Option.none : Option Jvm.ClassFile.FieldType)) ∈ tb := tb_t2 82 rfl rfl
theorem w_323 : (Jvm.Cond.methodLink "java/util/ArrayList" (129 : Nat) ({ cls := "java/util/ArrayList", name := "grow", desc := "()[Ljava/lang/Object;" } : Jvm.MethodName)) ∈ tb := tb_t2 83 rfl rfl
theorem w_325 : (Jvm.Cond.instanceMethod ({ cls := "java/util/ArrayList", name := "grow", desc := "()[Ljava/lang/Object;" } : Jvm.MethodName)) ∈ tb := tb_t2 85 rfl rfl
theorem w_326 : (Jvm.Cond.code ({ cls := "java/util/ArrayList", name := "grow", desc := "()[Ljava/lang/Object;" } : Jvm.MethodName) prog_21_method_7_code (1 : Nat) (Option.some (Jvm.ClassFile.FieldType.array (Jvm.ClassFile.FieldType.object "java/lang/Object")))) ∈ tb := tb_t2 86 rfl rfl
theorem w_327 : (Jvm.Cond.methodLink "java/util/ArrayList" (69 : Nat) ({ cls := "java/util/ArrayList", name := "grow", desc := "(I)[Ljava/lang/Object;" } : Jvm.MethodName)) ∈ tb := tb_t2 87 rfl rfl
theorem w_329 : (Jvm.Cond.instanceMethod ({ cls := "java/util/ArrayList", name := "grow", desc := "(I)[Ljava/lang/Object;" } : Jvm.MethodName)) ∈ tb := tb_t2 89 rfl rfl
theorem w_330 : (Jvm.Cond.code ({ cls := "java/util/ArrayList", name := "grow", desc := "(I)[Ljava/lang/Object;" } : Jvm.MethodName) prog_21_method_6_code (4 : Nat) (Option.some (Jvm.ClassFile.FieldType.array (Jvm.ClassFile.FieldType.object "java/lang/Object")))) ∈ tb := tb_t2 90 rfl rfl
theorem w_331 : (Jvm.Cond.methodLink "java/util/ArrayList" (73 : Nat) ({ cls := "jdk/internal/util/ArraysSupport", name := "newLength", desc := "(III)I" } : Jvm.MethodName)) ∈ tb := tb_t2 91 rfl rfl
theorem w_332 : (Jvm.Cond.static ({ cls := "jdk/internal/util/ArraysSupport", name := "newLength", desc := "(III)I" } : Jvm.MethodName)) ∈ tb := tb_t2 92 rfl rfl
theorem w_333 : (Jvm.Cond.code ({ cls := "jdk/internal/util/ArraysSupport", name := "newLength", desc := "(III)I" } : Jvm.MethodName) prog_29_method_27_code (4 : Nat) (Option.some Jvm.ClassFile.FieldType.int)) ∈ tb := tb_t2 93 rfl rfl
theorem w_334 : (Jvm.Cond.methodLink "jdk/internal/util/ArraysSupport" (194 : Nat) ({ cls := "java/lang/Math", name := "max", desc := "(II)I" } : Jvm.MethodName)) ∈ tb := tb_t2 94 rfl rfl
theorem w_335 : (Jvm.Cond.static ({ cls := "java/lang/Math", name := "max", desc := "(II)I" } : Jvm.MethodName)) ∈ tb := tb_t2 95 rfl rfl
theorem w_336 : (Jvm.Cond.code ({ cls := "java/lang/Math", name := "max", desc := "(II)I" } : Jvm.MethodName) prog_14_method_65_code (2 : Nat) (Option.some Jvm.ClassFile.FieldType.int)) ∈ tb := tb_t2 96 rfl rfl
theorem w_337 : (Jvm.Cond.constant "jdk/internal/util/ArraysSupport" (200 : Nat) (2147483639 : Int32)) ∈ tb := tb_t2 97 rfl rfl
theorem w_338 : (Jvm.Cond.methodLink "jdk/internal/util/ArraysSupport" (201 : Nat) ({ cls := "jdk/internal/util/ArraysSupport", name := "hugeLength", desc := "(II)I" } : Jvm.MethodName)) ∈ tb := tb_t2 98 rfl rfl
theorem w_339 : (Jvm.Cond.static ({ cls := "jdk/internal/util/ArraysSupport", name := "hugeLength", desc := "(II)I" } : Jvm.MethodName)) ∈ tb := tb_t2 99 rfl rfl
theorem w_340 : (Jvm.Cond.code ({ cls := "jdk/internal/util/ArraysSupport", name := "hugeLength", desc := "(II)I" } : Jvm.MethodName) prog_29_method_28_code (3 : Nat) (Option.some Jvm.ClassFile.FieldType.int)) ∈ tb := tb_t2 100 rfl rfl
theorem w_341 : (Jvm.Cond.methodLink "java/util/ArrayList" (66 : Nat) ({ cls := "java/util/Arrays", name := "copyOf", desc := "([Ljava/lang/Object;I)[Ljava/lang/Object;" } : Jvm.MethodName)) ∈ tb := tb_t2 101 rfl rfl
theorem w_342 : (Jvm.Cond.static ({ cls := "java/util/Arrays", name := "copyOf", desc := "([Ljava/lang/Object;I)[Ljava/lang/Object;" } : Jvm.MethodName)) ∈ tb := tb_t2 102 rfl rfl
theorem w_343 : (Jvm.Cond.code ({ cls := "java/util/Arrays", name := "copyOf", desc := "([Ljava/lang/Object;I)[Ljava/lang/Object;" } : Jvm.MethodName) prog_22_method_119_code (2 : Nat) (Option.some (Jvm.ClassFile.FieldType.array (Jvm.ClassFile.FieldType.object "java/lang/Object")))) ∈ tb := tb_t2 103 rfl rfl
theorem w_344 : (Jvm.Cond.methodLink "java/util/Arrays" (86 : Nat) ({ cls := "java/lang/Object", name := "getClass", desc := "()Ljava/lang/Class;" } : Jvm.MethodName)) ∈ tb := tb_t2 104 rfl rfl
theorem w_345 : (Jvm.Cond.instanceMethod ({ cls := "java/lang/Object", name := "getClass", desc := "()Ljava/lang/Class;" } : Jvm.MethodName)) ∈ tb := tb_t2 105 rfl rfl
theorem w_346 : (Jvm.Cond.sameMethod "java/lang/Object" "java/lang/Object" "getClass" "()Ljava/lang/Class;") ∈ tb := tb_t2 106 rfl rfl
theorem w_347 : (Jvm.Cond.selects "RetentionVault" ({ cls := "java/lang/Object", name := "getClass", desc := "()Ljava/lang/Class;" } : Jvm.MethodName) ({ cls := "java/lang/Object", name := "getClass", desc := "()Ljava/lang/Class;" } : Jvm.MethodName)) ∈ tb := tb_t2 107 rfl rfl
theorem w_348 : (Jvm.Cond.selects "RetentionVault$Log" ({ cls := "java/lang/Object", name := "getClass", desc := "()Ljava/lang/Class;" } : Jvm.MethodName) ({ cls := "java/lang/Object", name := "getClass", desc := "()Ljava/lang/Class;" } : Jvm.MethodName)) ∈ tb := tb_t2 108 rfl rfl
theorem w_349 : (Jvm.Cond.selects "RetentionVault$Rule" ({ cls := "java/lang/Object", name := "getClass", desc := "()Ljava/lang/Class;" } : Jvm.MethodName) ({ cls := "java/lang/Object", name := "getClass", desc := "()Ljava/lang/Class;" } : Jvm.MethodName)) ∈ tb := tb_t2 109 rfl rfl
theorem w_350 : (Jvm.Cond.selects "RetentionVault$Version" ({ cls := "java/lang/Object", name := "getClass", desc := "()Ljava/lang/Class;" } : Jvm.MethodName) ({ cls := "java/lang/Object", name := "getClass", desc := "()Ljava/lang/Class;" } : Jvm.MethodName)) ∈ tb := tb_t2 110 rfl rfl
theorem w_351 : (Jvm.Cond.selects "RetentionVaultModel" ({ cls := "java/lang/Object", name := "getClass", desc := "()Ljava/lang/Class;" } : Jvm.MethodName) ({ cls := "java/lang/Object", name := "getClass", desc := "()Ljava/lang/Class;" } : Jvm.MethodName)) ∈ tb := tb_t2 111 rfl rfl
theorem w_352 : (Jvm.Cond.selects "java/lang/IllegalArgumentException" ({ cls := "java/lang/Object", name := "getClass", desc := "()Ljava/lang/Class;" } : Jvm.MethodName) ({ cls := "java/lang/Object", name := "getClass", desc := "()Ljava/lang/Class;" } : Jvm.MethodName)) ∈ tb := tb_t2 112 rfl rfl
theorem w_353 : (Jvm.Cond.selects "java/lang/IllegalStateException" ({ cls := "java/lang/Object", name := "getClass", desc := "()Ljava/lang/Class;" } : Jvm.MethodName) ({ cls := "java/lang/Object", name := "getClass", desc := "()Ljava/lang/Class;" } : Jvm.MethodName)) ∈ tb := tb_t2 113 rfl rfl
theorem w_354 : (Jvm.Cond.selects "java/lang/IndexOutOfBoundsException" ({ cls := "java/lang/Object", name := "getClass", desc := "()Ljava/lang/Class;" } : Jvm.MethodName) ({ cls := "java/lang/Object", name := "getClass", desc := "()Ljava/lang/Class;" } : Jvm.MethodName)) ∈ tb := tb_t2 114 rfl rfl
theorem w_355 : (Jvm.Cond.selects "java/util/ArrayList" ({ cls := "java/lang/Object", name := "getClass", desc := "()Ljava/lang/Class;" } : Jvm.MethodName) ({ cls := "java/lang/Object", name := "getClass", desc := "()Ljava/lang/Class;" } : Jvm.MethodName)) ∈ tb := tb_t2 115 rfl rfl
theorem w_356 : (Jvm.Cond.selects "java/util/NoSuchElementException" ({ cls := "java/lang/Object", name := "getClass", desc := "()Ljava/lang/Class;" } : Jvm.MethodName) ({ cls := "java/lang/Object", name := "getClass", desc := "()Ljava/lang/Class;" } : Jvm.MethodName)) ∈ tb := tb_t2 116 rfl rfl
theorem w_357 : (Jvm.Cond.native ({ cls := "java/lang/Object", name := "getClass", desc := "()Ljava/lang/Class;" } : Jvm.MethodName)) ∈ tb := tb_t2 117 rfl rfl
theorem w_358 : (Jvm.Cond.methodLink "java/util/Arrays" (300 : Nat) ({ cls := "java/util/Arrays", name := "copyOf", desc := "([Ljava/lang/Object;ILjava/lang/Class;)[Ljava/lang/Object;" } : Jvm.MethodName)) ∈ tb := tb_t2 118 rfl rfl
theorem w_359 : (Jvm.Cond.static ({ cls := "java/util/Arrays", name := "copyOf", desc := "([Ljava/lang/Object;ILjava/lang/Class;)[Ljava/lang/Object;" } : Jvm.MethodName)) ∈ tb := tb_t2 119 rfl rfl
theorem w_360 : (Jvm.Cond.code ({ cls := "java/util/Arrays", name := "copyOf", desc := "([Ljava/lang/Object;ILjava/lang/Class;)[Ljava/lang/Object;" } : Jvm.MethodName) prog_22_method_120_code (4 : Nat) (Option.some (Jvm.ClassFile.FieldType.array (Jvm.ClassFile.FieldType.object "java/lang/Object")))) ∈ tb := tb_t2 120 rfl rfl
theorem w_361 : (Jvm.Cond.classLink "java/util/Arrays" (110 : Nat) "[Ljava/lang/Object;") ∈ tb := tb_t2 121 rfl rfl
theorem w_363 : (Jvm.Cond.classLink "java/util/Arrays" (2 : Nat) "java/lang/Object") ∈ tb := tb_t2 123 rfl rfl
theorem w_364 : (Jvm.Cond.methodLink "java/util/Arrays" (304 : Nat) ({ cls := "java/lang/Math", name := "min", desc := "(II)I" } : Jvm.MethodName)) ∈ tb := tb_t2 124 rfl rfl
theorem w_365 : (Jvm.Cond.static ({ cls := "java/lang/Math", name := "min", desc := "(II)I" } : Jvm.MethodName)) ∈ tb := tb_t2 125 rfl rfl
theorem w_366 : (Jvm.Cond.code ({ cls := "java/lang/Math", name := "min", desc := "(II)I" } : Jvm.MethodName) prog_14_method_69_code (2 : Nat) (Option.some Jvm.ClassFile.FieldType.int)) ∈ tb := tb_t2 126 rfl rfl
theorem w_367 : (Jvm.Cond.methodLink "java/util/Arrays" (150 : Nat) ({ cls := "java/lang/System", name := "arraycopy", desc := "(Ljava/lang/Object;ILjava/lang/Object;II)V" } : Jvm.MethodName)) ∈ tb := tb_t2 127 rfl rfl
theorem w_368 : (Jvm.Cond.static ({ cls := "java/lang/System", name := "arraycopy", desc := "(Ljava/lang/Object;ILjava/lang/Object;II)V" } : Jvm.MethodName)) ∈ tb := tb_t2 128 rfl rfl
theorem w_369 : (Jvm.Cond.native ({ cls := "java/lang/System", name := "arraycopy", desc := "(Ljava/lang/Object;ILjava/lang/Object;II)V" } : Jvm.MethodName)) ∈ tb := tb_t2 129 rfl rfl
theorem w_370 : (Jvm.Cond.methodLink "java/util/ArrayList" (79 : Nat) ({ cls := "java/lang/Math", name := "max", desc := "(II)I" } : Jvm.MethodName)) ∈ tb := tb_t2 130 rfl rfl
theorem w_371 : (Jvm.Cond.classLink "java/util/ArrayList" (7 : Nat) "java/lang/Object") ∈ tb := tb_t2 131 rfl rfl
theorem w_372 : (Jvm.Cond.methodLink "RetentionVault" (214 : Nat) ({ cls := "RetentionVault$Version", name := "isMarker", desc := "()Z" } : Jvm.MethodName)) ∈ tb := tb_t2 132 rfl rfl
theorem w_373 : (Jvm.Cond.instanceMethod ({ cls := "RetentionVault$Version", name := "isMarker", desc := "()Z" } : Jvm.MethodName)) ∈ tb := tb_t2 133 rfl rfl
theorem w_374 : (Jvm.Cond.selects "RetentionVault$Version" ({ cls := "RetentionVault$Version", name := "isMarker", desc := "()Z" } : Jvm.MethodName) ({ cls := "RetentionVault$Version", name := "isMarker", desc := "()Z" } : Jvm.MethodName)) ∈ tb := tb_t2 134 rfl rfl
theorem w_375 : (Jvm.Cond.code ({ cls := "RetentionVault$Version", name := "isMarker", desc := "()Z" } : Jvm.MethodName) prog_4_method_3_code (1 : Nat) (Option.some Jvm.ClassFile.FieldType.boolean)) ∈ tb := tb_t2 135 rfl rfl
theorem w_376 : (Jvm.Cond.methodLink "RetentionVault" (109 : Nat) ({ cls := "RetentionVault$Log", name := "write", desc := "(IIII)V" } : Jvm.MethodName)) ∈ tb := tb_t2 136 rfl rfl
theorem w_377 : (Jvm.Cond.instanceMethod ({ cls := "RetentionVault$Log", name := "write", desc := "(IIII)V" } : Jvm.MethodName)) ∈ tb := tb_t2 137 rfl rfl
theorem w_378 : (Jvm.Cond.selects "RetentionVault$Log" ({ cls := "RetentionVault$Log", name := "write", desc := "(IIII)V" } : Jvm.MethodName) ({ cls := "RetentionVault$Log", name := "write", desc := "(IIII)V" } : Jvm.MethodName)) ∈ tb := tb_t2 138 rfl rfl
theorem w_379 : (Jvm.Cond.code ({ cls := "RetentionVault$Log", name := "write", desc := "(IIII)V" } : Jvm.MethodName) prog_2_method_2_code (6 : Nat) (Option.none : Option Jvm.ClassFile.FieldType)) ∈ tb := tb_t2 139 rfl rfl
theorem w_380 : (Jvm.Cond.methodLink "RetentionVault$Log" (23 : Nat) ({ cls := "RetentionVault$Log", name := "placeOf", desc := "(I)I" } : Jvm.MethodName)) ∈ tb := tb_t2 140 rfl rfl
theorem w_381 : (Jvm.Cond.static ({ cls := "RetentionVault$Log", name := "placeOf", desc := "(I)I" } : Jvm.MethodName)) ∈ tb := tb_t2 141 rfl rfl
theorem w_382 : (Jvm.Cond.code ({ cls := "RetentionVault$Log", name := "placeOf", desc := "(I)I" } : Jvm.MethodName) prog_2_method_6_code (1 : Nat) (Option.some Jvm.ClassFile.FieldType.int)) ∈ tb := tb_t2 142 rfl rfl
theorem w_383 : (Jvm.Cond.methodLink "RetentionVault$Log" (27 : Nat) ({ cls := "RetentionVault$Log", name := "append", desc := "(II)V" } : Jvm.MethodName)) ∈ tb := tb_t2 143 rfl rfl
theorem w_385 : (Jvm.Cond.instanceMethod ({ cls := "RetentionVault$Log", name := "append", desc := "(II)V" } : Jvm.MethodName)) ∈ tb := tb_t2 145 rfl rfl
theorem w_386 : (Jvm.Cond.code ({ cls := "RetentionVault$Log", name := "append", desc := "(II)V" } : Jvm.MethodName) prog_2_method_5_code (3 : Nat) (Option.none : Option Jvm.ClassFile.FieldType)) ∈ tb := tb_t2 146 rfl rfl
theorem w_387 : (Jvm.Cond.constantLong "RetentionVault$Log" (31 : Nat) (1099511628211 : Int64)) ∈ tb := tb_t2 147 rfl rfl
theorem w_388 : (Jvm.Cond.methodLink "RetentionVaultLaw" (81 : Nat) ({ cls := "RetentionVaultLaw", name := "mark", desc := "(LRetentionVault;I[J)I" } : Jvm.MethodName)) ∈ tb := tb_t2 148 rfl rfl
theorem w_389 : (Jvm.Cond.static ({ cls := "RetentionVaultLaw", name := "mark", desc := "(LRetentionVault;I[J)I" } : Jvm.MethodName)) ∈ tb := tb_t2 149 rfl rfl
theorem w_390 : (Jvm.Cond.codeWith ({ cls := "RetentionVaultLaw", name := "mark", desc := "(LRetentionVault;I[J)I" } : Jvm.MethodName) method_4_code (4 : Nat) (Option.some Jvm.ClassFile.FieldType.int) [((0 : Nat), (9 : Nat), (12 : Nat), (21 : Nat)), ((0 : Nat), (9 : Nat), (15 : Nat), (15 : Nat))]) ∈ tb := tb_t2 150 rfl rfl
theorem w_391 : (Jvm.Cond.classLink "RetentionVaultLaw" (21 : Nat) "java/util/NoSuchElementException") ∈ tb := tb_t2 151 rfl rfl
theorem w_392 : (Jvm.Cond.methodLink "RetentionVaultLaw" (17 : Nat) ({ cls := "RetentionVault", name := "mark", desc := "(I)I" } : Jvm.MethodName)) ∈ tb := tb_t2 152 rfl rfl
theorem w_393 : (Jvm.Cond.instanceMethod ({ cls := "RetentionVault", name := "mark", desc := "(I)I" } : Jvm.MethodName)) ∈ tb := tb_t2 153 rfl rfl
theorem w_394 : (Jvm.Cond.selects "RetentionVault" ({ cls := "RetentionVault", name := "mark", desc := "(I)I" } : Jvm.MethodName) ({ cls := "RetentionVault", name := "mark", desc := "(I)I" } : Jvm.MethodName)) ∈ tb := tb_t2 154 rfl rfl
theorem w_395 : (Jvm.Cond.code ({ cls := "RetentionVault", name := "mark", desc := "(I)I" } : Jvm.MethodName) prog_1_method_3_code (2 : Nat) (Option.some Jvm.ClassFile.FieldType.int)) ∈ tb := tb_t2 155 rfl rfl
theorem w_396 : (Jvm.Cond.methodLink "RetentionVault" (62 : Nat) ({ cls := "RetentionVault", name := "currentObject", desc := "(I)LRetentionVault$Version;" } : Jvm.MethodName)) ∈ tb := tb_t2 156 rfl rfl
theorem w_398 : (Jvm.Cond.instanceMethod ({ cls := "RetentionVault", name := "currentObject", desc := "(I)LRetentionVault$Version;" } : Jvm.MethodName)) ∈ tb := tb_t2 158 rfl rfl
theorem w_399 : (Jvm.Cond.code ({ cls := "RetentionVault", name := "currentObject", desc := "(I)LRetentionVault$Version;" } : Jvm.MethodName) prog_1_method_23_code (3 : Nat) (Option.some (Jvm.ClassFile.FieldType.object "RetentionVault$Version"))) ∈ tb := tb_t2 159 rfl rfl
theorem w_400 : (Jvm.Cond.classLink "RetentionVault" (209 : Nat) "java/util/NoSuchElementException") ∈ tb := tb_t2 160 rfl rfl
theorem w_401 : (Jvm.Cond.instantiable "java/util/NoSuchElementException" (6 : Nat)) ∈ tb := tb_t2 161 rfl rfl
theorem w_403 : (Jvm.Cond.selects "java/util/NoSuchElementException" ({ cls := "java/lang/Throwable", name := "fillInStackTrace", desc := "(I)Ljava/lang/Throwable;" } : Jvm.MethodName) ({ cls := "java/lang/Throwable", name := "fillInStackTrace", desc := "(I)Ljava/lang/Throwable;" } : Jvm.MethodName)) ∈ tb := tb_t2 163 rfl rfl
theorem w_404 : (Jvm.Cond.lays "java/util/NoSuchElementException" "java/lang/Throwable" "cause" "Ljava/lang/Throwable;") ∈ tb := tb_t2 164 rfl rfl
theorem w_405 : (Jvm.Cond.lays "java/util/NoSuchElementException" "java/lang/Throwable" "stackTrace" "[Ljava/lang/StackTraceElement;") ∈ tb := tb_t2 165 rfl rfl
theorem w_406 : (Jvm.Cond.lays "java/util/NoSuchElementException" "java/lang/Throwable" "suppressedExceptions" "Ljava/util/List;") ∈ tb := tb_t2 166 rfl rfl
theorem w_407 : (Jvm.Cond.lays "java/util/NoSuchElementException" "java/lang/Throwable" "detailMessage" "Ljava/lang/String;") ∈ tb := tb_t2 167 rfl rfl
theorem w_408 : (Jvm.Cond.lays "java/util/NoSuchElementException" "java/lang/Throwable" "backtrace" "Ljava/lang/Object;") ∈ tb := tb_t2 168 rfl rfl
theorem w_410 : (Jvm.Cond.methodLink "RetentionVault" (213 : Nat) ({ cls := "java/util/NoSuchElementException", name := "<init>", desc := "(Ljava/lang/String;)V" } : Jvm.MethodName)) ∈ tb := tb_t2 170 rfl rfl
theorem w_411 : (Jvm.Cond.instanceMethod ({ cls := "java/util/NoSuchElementException", name := "<init>", desc := "(Ljava/lang/String;)V" } : Jvm.MethodName)) ∈ tb := tb_t2 171 rfl rfl
theorem w_412 : (Jvm.Cond.code ({ cls := "java/util/NoSuchElementException", name := "<init>", desc := "(Ljava/lang/String;)V" } : Jvm.MethodName) prog_25_method_4_code (2 : Nat) (Option.none : Option Jvm.ClassFile.FieldType)) ∈ tb := tb_t2 172 rfl rfl
theorem w_413 : (Jvm.Cond.methodLink "java/util/NoSuchElementException" (13 : Nat) ({ cls := "java/lang/RuntimeException", name := "<init>", desc := "(Ljava/lang/String;)V" } : Jvm.MethodName)) ∈ tb := tb_t2 173 rfl rfl
theorem w_414 : (Jvm.Cond.lays "java/util/NoSuchElementException" "java/lang/Throwable" "depth" "I") ∈ tb := tb_t2 174 rfl rfl
theorem w_415 : (Jvm.Cond.superclass "java/util/NoSuchElementException" "java/lang/RuntimeException") ∈ tb := tb_t2 175 rfl rfl
theorem w_416 : (Jvm.Cond.methodLink "RetentionVaultLaw" (85 : Nat) ({ cls := "RetentionVaultLaw", name := "erase", desc := "(LRetentionVault;IZ[J)I" } : Jvm.MethodName)) ∈ tb := tb_t2 176 rfl rfl
theorem w_417 : (Jvm.Cond.static ({ cls := "RetentionVaultLaw", name := "erase", desc := "(LRetentionVault;IZ[J)I" } : Jvm.MethodName)) ∈ tb := tb_t2 177 rfl rfl
theorem w_418 : (Jvm.Cond.codeWith ({ cls := "RetentionVaultLaw", name := "erase", desc := "(LRetentionVault;IZ[J)I" } : Jvm.MethodName) method_5_code (5 : Nat) (Option.some Jvm.ClassFile.FieldType.int) [((0 : Nat), (10 : Nat), (13 : Nat), (21 : Nat)), ((0 : Nat), (10 : Nat), (17 : Nat), (15 : Nat))]) ∈ tb := tb_t2 178 rfl rfl
theorem w_419 : (Jvm.Cond.methodLink "RetentionVaultLaw" (23 : Nat) ({ cls := "RetentionVault", name := "erase", desc := "(IZ)I" } : Jvm.MethodName)) ∈ tb := tb_t2 179 rfl rfl
theorem w_420 : (Jvm.Cond.instanceMethod ({ cls := "RetentionVault", name := "erase", desc := "(IZ)I" } : Jvm.MethodName)) ∈ tb := tb_t2 180 rfl rfl
theorem w_421 : (Jvm.Cond.selects "RetentionVault" ({ cls := "RetentionVault", name := "erase", desc := "(IZ)I" } : Jvm.MethodName) ({ cls := "RetentionVault", name := "erase", desc := "(IZ)I" } : Jvm.MethodName)) ∈ tb := tb_t2 181 rfl rfl
theorem w_422 : (Jvm.Cond.code ({ cls := "RetentionVault", name := "erase", desc := "(IZ)I" } : Jvm.MethodName) prog_1_method_4_code (5 : Nat) (Option.some Jvm.ClassFile.FieldType.int)) ∈ tb := tb_t2 182 rfl rfl
theorem w_423 : (Jvm.Cond.methodLink "RetentionVault" (66 : Nat) ({ cls := "RetentionVault", name := "versionNumbered", desc := "(I)LRetentionVault$Version;" } : Jvm.MethodName)) ∈ tb := tb_t2 183 rfl rfl
theorem w_425 : (Jvm.Cond.instanceMethod ({ cls := "RetentionVault", name := "versionNumbered", desc := "(I)LRetentionVault$Version;" } : Jvm.MethodName)) ∈ tb := tb_t2 185 rfl rfl
theorem w_426 : (Jvm.Cond.code ({ cls := "RetentionVault", name := "versionNumbered", desc := "(I)LRetentionVault$Version;" } : Jvm.MethodName) prog_1_method_21_code (4 : Nat) (Option.some (Jvm.ClassFile.FieldType.object "RetentionVault$Version"))) ∈ tb := tb_t2 186 rfl rfl
theorem w_428 : (Jvm.Cond.methodLink "RetentionVault" (69 : Nat) ({ cls := "RetentionVault$Version", name := "isRetainedStrictly", desc := "(I)Z" } : Jvm.MethodName)) ∈ tb := tb_t2 188 rfl rfl
theorem w_429 : (Jvm.Cond.instanceMethod ({ cls := "RetentionVault$Version", name := "isRetainedStrictly", desc := "(I)Z" } : Jvm.MethodName)) ∈ tb := tb_t2 189 rfl rfl
theorem w_430 : (Jvm.Cond.selects "RetentionVault$Version" ({ cls := "RetentionVault$Version", name := "isRetainedStrictly", desc := "(I)Z" } : Jvm.MethodName) ({ cls := "RetentionVault$Version", name := "isRetainedStrictly", desc := "(I)Z" } : Jvm.MethodName)) ∈ tb := tb_t2 190 rfl rfl
theorem w_431 : (Jvm.Cond.code ({ cls := "RetentionVault$Version", name := "isRetainedStrictly", desc := "(I)Z" } : Jvm.MethodName) prog_4_method_8_code (2 : Nat) (Option.some Jvm.ClassFile.FieldType.boolean)) ∈ tb := tb_t2 191 rfl rfl
theorem w_432 : (Jvm.Cond.methodLink "RetentionVault$Version" (46 : Nat) ({ cls := "RetentionVault$Version", name := "isRetained", desc := "(I)Z" } : Jvm.MethodName)) ∈ tb := tb_t2 192 rfl rfl
theorem w_433 : (Jvm.Cond.instanceMethod ({ cls := "RetentionVault$Version", name := "isRetained", desc := "(I)Z" } : Jvm.MethodName)) ∈ tb := tb_t2 193 rfl rfl
theorem w_434 : (Jvm.Cond.selects "RetentionVault$Version" ({ cls := "RetentionVault$Version", name := "isRetained", desc := "(I)Z" } : Jvm.MethodName) ({ cls := "RetentionVault$Version", name := "isRetained", desc := "(I)Z" } : Jvm.MethodName)) ∈ tb := tb_t2 194 rfl rfl
theorem w_435 : (Jvm.Cond.code ({ cls := "RetentionVault$Version", name := "isRetained", desc := "(I)Z" } : Jvm.MethodName) prog_4_method_7_code (2 : Nat) (Option.some Jvm.ClassFile.FieldType.boolean)) ∈ tb := tb_t2 195 rfl rfl
theorem w_436 : (Jvm.Cond.methodLink "RetentionVault" (73 : Nat) ({ cls := "RetentionVault$Version", name := "isHeld", desc := "()Z" } : Jvm.MethodName)) ∈ tb := tb_t2 196 rfl rfl
theorem w_437 : (Jvm.Cond.instanceMethod ({ cls := "RetentionVault$Version", name := "isHeld", desc := "()Z" } : Jvm.MethodName)) ∈ tb := tb_t2 197 rfl rfl
theorem w_438 : (Jvm.Cond.selects "RetentionVault$Version" ({ cls := "RetentionVault$Version", name := "isHeld", desc := "()Z" } : Jvm.MethodName) ({ cls := "RetentionVault$Version", name := "isHeld", desc := "()Z" } : Jvm.MethodName)) ∈ tb := tb_t2 198 rfl rfl
theorem w_439 : (Jvm.Cond.code ({ cls := "RetentionVault$Version", name := "isHeld", desc := "()Z" } : Jvm.MethodName) prog_4_method_6_code (1 : Nat) (Option.some Jvm.ClassFile.FieldType.boolean)) ∈ tb := tb_t2 199 rfl rfl
theorem w_440 : (Jvm.Cond.methodLink "RetentionVault" (77 : Nat) ({ cls := "RetentionVault$Version", name := "isRetained", desc := "(I)Z" } : Jvm.MethodName)) ∈ tb := tb_t2 200 rfl rfl
theorem w_442 : (Jvm.Cond.methodLink "RetentionVault" (87 : Nat) ({ cls := "RetentionVault", name := "takeAway", desc := "(LRetentionVault$Version;)V" } : Jvm.MethodName)) ∈ tb := tb_t2 202 rfl rfl
theorem w_444 : (Jvm.Cond.instanceMethod ({ cls := "RetentionVault", name := "takeAway", desc := "(LRetentionVault$Version;)V" } : Jvm.MethodName)) ∈ tb := tb_t2 204 rfl rfl
theorem w_445 : (Jvm.Cond.code ({ cls := "RetentionVault", name := "takeAway", desc := "(LRetentionVault$Version;)V" } : Jvm.MethodName) prog_1_method_26_code (3 : Nat) (Option.none : Option Jvm.ClassFile.FieldType)) ∈ tb := tb_t2 205 rfl rfl
theorem w_446 : (Jvm.Cond.methodLink "RetentionVault" (230 : Nat) ({ cls := "java/util/ArrayList", name := "remove", desc := "(I)Ljava/lang/Object;" } : Jvm.MethodName)) ∈ tb := tb_t2 206 rfl rfl
theorem w_447 : (Jvm.Cond.instanceMethod ({ cls := "java/util/ArrayList", name := "remove", desc := "(I)Ljava/lang/Object;" } : Jvm.MethodName)) ∈ tb := tb_t2 207 rfl rfl
theorem w_448 : (Jvm.Cond.selects "java/util/ArrayList" ({ cls := "java/util/ArrayList", name := "remove", desc := "(I)Ljava/lang/Object;" } : Jvm.MethodName) ({ cls := "java/util/ArrayList", name := "remove", desc := "(I)Ljava/lang/Object;" } : Jvm.MethodName)) ∈ tb := tb_t2 208 rfl rfl
theorem w_449 : (Jvm.Cond.code ({ cls := "java/util/ArrayList", name := "remove", desc := "(I)Ljava/lang/Object;" } : Jvm.MethodName) prog_21_method_29_code (4 : Nat) (Option.some (Jvm.ClassFile.FieldType.object "java/lang/Object"))) ∈ tb := tb_t2 209 rfl rfl
theorem w_450 : (Jvm.Cond.methodLink "java/util/ArrayList" (144 : Nat) ({ cls := "java/util/ArrayList", name := "fastRemove", desc := "([Ljava/lang/Object;I)V" } : Jvm.MethodName)) ∈ tb := tb_t2 210 rfl rfl
theorem w_452 : (Jvm.Cond.instanceMethod ({ cls := "java/util/ArrayList", name := "fastRemove", desc := "([Ljava/lang/Object;I)V" } : Jvm.MethodName)) ∈ tb := tb_t2 212 rfl rfl
theorem w_453 : (Jvm.Cond.code ({ cls := "java/util/ArrayList", name := "fastRemove", desc := "([Ljava/lang/Object;I)V" } : Jvm.MethodName) prog_21_method_39_code (4 : Nat) (Option.none : Option Jvm.ClassFile.FieldType)) ∈ tb := tb_t2 213 rfl rfl
theorem w_454 : (Jvm.Cond.methodLink "java/util/ArrayList" (112 : Nat) ({ cls := "java/lang/System", name := "arraycopy", desc := "(Ljava/lang/Object;ILjava/lang/Object;II)V" } : Jvm.MethodName)) ∈ tb := tb_t2 214 rfl rfl
theorem w_455 : (Jvm.Cond.methodLink "RetentionVaultLaw" (89 : Nat) ({ cls := "RetentionVaultLaw", name := "retain", desc := "(LRetentionVault;IIZ)I" } : Jvm.MethodName)) ∈ tb := tb_t2 215 rfl rfl
theorem w_456 : (Jvm.Cond.static ({ cls := "RetentionVaultLaw", name := "retain", desc := "(LRetentionVault;IIZ)I" } : Jvm.MethodName)) ∈ tb := tb_t2 216 rfl rfl
theorem w_457 : (Jvm.Cond.codeWith ({ cls := "RetentionVaultLaw", name := "retain", desc := "(LRetentionVault;IIZ)I" } : Jvm.MethodName) method_6_code (5 : Nat) (Option.some Jvm.ClassFile.FieldType.int) [((0 : Nat), (7 : Nat), (10 : Nat), (21 : Nat)), ((0 : Nat), (7 : Nat), (14 : Nat), (13 : Nat)), ((0 : Nat), (7 : Nat), (18 : Nat), (15 : Nat))]) ∈ tb := tb_t2 217 rfl rfl
theorem w_458 : (Jvm.Cond.methodLink "RetentionVaultLaw" (27 : Nat) ({ cls := "RetentionVault", name := "retain", desc := "(IIZ)V" } : Jvm.MethodName)) ∈ tb := tb_t2 218 rfl rfl
theorem w_459 : (Jvm.Cond.instanceMethod ({ cls := "RetentionVault", name := "retain", desc := "(IIZ)V" } : Jvm.MethodName)) ∈ tb := tb_t2 219 rfl rfl
theorem w_460 : (Jvm.Cond.selects "RetentionVault" ({ cls := "RetentionVault", name := "retain", desc := "(IIZ)V" } : Jvm.MethodName) ({ cls := "RetentionVault", name := "retain", desc := "(IIZ)V" } : Jvm.MethodName)) ∈ tb := tb_t2 220 rfl rfl
theorem w_461 : (Jvm.Cond.code ({ cls := "RetentionVault", name := "retain", desc := "(IIZ)V" } : Jvm.MethodName) prog_1_method_5_code (6 : Nat) (Option.none : Option Jvm.ClassFile.FieldType)) ∈ tb := tb_t2 221 rfl rfl
theorem w_462 : (Jvm.Cond.methodLink "RetentionVault" (94 : Nat) ({ cls := "RetentionVault", name := "objectNumbered", desc := "(I)LRetentionVault$Version;" } : Jvm.MethodName)) ∈ tb := tb_t2 222 rfl rfl
theorem w_464 : (Jvm.Cond.instanceMethod ({ cls := "RetentionVault", name := "objectNumbered", desc := "(I)LRetentionVault$Version;" } : Jvm.MethodName)) ∈ tb := tb_t2 224 rfl rfl
theorem w_465 : (Jvm.Cond.code ({ cls := "RetentionVault", name := "objectNumbered", desc := "(I)LRetentionVault$Version;" } : Jvm.MethodName) prog_1_method_22_code (3 : Nat) (Option.some (Jvm.ClassFile.FieldType.object "RetentionVault$Version"))) ∈ tb := tb_t2 225 rfl rfl
theorem w_468 : (Jvm.Cond.methodLink "RetentionVaultLaw" (93 : Nat) ({ cls := "RetentionVaultLaw", name := "hold", desc := "(LRetentionVault;IIZ[J)I" } : Jvm.MethodName)) ∈ tb := tb_t2 228 rfl rfl
theorem w_469 : (Jvm.Cond.static ({ cls := "RetentionVaultLaw", name := "hold", desc := "(LRetentionVault;IIZ[J)I" } : Jvm.MethodName)) ∈ tb := tb_t2 229 rfl rfl
theorem w_470 : (Jvm.Cond.codeWith ({ cls := "RetentionVaultLaw", name := "hold", desc := "(LRetentionVault;IIZ[J)I" } : Jvm.MethodName) method_7_code (6 : Nat) (Option.some Jvm.ClassFile.FieldType.int) [((0 : Nat), (19 : Nat), (22 : Nat), (21 : Nat)), ((0 : Nat), (19 : Nat), (26 : Nat), (13 : Nat))]) ∈ tb := tb_t2 230 rfl rfl
theorem w_471 : (Jvm.Cond.methodLink "RetentionVaultLaw" (31 : Nat) ({ cls := "RetentionVault", name := "hold", desc := "(IIZ)Z" } : Jvm.MethodName)) ∈ tb := tb_t2 231 rfl rfl
theorem w_472 : (Jvm.Cond.instanceMethod ({ cls := "RetentionVault", name := "hold", desc := "(IIZ)Z" } : Jvm.MethodName)) ∈ tb := tb_t2 232 rfl rfl
theorem w_473 : (Jvm.Cond.selects "RetentionVault" ({ cls := "RetentionVault", name := "hold", desc := "(IIZ)Z" } : Jvm.MethodName) ({ cls := "RetentionVault", name := "hold", desc := "(IIZ)Z" } : Jvm.MethodName)) ∈ tb := tb_t2 233 rfl rfl
theorem w_474 : (Jvm.Cond.code ({ cls := "RetentionVault", name := "hold", desc := "(IIZ)Z" } : Jvm.MethodName) prog_1_method_6_code (7 : Nat) (Option.some Jvm.ClassFile.FieldType.boolean)) ∈ tb := tb_t2 234 rfl rfl
theorem w_475 : (Jvm.Cond.methodLink "RetentionVaultLaw" (97 : Nat) ({ cls := "RetentionVaultLaw", name := "rule", desc := "(LRetentionVault;IIZII)I" } : Jvm.MethodName)) ∈ tb := tb_t2 235 rfl rfl
theorem w_476 : (Jvm.Cond.static ({ cls := "RetentionVaultLaw", name := "rule", desc := "(LRetentionVault;IIZII)I" } : Jvm.MethodName)) ∈ tb := tb_t2 236 rfl rfl
theorem w_477 : (Jvm.Cond.codeWith ({ cls := "RetentionVaultLaw", name := "rule", desc := "(LRetentionVault;IIZII)I" } : Jvm.MethodName) method_8_code (7 : Nat) (Option.some Jvm.ClassFile.FieldType.int) [((0 : Nat), (11 : Nat), (14 : Nat), (13 : Nat))]) ∈ tb := tb_t2 237 rfl rfl
theorem w_478 : (Jvm.Cond.methodLink "RetentionVaultLaw" (35 : Nat) ({ cls := "RetentionVault", name := "rule", desc := "(IIZII)V" } : Jvm.MethodName)) ∈ tb := tb_t2 238 rfl rfl
theorem w_479 : (Jvm.Cond.instanceMethod ({ cls := "RetentionVault", name := "rule", desc := "(IIZII)V" } : Jvm.MethodName)) ∈ tb := tb_t2 239 rfl rfl
theorem w_480 : (Jvm.Cond.selects "RetentionVault" ({ cls := "RetentionVault", name := "rule", desc := "(IIZII)V" } : Jvm.MethodName) ({ cls := "RetentionVault", name := "rule", desc := "(IIZII)V" } : Jvm.MethodName)) ∈ tb := tb_t3 0 rfl rfl
theorem w_481 : (Jvm.Cond.code ({ cls := "RetentionVault", name := "rule", desc := "(IIZII)V" } : Jvm.MethodName) prog_1_method_7_code (6 : Nat) (Option.none : Option Jvm.ClassFile.FieldType)) ∈ tb := tb_t3 1 rfl rfl
theorem w_482 : (Jvm.Cond.methodLink "RetentionVault" (116 : Nat) ({ cls := "RetentionVault$Rule", name := "become", desc := "(IZII)V" } : Jvm.MethodName)) ∈ tb := tb_t3 2 rfl rfl
theorem w_483 : (Jvm.Cond.instanceMethod ({ cls := "RetentionVault$Rule", name := "become", desc := "(IZII)V" } : Jvm.MethodName)) ∈ tb := tb_t3 3 rfl rfl
theorem w_484 : (Jvm.Cond.selects "RetentionVault$Rule" ({ cls := "RetentionVault$Rule", name := "become", desc := "(IZII)V" } : Jvm.MethodName) ({ cls := "RetentionVault$Rule", name := "become", desc := "(IZII)V" } : Jvm.MethodName)) ∈ tb := tb_t3 4 rfl rfl
theorem w_485 : (Jvm.Cond.code ({ cls := "RetentionVault$Rule", name := "become", desc := "(IZII)V" } : Jvm.MethodName) prog_3_method_2_code (5 : Nat) (Option.none : Option Jvm.ClassFile.FieldType)) ∈ tb := tb_t3 5 rfl rfl
theorem w_486 : (Jvm.Cond.methodLink "RetentionVaultLaw" (101 : Nat) ({ cls := "RetentionVaultLaw", name := "unrule", desc := "(LRetentionVault;I[J)I" } : Jvm.MethodName)) ∈ tb := tb_t3 6 rfl rfl
theorem w_487 : (Jvm.Cond.static ({ cls := "RetentionVaultLaw", name := "unrule", desc := "(LRetentionVault;I[J)I" } : Jvm.MethodName)) ∈ tb := tb_t3 7 rfl rfl
theorem w_488 : (Jvm.Cond.codeWith ({ cls := "RetentionVaultLaw", name := "unrule", desc := "(LRetentionVault;I[J)I" } : Jvm.MethodName) method_9_code (4 : Nat) (Option.some Jvm.ClassFile.FieldType.int) [((0 : Nat), (16 : Nat), (19 : Nat), (13 : Nat))]) ∈ tb := tb_t3 8 rfl rfl
theorem w_489 : (Jvm.Cond.methodLink "RetentionVaultLaw" (39 : Nat) ({ cls := "RetentionVault", name := "unrule", desc := "(I)Z" } : Jvm.MethodName)) ∈ tb := tb_t3 9 rfl rfl
theorem w_490 : (Jvm.Cond.instanceMethod ({ cls := "RetentionVault", name := "unrule", desc := "(I)Z" } : Jvm.MethodName)) ∈ tb := tb_t3 10 rfl rfl
theorem w_491 : (Jvm.Cond.selects "RetentionVault" ({ cls := "RetentionVault", name := "unrule", desc := "(I)Z" } : Jvm.MethodName) ({ cls := "RetentionVault", name := "unrule", desc := "(I)Z" } : Jvm.MethodName)) ∈ tb := tb_t3 11 rfl rfl
theorem w_492 : (Jvm.Cond.code ({ cls := "RetentionVault", name := "unrule", desc := "(I)Z" } : Jvm.MethodName) prog_1_method_8_code (3 : Nat) (Option.some Jvm.ClassFile.FieldType.boolean)) ∈ tb := tb_t3 12 rfl rfl
theorem w_493 : (Jvm.Cond.methodLink "RetentionVault" (120 : Nat) ({ cls := "RetentionVault$Rule", name := "isEmpty", desc := "()Z" } : Jvm.MethodName)) ∈ tb := tb_t3 13 rfl rfl
theorem w_494 : (Jvm.Cond.instanceMethod ({ cls := "RetentionVault$Rule", name := "isEmpty", desc := "()Z" } : Jvm.MethodName)) ∈ tb := tb_t3 14 rfl rfl
theorem w_495 : (Jvm.Cond.selects "RetentionVault$Rule" ({ cls := "RetentionVault$Rule", name := "isEmpty", desc := "()Z" } : Jvm.MethodName) ({ cls := "RetentionVault$Rule", name := "isEmpty", desc := "()Z" } : Jvm.MethodName)) ∈ tb := tb_t3 15 rfl rfl
theorem w_496 : (Jvm.Cond.code ({ cls := "RetentionVault$Rule", name := "isEmpty", desc := "()Z" } : Jvm.MethodName) prog_3_method_3_code (1 : Nat) (Option.some Jvm.ClassFile.FieldType.boolean)) ∈ tb := tb_t3 16 rfl rfl
theorem w_497 : (Jvm.Cond.methodLink "RetentionVaultLaw" (104 : Nat) ({ cls := "RetentionVaultLaw", name := "fetch", desc := "(LRetentionVault;II[J)I" } : Jvm.MethodName)) ∈ tb := tb_t3 17 rfl rfl
theorem w_498 : (Jvm.Cond.static ({ cls := "RetentionVaultLaw", name := "fetch", desc := "(LRetentionVault;II[J)I" } : Jvm.MethodName)) ∈ tb := tb_t3 18 rfl rfl
theorem w_499 : (Jvm.Cond.codeWith ({ cls := "RetentionVaultLaw", name := "fetch", desc := "(LRetentionVault;II[J)I" } : Jvm.MethodName) method_10_code (5 : Nat) (Option.some Jvm.ClassFile.FieldType.int) [((0 : Nat), (10 : Nat), (13 : Nat), (21 : Nat)), ((0 : Nat), (10 : Nat), (17 : Nat), (13 : Nat)), ((0 : Nat), (10 : Nat), (21 : Nat), (15 : Nat))]) ∈ tb := tb_t3 19 rfl rfl
theorem w_500 : (Jvm.Cond.methodLink "RetentionVaultLaw" (43 : Nat) ({ cls := "RetentionVault", name := "fetch", desc := "(II)I" } : Jvm.MethodName)) ∈ tb := tb_t3 20 rfl rfl
theorem w_501 : (Jvm.Cond.instanceMethod ({ cls := "RetentionVault", name := "fetch", desc := "(II)I" } : Jvm.MethodName)) ∈ tb := tb_t3 21 rfl rfl
theorem w_502 : (Jvm.Cond.selects "RetentionVault" ({ cls := "RetentionVault", name := "fetch", desc := "(II)I" } : Jvm.MethodName) ({ cls := "RetentionVault", name := "fetch", desc := "(II)I" } : Jvm.MethodName)) ∈ tb := tb_t3 22 rfl rfl
theorem w_503 : (Jvm.Cond.code ({ cls := "RetentionVault", name := "fetch", desc := "(II)I" } : Jvm.MethodName) prog_1_method_9_code (4 : Nat) (Option.some Jvm.ClassFile.FieldType.int)) ∈ tb := tb_t3 23 rfl rfl
theorem w_504 : (Jvm.Cond.methodLink "RetentionVault" (126 : Nat) ({ cls := "RetentionVault$Version", name := "isCold", desc := "()Z" } : Jvm.MethodName)) ∈ tb := tb_t3 24 rfl rfl
theorem w_505 : (Jvm.Cond.instanceMethod ({ cls := "RetentionVault$Version", name := "isCold", desc := "()Z" } : Jvm.MethodName)) ∈ tb := tb_t3 25 rfl rfl
theorem w_506 : (Jvm.Cond.selects "RetentionVault$Version" ({ cls := "RetentionVault$Version", name := "isCold", desc := "()Z" } : Jvm.MethodName) ({ cls := "RetentionVault$Version", name := "isCold", desc := "()Z" } : Jvm.MethodName)) ∈ tb := tb_t3 26 rfl rfl
theorem w_507 : (Jvm.Cond.code ({ cls := "RetentionVault$Version", name := "isCold", desc := "()Z" } : Jvm.MethodName) prog_4_method_4_code (1 : Nat) (Option.some Jvm.ClassFile.FieldType.boolean)) ∈ tb := tb_t3 27 rfl rfl
theorem w_509 : (Jvm.Cond.methodLink "RetentionVaultLaw" (108 : Nat) ({ cls := "RetentionVaultLaw", name := "read", desc := "(LRetentionVault;I[J)I" } : Jvm.MethodName)) ∈ tb := tb_t3 29 rfl rfl
theorem w_510 : (Jvm.Cond.static ({ cls := "RetentionVaultLaw", name := "read", desc := "(LRetentionVault;I[J)I" } : Jvm.MethodName)) ∈ tb := tb_t3 30 rfl rfl
theorem w_511 : (Jvm.Cond.codeWith ({ cls := "RetentionVaultLaw", name := "read", desc := "(LRetentionVault;I[J)I" } : Jvm.MethodName) method_11_code (4 : Nat) (Option.some Jvm.ClassFile.FieldType.int) [((0 : Nat), (9 : Nat), (12 : Nat), (21 : Nat)), ((0 : Nat), (9 : Nat), (15 : Nat), (15 : Nat))]) ∈ tb := tb_t3 31 rfl rfl
theorem w_512 : (Jvm.Cond.methodLink "RetentionVaultLaw" (47 : Nat) ({ cls := "RetentionVault", name := "read", desc := "(I)I" } : Jvm.MethodName)) ∈ tb := tb_t3 32 rfl rfl
theorem w_513 : (Jvm.Cond.instanceMethod ({ cls := "RetentionVault", name := "read", desc := "(I)I" } : Jvm.MethodName)) ∈ tb := tb_t3 33 rfl rfl
theorem w_514 : (Jvm.Cond.selects "RetentionVault" ({ cls := "RetentionVault", name := "read", desc := "(I)I" } : Jvm.MethodName) ({ cls := "RetentionVault", name := "read", desc := "(I)I" } : Jvm.MethodName)) ∈ tb := tb_t3 34 rfl rfl
theorem w_515 : (Jvm.Cond.code ({ cls := "RetentionVault", name := "read", desc := "(I)I" } : Jvm.MethodName) prog_1_method_10_code (3 : Nat) (Option.some Jvm.ClassFile.FieldType.int)) ∈ tb := tb_t3 35 rfl rfl
theorem w_516 : (Jvm.Cond.methodLink "RetentionVault" (140 : Nat) ({ cls := "RetentionVault$Version", name := "isFetchedFor", desc := "(I)Z" } : Jvm.MethodName)) ∈ tb := tb_t3 36 rfl rfl
theorem w_517 : (Jvm.Cond.instanceMethod ({ cls := "RetentionVault$Version", name := "isFetchedFor", desc := "(I)Z" } : Jvm.MethodName)) ∈ tb := tb_t3 37 rfl rfl
theorem w_518 : (Jvm.Cond.selects "RetentionVault$Version" ({ cls := "RetentionVault$Version", name := "isFetchedFor", desc := "(I)Z" } : Jvm.MethodName) ({ cls := "RetentionVault$Version", name := "isFetchedFor", desc := "(I)Z" } : Jvm.MethodName)) ∈ tb := tb_t3 38 rfl rfl
theorem w_519 : (Jvm.Cond.code ({ cls := "RetentionVault$Version", name := "isFetchedFor", desc := "(I)Z" } : Jvm.MethodName) prog_4_method_10_code (2 : Nat) (Option.some Jvm.ClassFile.FieldType.boolean)) ∈ tb := tb_t3 39 rfl rfl
theorem w_521 : (Jvm.Cond.methodLink "RetentionVaultLaw" (111 : Nat) ({ cls := "RetentionVaultLaw", name := "tick", desc := "(LRetentionVault;I[J)I" } : Jvm.MethodName)) ∈ tb := tb_t3 41 rfl rfl
theorem w_522 : (Jvm.Cond.static ({ cls := "RetentionVaultLaw", name := "tick", desc := "(LRetentionVault;I[J)I" } : Jvm.MethodName)) ∈ tb := tb_t3 42 rfl rfl
theorem w_523 : (Jvm.Cond.codeWith ({ cls := "RetentionVaultLaw", name := "tick", desc := "(LRetentionVault;I[J)I" } : Jvm.MethodName) method_12_code (4 : Nat) (Option.some Jvm.ClassFile.FieldType.int) [((0 : Nat), (9 : Nat), (12 : Nat), (13 : Nat))]) ∈ tb := tb_t3 43 rfl rfl
theorem w_524 : (Jvm.Cond.methodLink "RetentionVaultLaw" (50 : Nat) ({ cls := "RetentionVault", name := "tick", desc := "(I)I" } : Jvm.MethodName)) ∈ tb := tb_t3 44 rfl rfl
theorem w_525 : (Jvm.Cond.instanceMethod ({ cls := "RetentionVault", name := "tick", desc := "(I)I" } : Jvm.MethodName)) ∈ tb := tb_t3 45 rfl rfl
theorem w_526 : (Jvm.Cond.selects "RetentionVault" ({ cls := "RetentionVault", name := "tick", desc := "(I)I" } : Jvm.MethodName) ({ cls := "RetentionVault", name := "tick", desc := "(I)I" } : Jvm.MethodName)) ∈ tb := tb_t3 46 rfl rfl
theorem w_527 : (Jvm.Cond.code ({ cls := "RetentionVault", name := "tick", desc := "(I)I" } : Jvm.MethodName) prog_1_method_11_code (4 : Nat) (Option.some Jvm.ClassFile.FieldType.int)) ∈ tb := tb_t3 47 rfl rfl
theorem w_528 : (Jvm.Cond.methodLink "RetentionVault" (151 : Nat) ({ cls := "RetentionVault", name := "goThroughVersions", desc := "()V" } : Jvm.MethodName)) ∈ tb := tb_t3 48 rfl rfl
theorem w_530 : (Jvm.Cond.instanceMethod ({ cls := "RetentionVault", name := "goThroughVersions", desc := "()V" } : Jvm.MethodName)) ∈ tb := tb_t3 50 rfl rfl
theorem w_531 : (Jvm.Cond.code ({ cls := "RetentionVault", name := "goThroughVersions", desc := "()V" } : Jvm.MethodName) prog_1_method_27_code (4 : Nat) (Option.none : Option Jvm.ClassFile.FieldType)) ∈ tb := tb_t3 51 rfl rfl
theorem w_532 : (Jvm.Cond.methodLink "RetentionVault" (233 : Nat) ({ cls := "RetentionVault", name := "goThroughRules", desc := "(LRetentionVault$Version;)V" } : Jvm.MethodName)) ∈ tb := tb_t3 52 rfl rfl
theorem w_534 : (Jvm.Cond.instanceMethod ({ cls := "RetentionVault", name := "goThroughRules", desc := "(LRetentionVault$Version;)V" } : Jvm.MethodName)) ∈ tb := tb_t3 54 rfl rfl
theorem w_535 : (Jvm.Cond.code ({ cls := "RetentionVault", name := "goThroughRules", desc := "(LRetentionVault$Version;)V" } : Jvm.MethodName) prog_1_method_28_code (4 : Nat) (Option.none : Option Jvm.ClassFile.FieldType)) ∈ tb := tb_t3 55 rfl rfl
theorem w_536 : (Jvm.Cond.methodLink "RetentionVault" (236 : Nat) ({ cls := "RetentionVault$Rule", name := "isDue", desc := "(LRetentionVault$Version;I)Z" } : Jvm.MethodName)) ∈ tb := tb_t3 56 rfl rfl
theorem w_537 : (Jvm.Cond.instanceMethod ({ cls := "RetentionVault$Rule", name := "isDue", desc := "(LRetentionVault$Version;I)Z" } : Jvm.MethodName)) ∈ tb := tb_t3 57 rfl rfl
theorem w_538 : (Jvm.Cond.selects "RetentionVault$Rule" ({ cls := "RetentionVault$Rule", name := "isDue", desc := "(LRetentionVault$Version;I)Z" } : Jvm.MethodName) ({ cls := "RetentionVault$Rule", name := "isDue", desc := "(LRetentionVault$Version;I)Z" } : Jvm.MethodName)) ∈ tb := tb_t3 58 rfl rfl
theorem w_539 : (Jvm.Cond.code ({ cls := "RetentionVault$Rule", name := "isDue", desc := "(LRetentionVault$Version;I)Z" } : Jvm.MethodName) prog_3_method_4_code (3 : Nat) (Option.some Jvm.ClassFile.FieldType.boolean)) ∈ tb := tb_t3 59 rfl rfl
theorem w_540 : (Jvm.Cond.methodLink "RetentionVault$Rule" (25 : Nat) ({ cls := "RetentionVault$Rule", name := "isEmpty", desc := "()Z" } : Jvm.MethodName)) ∈ tb := tb_t3 60 rfl rfl
theorem w_541 : (Jvm.Cond.methodLink "RetentionVault$Rule" (35 : Nat) ({ cls := "RetentionVault$Version", name := "since", desc := "()I" } : Jvm.MethodName)) ∈ tb := tb_t3 61 rfl rfl
theorem w_542 : (Jvm.Cond.instanceMethod ({ cls := "RetentionVault$Version", name := "since", desc := "()I" } : Jvm.MethodName)) ∈ tb := tb_t3 62 rfl rfl
theorem w_543 : (Jvm.Cond.selects "RetentionVault$Version" ({ cls := "RetentionVault$Version", name := "since", desc := "()I" } : Jvm.MethodName) ({ cls := "RetentionVault$Version", name := "since", desc := "()I" } : Jvm.MethodName)) ∈ tb := tb_t3 63 rfl rfl
theorem w_544 : (Jvm.Cond.code ({ cls := "RetentionVault$Version", name := "since", desc := "()I" } : Jvm.MethodName) prog_4_method_5_code (1 : Nat) (Option.some Jvm.ClassFile.FieldType.int)) ∈ tb := tb_t3 64 rfl rfl
theorem w_545 : (Jvm.Cond.methodLink "RetentionVault" (240 : Nat) ({ cls := "RetentionVault", name := "cool", desc := "(LRetentionVault$Version;I)V" } : Jvm.MethodName)) ∈ tb := tb_t3 65 rfl rfl
theorem w_547 : (Jvm.Cond.instanceMethod ({ cls := "RetentionVault", name := "cool", desc := "(LRetentionVault$Version;I)V" } : Jvm.MethodName)) ∈ tb := tb_t3 67 rfl rfl
theorem w_548 : (Jvm.Cond.code ({ cls := "RetentionVault", name := "cool", desc := "(LRetentionVault$Version;I)V" } : Jvm.MethodName) prog_1_method_29_code (3 : Nat) (Option.none : Option Jvm.ClassFile.FieldType)) ∈ tb := tb_t3 68 rfl rfl
theorem w_549 : (Jvm.Cond.methodLink "RetentionVault" (244 : Nat) ({ cls := "RetentionVault", name := "expire", desc := "(LRetentionVault$Version;)Z" } : Jvm.MethodName)) ∈ tb := tb_t3 69 rfl rfl
theorem w_551 : (Jvm.Cond.instanceMethod ({ cls := "RetentionVault", name := "expire", desc := "(LRetentionVault$Version;)Z" } : Jvm.MethodName)) ∈ tb := tb_t3 71 rfl rfl
theorem w_552 : (Jvm.Cond.code ({ cls := "RetentionVault", name := "expire", desc := "(LRetentionVault$Version;)Z" } : Jvm.MethodName) prog_1_method_30_code (2 : Nat) (Option.some Jvm.ClassFile.FieldType.boolean)) ∈ tb := tb_t3 72 rfl rfl
theorem w_553 : (Jvm.Cond.methodLink "RetentionVault" (164 : Nat) ({ cls := "RetentionVault$Version", name := "isGuarded", desc := "(I)Z" } : Jvm.MethodName)) ∈ tb := tb_t3 73 rfl rfl
theorem w_554 : (Jvm.Cond.instanceMethod ({ cls := "RetentionVault$Version", name := "isGuarded", desc := "(I)Z" } : Jvm.MethodName)) ∈ tb := tb_t3 74 rfl rfl
theorem w_555 : (Jvm.Cond.selects "RetentionVault$Version" ({ cls := "RetentionVault$Version", name := "isGuarded", desc := "(I)Z" } : Jvm.MethodName) ({ cls := "RetentionVault$Version", name := "isGuarded", desc := "(I)Z" } : Jvm.MethodName)) ∈ tb := tb_t3 75 rfl rfl
theorem w_556 : (Jvm.Cond.code ({ cls := "RetentionVault$Version", name := "isGuarded", desc := "(I)Z" } : Jvm.MethodName) prog_4_method_9_code (2 : Nat) (Option.some Jvm.ClassFile.FieldType.boolean)) ∈ tb := tb_t3 76 rfl rfl
theorem w_557 : (Jvm.Cond.methodLink "RetentionVault$Version" (50 : Nat) ({ cls := "RetentionVault$Version", name := "isHeld", desc := "()Z" } : Jvm.MethodName)) ∈ tb := tb_t3 77 rfl rfl
theorem w_558 : (Jvm.Cond.methodLink "RetentionVault" (154 : Nat) ({ cls := "RetentionVault", name := "takeLoneMarkersAway", desc := "()V" } : Jvm.MethodName)) ∈ tb := tb_t3 78 rfl rfl
theorem w_560 : (Jvm.Cond.instanceMethod ({ cls := "RetentionVault", name := "takeLoneMarkersAway", desc := "()V" } : Jvm.MethodName)) ∈ tb := tb_t3 80 rfl rfl
theorem w_561 : (Jvm.Cond.code ({ cls := "RetentionVault", name := "takeLoneMarkersAway", desc := "()V" } : Jvm.MethodName) prog_1_method_31_code (4 : Nat) (Option.none : Option Jvm.ClassFile.FieldType)) ∈ tb := tb_t3 81 rfl rfl
theorem w_562 : (Jvm.Cond.methodLink "RetentionVault" (248 : Nat) ({ cls := "RetentionVault", name := "isAlone", desc := "(LRetentionVault$Version;)Z" } : Jvm.MethodName)) ∈ tb := tb_t3 82 rfl rfl
theorem w_564 : (Jvm.Cond.instanceMethod ({ cls := "RetentionVault", name := "isAlone", desc := "(LRetentionVault$Version;)Z" } : Jvm.MethodName)) ∈ tb := tb_t3 84 rfl rfl
theorem w_565 : (Jvm.Cond.code ({ cls := "RetentionVault", name := "isAlone", desc := "(LRetentionVault$Version;)Z" } : Jvm.MethodName) prog_1_method_32_code (4 : Nat) (Option.some Jvm.ClassFile.FieldType.boolean)) ∈ tb := tb_t3 85 rfl rfl
theorem w_566 : (Jvm.Cond.methodLink "RetentionVaultLaw" (114 : Nat) ({ cls := "RetentionVaultLaw", name := "current", desc := "(LRetentionVault;I[J)I" } : Jvm.MethodName)) ∈ tb := tb_t3 86 rfl rfl
theorem w_567 : (Jvm.Cond.static ({ cls := "RetentionVaultLaw", name := "current", desc := "(LRetentionVault;I[J)I" } : Jvm.MethodName)) ∈ tb := tb_t3 87 rfl rfl
theorem w_568 : (Jvm.Cond.codeWith ({ cls := "RetentionVaultLaw", name := "current", desc := "(LRetentionVault;I[J)I" } : Jvm.MethodName) method_13_code (4 : Nat) (Option.some Jvm.ClassFile.FieldType.int) [((0 : Nat), (9 : Nat), (12 : Nat), (21 : Nat))]) ∈ tb := tb_t3 88 rfl rfl
theorem w_569 : (Jvm.Cond.methodLink "RetentionVaultLaw" (53 : Nat) ({ cls := "RetentionVault", name := "current", desc := "(I)I" } : Jvm.MethodName)) ∈ tb := tb_t3 89 rfl rfl
theorem w_570 : (Jvm.Cond.instanceMethod ({ cls := "RetentionVault", name := "current", desc := "(I)I" } : Jvm.MethodName)) ∈ tb := tb_t3 90 rfl rfl
theorem w_571 : (Jvm.Cond.selects "RetentionVault" ({ cls := "RetentionVault", name := "current", desc := "(I)I" } : Jvm.MethodName) ({ cls := "RetentionVault", name := "current", desc := "(I)I" } : Jvm.MethodName)) ∈ tb := tb_t3 91 rfl rfl
theorem w_572 : (Jvm.Cond.code ({ cls := "RetentionVault", name := "current", desc := "(I)I" } : Jvm.MethodName) prog_1_method_12_code (2 : Nat) (Option.some Jvm.ClassFile.FieldType.int)) ∈ tb := tb_t3 92 rfl rfl
theorem w_573 : (Jvm.Cond.methodLink "RetentionVaultLaw" (117 : Nat) ({ cls := "RetentionVaultLaw", name := "about", desc := "(LRetentionVault;II[J)I" } : Jvm.MethodName)) ∈ tb := tb_t3 93 rfl rfl
theorem w_574 : (Jvm.Cond.static ({ cls := "RetentionVaultLaw", name := "about", desc := "(LRetentionVault;II[J)I" } : Jvm.MethodName)) ∈ tb := tb_t3 94 rfl rfl
theorem w_575 : (Jvm.Cond.codeWith ({ cls := "RetentionVaultLaw", name := "about", desc := "(LRetentionVault;II[J)I" } : Jvm.MethodName) method_14_code (5 : Nat) (Option.some Jvm.ClassFile.FieldType.int) [((0 : Nat), (10 : Nat), (13 : Nat), (21 : Nat)), ((0 : Nat), (10 : Nat), (17 : Nat), (13 : Nat))]) ∈ tb := tb_t3 95 rfl rfl
theorem w_576 : (Jvm.Cond.methodLink "RetentionVaultLaw" (56 : Nat) ({ cls := "RetentionVault", name := "about", desc := "(II)I" } : Jvm.MethodName)) ∈ tb := tb_t3 96 rfl rfl
theorem w_577 : (Jvm.Cond.instanceMethod ({ cls := "RetentionVault", name := "about", desc := "(II)I" } : Jvm.MethodName)) ∈ tb := tb_t3 97 rfl rfl
theorem w_578 : (Jvm.Cond.selects "RetentionVault" ({ cls := "RetentionVault", name := "about", desc := "(II)I" } : Jvm.MethodName) ({ cls := "RetentionVault", name := "about", desc := "(II)I" } : Jvm.MethodName)) ∈ tb := tb_t3 98 rfl rfl
theorem w_579 : (Jvm.Cond.code ({ cls := "RetentionVault", name := "about", desc := "(II)I" } : Jvm.MethodName) prog_1_method_13_code (4 : Nat) (Option.some Jvm.ClassFile.FieldType.int)) ∈ tb := tb_t3 99 rfl rfl
theorem w_580 : (Jvm.Cond.methodLink "RetentionVault" (157 : Nat) ({ cls := "RetentionVault$Version", name := "since", desc := "()I" } : Jvm.MethodName)) ∈ tb := tb_t3 100 rfl rfl
theorem w_582 : (Jvm.Cond.methodLink "RetentionVaultLaw" (120 : Nat) ({ cls := "RetentionVaultLaw", name := "entry", desc := "(LRetentionVault;II[J)I" } : Jvm.MethodName)) ∈ tb := tb_t3 102 rfl rfl
theorem w_583 : (Jvm.Cond.static ({ cls := "RetentionVaultLaw", name := "entry", desc := "(LRetentionVault;II[J)I" } : Jvm.MethodName)) ∈ tb := tb_t3 103 rfl rfl
theorem w_584 : (Jvm.Cond.codeWith ({ cls := "RetentionVaultLaw", name := "entry", desc := "(LRetentionVault;II[J)I" } : Jvm.MethodName) method_15_code (5 : Nat) (Option.some Jvm.ClassFile.FieldType.int) [((0 : Nat), (10 : Nat), (13 : Nat), (13 : Nat)), ((0 : Nat), (10 : Nat), (17 : Nat), (62 : Nat))]) ∈ tb := tb_t3 104 rfl rfl
theorem w_585 : (Jvm.Cond.classLink "RetentionVaultLaw" (62 : Nat) "java/lang/IndexOutOfBoundsException") ∈ tb := tb_t3 105 rfl rfl
theorem w_586 : (Jvm.Cond.methodLink "RetentionVaultLaw" (59 : Nat) ({ cls := "RetentionVault", name := "entry", desc := "(II)I" } : Jvm.MethodName)) ∈ tb := tb_t3 106 rfl rfl
theorem w_587 : (Jvm.Cond.instanceMethod ({ cls := "RetentionVault", name := "entry", desc := "(II)I" } : Jvm.MethodName)) ∈ tb := tb_t3 107 rfl rfl
theorem w_588 : (Jvm.Cond.selects "RetentionVault" ({ cls := "RetentionVault", name := "entry", desc := "(II)I" } : Jvm.MethodName) ({ cls := "RetentionVault", name := "entry", desc := "(II)I" } : Jvm.MethodName)) ∈ tb := tb_t3 108 rfl rfl
theorem w_589 : (Jvm.Cond.code ({ cls := "RetentionVault", name := "entry", desc := "(II)I" } : Jvm.MethodName) prog_1_method_14_code (3 : Nat) (Option.some Jvm.ClassFile.FieldType.int)) ∈ tb := tb_t3 109 rfl rfl
theorem w_590 : (Jvm.Cond.methodLink "RetentionVault" (172 : Nat) ({ cls := "RetentionVault$Log", name := "keeps", desc := "(I)Z" } : Jvm.MethodName)) ∈ tb := tb_t3 110 rfl rfl
theorem w_591 : (Jvm.Cond.instanceMethod ({ cls := "RetentionVault$Log", name := "keeps", desc := "(I)Z" } : Jvm.MethodName)) ∈ tb := tb_t3 111 rfl rfl
theorem w_592 : (Jvm.Cond.selects "RetentionVault$Log" ({ cls := "RetentionVault$Log", name := "keeps", desc := "(I)Z" } : Jvm.MethodName) ({ cls := "RetentionVault$Log", name := "keeps", desc := "(I)Z" } : Jvm.MethodName)) ∈ tb := tb_t3 112 rfl rfl
theorem w_593 : (Jvm.Cond.code ({ cls := "RetentionVault$Log", name := "keeps", desc := "(I)Z" } : Jvm.MethodName) prog_2_method_3_code (2 : Nat) (Option.some Jvm.ClassFile.FieldType.boolean)) ∈ tb := tb_t3 113 rfl rfl
theorem w_594 : (Jvm.Cond.classLink "RetentionVault" (175 : Nat) "java/lang/IndexOutOfBoundsException") ∈ tb := tb_t3 114 rfl rfl
theorem w_595 : (Jvm.Cond.instantiable "java/lang/IndexOutOfBoundsException" (6 : Nat)) ∈ tb := tb_t3 115 rfl rfl
theorem w_597 : (Jvm.Cond.selects "java/lang/IndexOutOfBoundsException" ({ cls := "java/lang/Throwable", name := "fillInStackTrace", desc := "(I)Ljava/lang/Throwable;" } : Jvm.MethodName) ({ cls := "java/lang/Throwable", name := "fillInStackTrace", desc := "(I)Ljava/lang/Throwable;" } : Jvm.MethodName)) ∈ tb := tb_t3 117 rfl rfl
theorem w_598 : (Jvm.Cond.lays "java/lang/IndexOutOfBoundsException" "java/lang/Throwable" "cause" "Ljava/lang/Throwable;") ∈ tb := tb_t3 118 rfl rfl
theorem w_599 : (Jvm.Cond.lays "java/lang/IndexOutOfBoundsException" "java/lang/Throwable" "stackTrace" "[Ljava/lang/StackTraceElement;") ∈ tb := tb_t3 119 rfl rfl
theorem w_600 : (Jvm.Cond.lays "java/lang/IndexOutOfBoundsException" "java/lang/Throwable" "suppressedExceptions" "Ljava/util/List;") ∈ tb := tb_t3 120 rfl rfl
theorem w_601 : (Jvm.Cond.lays "java/lang/IndexOutOfBoundsException" "java/lang/Throwable" "detailMessage" "Ljava/lang/String;") ∈ tb := tb_t3 121 rfl rfl
theorem w_602 : (Jvm.Cond.lays "java/lang/IndexOutOfBoundsException" "java/lang/Throwable" "backtrace" "Ljava/lang/Object;") ∈ tb := tb_t3 122 rfl rfl
theorem w_604 : (Jvm.Cond.methodLink "RetentionVault" (179 : Nat) ({ cls := "java/lang/IndexOutOfBoundsException", name := "<init>", desc := "(Ljava/lang/String;)V" } : Jvm.MethodName)) ∈ tb := tb_t3 124 rfl rfl
theorem w_605 : (Jvm.Cond.instanceMethod ({ cls := "java/lang/IndexOutOfBoundsException", name := "<init>", desc := "(Ljava/lang/String;)V" } : Jvm.MethodName)) ∈ tb := tb_t3 125 rfl rfl
theorem w_606 : (Jvm.Cond.code ({ cls := "java/lang/IndexOutOfBoundsException", name := "<init>", desc := "(Ljava/lang/String;)V" } : Jvm.MethodName) prog_12_method_2_code (2 : Nat) (Option.none : Option Jvm.ClassFile.FieldType)) ∈ tb := tb_t3 126 rfl rfl
theorem w_607 : (Jvm.Cond.methodLink "java/lang/IndexOutOfBoundsException" (7 : Nat) ({ cls := "java/lang/RuntimeException", name := "<init>", desc := "(Ljava/lang/String;)V" } : Jvm.MethodName)) ∈ tb := tb_t3 127 rfl rfl
theorem w_608 : (Jvm.Cond.lays "java/lang/IndexOutOfBoundsException" "java/lang/Throwable" "depth" "I") ∈ tb := tb_t3 128 rfl rfl
theorem w_609 : (Jvm.Cond.superclass "java/lang/IndexOutOfBoundsException" "java/lang/RuntimeException") ∈ tb := tb_t3 129 rfl rfl
theorem w_610 : (Jvm.Cond.methodLink "RetentionVault" (180 : Nat) ({ cls := "RetentionVault$Log", name := "numberOf", desc := "(II)I" } : Jvm.MethodName)) ∈ tb := tb_t3 130 rfl rfl
theorem w_611 : (Jvm.Cond.instanceMethod ({ cls := "RetentionVault$Log", name := "numberOf", desc := "(II)I" } : Jvm.MethodName)) ∈ tb := tb_t3 131 rfl rfl
theorem w_612 : (Jvm.Cond.selects "RetentionVault$Log" ({ cls := "RetentionVault$Log", name := "numberOf", desc := "(II)I" } : Jvm.MethodName) ({ cls := "RetentionVault$Log", name := "numberOf", desc := "(II)I" } : Jvm.MethodName)) ∈ tb := tb_t3 132 rfl rfl
theorem w_613 : (Jvm.Cond.code ({ cls := "RetentionVault$Log", name := "numberOf", desc := "(II)I" } : Jvm.MethodName) prog_2_method_4_code (3 : Nat) (Option.some Jvm.ClassFile.FieldType.int)) ∈ tb := tb_t3 133 rfl rfl
theorem w_614 : (Jvm.Cond.methodLink "RetentionVaultLaw" (128 : Nat) ({ cls := "RetentionVaultLaw", name := "figure", desc := "(LRetentionVault;I[J)I" } : Jvm.MethodName)) ∈ tb := tb_t3 134 rfl rfl
theorem w_615 : (Jvm.Cond.static ({ cls := "RetentionVaultLaw", name := "figure", desc := "(LRetentionVault;I[J)I" } : Jvm.MethodName)) ∈ tb := tb_t3 135 rfl rfl
theorem w_616 : (Jvm.Cond.codeWith ({ cls := "RetentionVaultLaw", name := "figure", desc := "(LRetentionVault;I[J)I" } : Jvm.MethodName) method_16_code (4 : Nat) (Option.some Jvm.ClassFile.FieldType.int) [((0 : Nat), (9 : Nat), (12 : Nat), (13 : Nat))]) ∈ tb := tb_t3 136 rfl rfl
theorem w_617 : (Jvm.Cond.methodLink "RetentionVaultLaw" (64 : Nat) ({ cls := "RetentionVault", name := "figure", desc := "(I)I" } : Jvm.MethodName)) ∈ tb := tb_t3 137 rfl rfl
theorem w_618 : (Jvm.Cond.instanceMethod ({ cls := "RetentionVault", name := "figure", desc := "(I)I" } : Jvm.MethodName)) ∈ tb := tb_t3 138 rfl rfl
theorem w_619 : (Jvm.Cond.selects "RetentionVault" ({ cls := "RetentionVault", name := "figure", desc := "(I)I" } : Jvm.MethodName) ({ cls := "RetentionVault", name := "figure", desc := "(I)I" } : Jvm.MethodName)) ∈ tb := tb_t3 139 rfl rfl
theorem w_620 : (Jvm.Cond.code ({ cls := "RetentionVault", name := "figure", desc := "(I)I" } : Jvm.MethodName) prog_1_method_16_code (2 : Nat) (Option.some Jvm.ClassFile.FieldType.int)) ∈ tb := tb_t3 140 rfl rfl
theorem w_621 : (Jvm.Cond.methodLink "RetentionVault" (190 : Nat) ({ cls := "RetentionVault", name := "sumOfSizes", desc := "()I" } : Jvm.MethodName)) ∈ tb := tb_t3 141 rfl rfl
theorem w_623 : (Jvm.Cond.instanceMethod ({ cls := "RetentionVault", name := "sumOfSizes", desc := "()I" } : Jvm.MethodName)) ∈ tb := tb_t3 143 rfl rfl
theorem w_624 : (Jvm.Cond.code ({ cls := "RetentionVault", name := "sumOfSizes", desc := "()I" } : Jvm.MethodName) prog_1_method_33_code (3 : Nat) (Option.some Jvm.ClassFile.FieldType.int)) ∈ tb := tb_t3 144 rfl rfl
theorem w_625 : (Jvm.Cond.methodLink "RetentionVault" (193 : Nat) ({ cls := "RetentionVault", name := "countOfGuarded", desc := "()I" } : Jvm.MethodName)) ∈ tb := tb_t3 145 rfl rfl
theorem w_627 : (Jvm.Cond.instanceMethod ({ cls := "RetentionVault", name := "countOfGuarded", desc := "()I" } : Jvm.MethodName)) ∈ tb := tb_t3 147 rfl rfl
theorem w_628 : (Jvm.Cond.code ({ cls := "RetentionVault", name := "countOfGuarded", desc := "()I" } : Jvm.MethodName) prog_1_method_34_code (3 : Nat) (Option.some Jvm.ClassFile.FieldType.int)) ∈ tb := tb_t3 148 rfl rfl
theorem w_630 : (Jvm.Cond.classLink "RetentionVaultLaw" (68 : Nat) "RetentionVaultModel") ∈ tb := tb_t3 150 rfl rfl
theorem w_631 : (Jvm.Cond.instantiable "RetentionVaultModel" (23 : Nat)) ∈ tb := tb_t3 151 rfl rfl
theorem w_632 : (Jvm.Cond.methodLink "RetentionVaultLaw" (70 : Nat) ({ cls := "RetentionVaultModel", name := "<init>", desc := "()V" } : Jvm.MethodName)) ∈ tb := tb_t3 152 rfl rfl
theorem w_633 : (Jvm.Cond.instanceMethod ({ cls := "RetentionVaultModel", name := "<init>", desc := "()V" } : Jvm.MethodName)) ∈ tb := tb_t3 153 rfl rfl
theorem w_634 : (Jvm.Cond.code ({ cls := "RetentionVaultModel", name := "<init>", desc := "()V" } : Jvm.MethodName) prog_6_method_1_code (1 : Nat) (Option.none : Option Jvm.ClassFile.FieldType)) ∈ tb := tb_t3 154 rfl rfl
theorem w_635 : (Jvm.Cond.methodLink "RetentionVaultModel" (1 : Nat) ({ cls := "java/lang/Object", name := "<init>", desc := "()V" } : Jvm.MethodName)) ∈ tb := tb_t3 155 rfl rfl
theorem w_636 : (Jvm.Cond.constantLong "RetentionVaultModel" (62 : Nat) (7 : Int64)) ∈ tb := tb_t3 156 rfl rfl
theorem w_637 : (Jvm.Cond.fieldLink "RetentionVaultModel" (68 : Nat) "RetentionVaultModel" "code" "I") ∈ tb := tb_t3 157 rfl rfl
theorem w_638 : (Jvm.Cond.fieldLink "RetentionVaultModel" (75 : Nat) "RetentionVaultModel" "day" "I") ∈ tb := tb_t3 158 rfl rfl
theorem w_639 : (Jvm.Cond.fieldLink "RetentionVaultModel" (97 : Nat) "RetentionVaultModel" "made" "I") ∈ tb := tb_t3 159 rfl rfl
theorem w_640 : (Jvm.Cond.fieldLink "RetentionVaultModel" (80 : Nat) "RetentionVaultModel" "count" "I") ∈ tb := tb_t3 160 rfl rfl
theorem w_641 : (Jvm.Cond.fieldLink "RetentionVaultModel" (7 : Nat) "RetentionVaultModel" "number" "[I") ∈ tb := tb_t3 161 rfl rfl
theorem w_642 : (Jvm.Cond.fieldLink "RetentionVaultModel" (13 : Nat) "RetentionVaultModel" "key" "[I") ∈ tb := tb_t3 162 rfl rfl
theorem w_643 : (Jvm.Cond.fieldLink "RetentionVaultModel" (16 : Nat) "RetentionVaultModel" "size" "[I") ∈ tb := tb_t3 163 rfl rfl
theorem w_644 : (Jvm.Cond.fieldLink "RetentionVaultModel" (19 : Nat) "RetentionVaultModel" "tag" "[I") ∈ tb := tb_t3 164 rfl rfl
theorem w_645 : (Jvm.Cond.fieldLink "RetentionVaultModel" (22 : Nat) "RetentionVaultModel" "putOn" "[I") ∈ tb := tb_t3 165 rfl rfl
theorem w_646 : (Jvm.Cond.fieldLink "RetentionVaultModel" (25 : Nat) "RetentionVaultModel" "ceased" "[I") ∈ tb := tb_t3 166 rfl rfl
theorem w_647 : (Jvm.Cond.fieldLink "RetentionVaultModel" (28 : Nat) "RetentionVaultModel" "tier" "[I") ∈ tb := tb_t3 167 rfl rfl
theorem w_648 : (Jvm.Cond.fieldLink "RetentionVaultModel" (31 : Nat) "RetentionVaultModel" "until" "[I") ∈ tb := tb_t3 168 rfl rfl
theorem w_649 : (Jvm.Cond.fieldLink "RetentionVaultModel" (34 : Nat) "RetentionVaultModel" "strict" "[Z") ∈ tb := tb_t3 169 rfl rfl
theorem w_650 : (Jvm.Cond.fieldLink "RetentionVaultModel" (38 : Nat) "RetentionVaultModel" "holds" "[I") ∈ tb := tb_t3 170 rfl rfl
theorem w_651 : (Jvm.Cond.fieldLink "RetentionVaultModel" (41 : Nat) "RetentionVaultModel" "from" "[I") ∈ tb := tb_t3 171 rfl rfl
theorem w_652 : (Jvm.Cond.fieldLink "RetentionVaultModel" (44 : Nat) "RetentionVaultModel" "before" "[I") ∈ tb := tb_t3 172 rfl rfl
theorem w_653 : (Jvm.Cond.fieldLink "RetentionVaultModel" (47 : Nat) "RetentionVaultModel" "action" "[I") ∈ tb := tb_t3 173 rfl rfl
theorem w_654 : (Jvm.Cond.fieldLink "RetentionVaultModel" (50 : Nat) "RetentionVaultModel" "ruleTag" "[I") ∈ tb := tb_t3 174 rfl rfl
theorem w_655 : (Jvm.Cond.fieldLink "RetentionVaultModel" (53 : Nat) "RetentionVaultModel" "ruleCurrent" "[Z") ∈ tb := tb_t3 175 rfl rfl
theorem w_656 : (Jvm.Cond.fieldLink "RetentionVaultModel" (56 : Nat) "RetentionVaultModel" "ruleDays" "[I") ∈ tb := tb_t3 176 rfl rfl
theorem w_657 : (Jvm.Cond.fieldLink "RetentionVaultModel" (72 : Nat) "RetentionVaultModel" "entries" "I") ∈ tb := tb_t3 177 rfl rfl
theorem w_658 : (Jvm.Cond.fieldLink "RetentionVaultModel" (59 : Nat) "RetentionVaultModel" "log" "[I") ∈ tb := tb_t3 178 rfl rfl
theorem w_659 : (Jvm.Cond.fieldLink "RetentionVaultModel" (64 : Nat) "RetentionVaultModel" "link" "J") ∈ tb := tb_t3 179 rfl rfl
theorem w_660 : (Jvm.Cond.lays "RetentionVaultModel" "RetentionVaultModel" "code" "I") ∈ tb := tb_t3 180 rfl rfl
theorem w_661 : (Jvm.Cond.soleField "RetentionVaultModel" "code") ∈ tb := tb_t3 181 rfl rfl
theorem w_662 : (Jvm.Cond.lays "RetentionVaultModel" "RetentionVaultModel" "day" "I") ∈ tb := tb_t3 182 rfl rfl
theorem w_663 : (Jvm.Cond.soleField "RetentionVaultModel" "day") ∈ tb := tb_t3 183 rfl rfl
theorem w_664 : (Jvm.Cond.lays "RetentionVaultModel" "RetentionVaultModel" "made" "I") ∈ tb := tb_t3 184 rfl rfl
theorem w_665 : (Jvm.Cond.soleField "RetentionVaultModel" "made") ∈ tb := tb_t3 185 rfl rfl
theorem w_666 : (Jvm.Cond.lays "RetentionVaultModel" "RetentionVaultModel" "count" "I") ∈ tb := tb_t3 186 rfl rfl
theorem w_667 : (Jvm.Cond.soleField "RetentionVaultModel" "count") ∈ tb := tb_t3 187 rfl rfl
theorem w_668 : (Jvm.Cond.laysFinal "RetentionVaultModel" "RetentionVaultModel" "number" "[I") ∈ tb := tb_t3 188 rfl rfl
theorem w_669 : (Jvm.Cond.soleField "RetentionVaultModel" "number") ∈ tb := tb_t3 189 rfl rfl
theorem w_670 : (Jvm.Cond.laysFinal "RetentionVaultModel" "RetentionVaultModel" "key" "[I") ∈ tb := tb_t3 190 rfl rfl
theorem w_671 : (Jvm.Cond.soleField "RetentionVaultModel" "key") ∈ tb := tb_t3 191 rfl rfl
theorem w_672 : (Jvm.Cond.laysFinal "RetentionVaultModel" "RetentionVaultModel" "size" "[I") ∈ tb := tb_t3 192 rfl rfl
theorem w_673 : (Jvm.Cond.soleField "RetentionVaultModel" "size") ∈ tb := tb_t3 193 rfl rfl
theorem w_674 : (Jvm.Cond.laysFinal "RetentionVaultModel" "RetentionVaultModel" "tag" "[I") ∈ tb := tb_t3 194 rfl rfl
theorem w_675 : (Jvm.Cond.soleField "RetentionVaultModel" "tag") ∈ tb := tb_t3 195 rfl rfl
theorem w_676 : (Jvm.Cond.laysFinal "RetentionVaultModel" "RetentionVaultModel" "putOn" "[I") ∈ tb := tb_t3 196 rfl rfl
theorem w_677 : (Jvm.Cond.soleField "RetentionVaultModel" "putOn") ∈ tb := tb_t3 197 rfl rfl
theorem w_678 : (Jvm.Cond.laysFinal "RetentionVaultModel" "RetentionVaultModel" "ceased" "[I") ∈ tb := tb_t3 198 rfl rfl
theorem w_679 : (Jvm.Cond.soleField "RetentionVaultModel" "ceased") ∈ tb := tb_t3 199 rfl rfl
theorem w_680 : (Jvm.Cond.laysFinal "RetentionVaultModel" "RetentionVaultModel" "tier" "[I") ∈ tb := tb_t3 200 rfl rfl
theorem w_681 : (Jvm.Cond.soleField "RetentionVaultModel" "tier") ∈ tb := tb_t3 201 rfl rfl
theorem w_682 : (Jvm.Cond.laysFinal "RetentionVaultModel" "RetentionVaultModel" "until" "[I") ∈ tb := tb_t3 202 rfl rfl
theorem w_683 : (Jvm.Cond.soleField "RetentionVaultModel" "until") ∈ tb := tb_t3 203 rfl rfl
theorem w_684 : (Jvm.Cond.laysFinal "RetentionVaultModel" "RetentionVaultModel" "strict" "[Z") ∈ tb := tb_t3 204 rfl rfl
theorem w_685 : (Jvm.Cond.soleField "RetentionVaultModel" "strict") ∈ tb := tb_t3 205 rfl rfl
theorem w_686 : (Jvm.Cond.laysFinal "RetentionVaultModel" "RetentionVaultModel" "holds" "[I") ∈ tb := tb_t3 206 rfl rfl
theorem w_687 : (Jvm.Cond.soleField "RetentionVaultModel" "holds") ∈ tb := tb_t3 207 rfl rfl
theorem w_688 : (Jvm.Cond.laysFinal "RetentionVaultModel" "RetentionVaultModel" "from" "[I") ∈ tb := tb_t3 208 rfl rfl
theorem w_689 : (Jvm.Cond.soleField "RetentionVaultModel" "from") ∈ tb := tb_t3 209 rfl rfl
theorem w_690 : (Jvm.Cond.laysFinal "RetentionVaultModel" "RetentionVaultModel" "before" "[I") ∈ tb := tb_t3 210 rfl rfl
theorem w_691 : (Jvm.Cond.soleField "RetentionVaultModel" "before") ∈ tb := tb_t3 211 rfl rfl
theorem w_692 : (Jvm.Cond.laysFinal "RetentionVaultModel" "RetentionVaultModel" "action" "[I") ∈ tb := tb_t3 212 rfl rfl
theorem w_693 : (Jvm.Cond.soleField "RetentionVaultModel" "action") ∈ tb := tb_t3 213 rfl rfl
theorem w_694 : (Jvm.Cond.laysFinal "RetentionVaultModel" "RetentionVaultModel" "ruleTag" "[I") ∈ tb := tb_t3 214 rfl rfl
theorem w_695 : (Jvm.Cond.soleField "RetentionVaultModel" "ruleTag") ∈ tb := tb_t3 215 rfl rfl
theorem w_696 : (Jvm.Cond.laysFinal "RetentionVaultModel" "RetentionVaultModel" "ruleCurrent" "[Z") ∈ tb := tb_t3 216 rfl rfl
theorem w_697 : (Jvm.Cond.soleField "RetentionVaultModel" "ruleCurrent") ∈ tb := tb_t3 217 rfl rfl
theorem w_698 : (Jvm.Cond.laysFinal "RetentionVaultModel" "RetentionVaultModel" "ruleDays" "[I") ∈ tb := tb_t3 218 rfl rfl
theorem w_699 : (Jvm.Cond.soleField "RetentionVaultModel" "ruleDays") ∈ tb := tb_t3 219 rfl rfl
theorem w_700 : (Jvm.Cond.lays "RetentionVaultModel" "RetentionVaultModel" "entries" "I") ∈ tb := tb_t3 220 rfl rfl
theorem w_701 : (Jvm.Cond.soleField "RetentionVaultModel" "entries") ∈ tb := tb_t3 221 rfl rfl
theorem w_702 : (Jvm.Cond.laysFinal "RetentionVaultModel" "RetentionVaultModel" "log" "[I") ∈ tb := tb_t3 222 rfl rfl
theorem w_703 : (Jvm.Cond.soleField "RetentionVaultModel" "log") ∈ tb := tb_t3 223 rfl rfl
theorem w_704 : (Jvm.Cond.lays "RetentionVaultModel" "RetentionVaultModel" "link" "J") ∈ tb := tb_t3 224 rfl rfl
theorem w_705 : (Jvm.Cond.soleField "RetentionVaultModel" "link") ∈ tb := tb_t3 225 rfl rfl
theorem w_706 : (Jvm.Cond.superclass "RetentionVaultModel" "java/lang/Object") ∈ tb := tb_t3 226 rfl rfl
theorem w_707 : (Jvm.Cond.arrayClass Jvm.ClassFile.FieldType.boolean) ∈ tb := tb_t3 227 rfl rfl
theorem w_708 : (Jvm.Cond.methodLink "RetentionVaultLaw" (77 : Nat) ({ cls := "RetentionVaultModel", name := "thrown", desc := "()I" } : Jvm.MethodName)) ∈ tb := tb_t3 228 rfl rfl
theorem w_709 : (Jvm.Cond.instanceMethod ({ cls := "RetentionVaultModel", name := "thrown", desc := "()I" } : Jvm.MethodName)) ∈ tb := tb_t3 229 rfl rfl
theorem w_710 : (Jvm.Cond.selects "RetentionVaultModel" ({ cls := "RetentionVaultModel", name := "thrown", desc := "()I" } : Jvm.MethodName) ({ cls := "RetentionVaultModel", name := "thrown", desc := "()I" } : Jvm.MethodName)) ∈ tb := tb_t3 230 rfl rfl
theorem w_711 : (Jvm.Cond.code ({ cls := "RetentionVaultModel", name := "thrown", desc := "()I" } : Jvm.MethodName) prog_6_method_2_code (1 : Nat) (Option.some Jvm.ClassFile.FieldType.int)) ∈ tb := tb_t3 231 rfl rfl
theorem w_712 : (Jvm.Cond.methodLink "RetentionVaultLaw" (76 : Nat) ({ cls := "RetentionVaultModel", name := "put", desc := "(III)I" } : Jvm.MethodName)) ∈ tb := tb_t3 232 rfl rfl
theorem w_713 : (Jvm.Cond.instanceMethod ({ cls := "RetentionVaultModel", name := "put", desc := "(III)I" } : Jvm.MethodName)) ∈ tb := tb_t3 233 rfl rfl
theorem w_714 : (Jvm.Cond.selects "RetentionVaultModel" ({ cls := "RetentionVaultModel", name := "put", desc := "(III)I" } : Jvm.MethodName) ({ cls := "RetentionVaultModel", name := "put", desc := "(III)I" } : Jvm.MethodName)) ∈ tb := tb_t3 234 rfl rfl
theorem w_715 : (Jvm.Cond.code ({ cls := "RetentionVaultModel", name := "put", desc := "(III)I" } : Jvm.MethodName) prog_6_method_13_code (4 : Nat) (Option.some Jvm.ClassFile.FieldType.int)) ∈ tb := tb_t3 235 rfl rfl
theorem w_716 : (Jvm.Cond.constant "RetentionVaultModel" (104 : Nat) (1000000 : Int32)) ∈ tb := tb_t3 236 rfl rfl
theorem w_717 : (Jvm.Cond.methodLink "RetentionVaultModel" (105 : Nat) ({ cls := "RetentionVaultModel", name := "add", desc := "(III)I" } : Jvm.MethodName)) ∈ tb := tb_t3 237 rfl rfl
theorem w_719 : (Jvm.Cond.instanceMethod ({ cls := "RetentionVaultModel", name := "add", desc := "(III)I" } : Jvm.MethodName)) ∈ tb := tb_t3 239 rfl rfl
theorem w_720 : (Jvm.Cond.code ({ cls := "RetentionVaultModel", name := "add", desc := "(III)I" } : Jvm.MethodName) prog_6_method_11_code (5 : Nat) (Option.some Jvm.ClassFile.FieldType.int)) ∈ tb := tb_t4 0 rfl rfl
theorem w_721 : (Jvm.Cond.methodLink "RetentionVaultModel" (87 : Nat) ({ cls := "RetentionVaultModel", name := "currentOf", desc := "(I)I" } : Jvm.MethodName)) ∈ tb := tb_t4 1 rfl rfl
theorem w_723 : (Jvm.Cond.instanceMethod ({ cls := "RetentionVaultModel", name := "currentOf", desc := "(I)I" } : Jvm.MethodName)) ∈ tb := tb_t4 3 rfl rfl
theorem w_724 : (Jvm.Cond.code ({ cls := "RetentionVaultModel", name := "currentOf", desc := "(I)I" } : Jvm.MethodName) prog_6_method_6_code (4 : Nat) (Option.some Jvm.ClassFile.FieldType.int)) ∈ tb := tb_t4 4 rfl rfl
theorem w_725 : (Jvm.Cond.methodLink "RetentionVaultModel" (100 : Nat) ({ cls := "RetentionVaultModel", name := "enter", desc := "(III)V" } : Jvm.MethodName)) ∈ tb := tb_t4 5 rfl rfl
theorem w_727 : (Jvm.Cond.instanceMethod ({ cls := "RetentionVaultModel", name := "enter", desc := "(III)V" } : Jvm.MethodName)) ∈ tb := tb_t4 7 rfl rfl
theorem w_728 : (Jvm.Cond.code ({ cls := "RetentionVaultModel", name := "enter", desc := "(III)V" } : Jvm.MethodName) prog_6_method_3_code (6 : Nat) (Option.none : Option Jvm.ClassFile.FieldType)) ∈ tb := tb_t4 8 rfl rfl
theorem w_729 : (Jvm.Cond.constantLong "RetentionVaultModel" (78 : Nat) (1099511628211 : Int64)) ∈ tb := tb_t4 9 rfl rfl
theorem w_730 : (Jvm.Cond.methodLink "RetentionVaultLaw" (84 : Nat) ({ cls := "RetentionVaultModel", name := "mark", desc := "(I)I" } : Jvm.MethodName)) ∈ tb := tb_t4 10 rfl rfl
theorem w_731 : (Jvm.Cond.instanceMethod ({ cls := "RetentionVaultModel", name := "mark", desc := "(I)I" } : Jvm.MethodName)) ∈ tb := tb_t4 11 rfl rfl
theorem w_732 : (Jvm.Cond.selects "RetentionVaultModel" ({ cls := "RetentionVaultModel", name := "mark", desc := "(I)I" } : Jvm.MethodName) ({ cls := "RetentionVaultModel", name := "mark", desc := "(I)I" } : Jvm.MethodName)) ∈ tb := tb_t4 12 rfl rfl
theorem w_733 : (Jvm.Cond.code ({ cls := "RetentionVaultModel", name := "mark", desc := "(I)I" } : Jvm.MethodName) prog_6_method_14_code (3 : Nat) (Option.some Jvm.ClassFile.FieldType.int)) ∈ tb := tb_t4 13 rfl rfl
theorem w_734 : (Jvm.Cond.methodLink "RetentionVaultLaw" (88 : Nat) ({ cls := "RetentionVaultModel", name := "erase", desc := "(IZ)I" } : Jvm.MethodName)) ∈ tb := tb_t4 14 rfl rfl
theorem w_735 : (Jvm.Cond.instanceMethod ({ cls := "RetentionVaultModel", name := "erase", desc := "(IZ)I" } : Jvm.MethodName)) ∈ tb := tb_t4 15 rfl rfl
theorem w_736 : (Jvm.Cond.selects "RetentionVaultModel" ({ cls := "RetentionVaultModel", name := "erase", desc := "(IZ)I" } : Jvm.MethodName) ({ cls := "RetentionVaultModel", name := "erase", desc := "(IZ)I" } : Jvm.MethodName)) ∈ tb := tb_t4 16 rfl rfl
theorem w_737 : (Jvm.Cond.code ({ cls := "RetentionVaultModel", name := "erase", desc := "(IZ)I" } : Jvm.MethodName) prog_6_method_15_code (5 : Nat) (Option.some Jvm.ClassFile.FieldType.int)) ∈ tb := tb_t4 17 rfl rfl
theorem w_738 : (Jvm.Cond.methodLink "RetentionVaultModel" (83 : Nat) ({ cls := "RetentionVaultModel", name := "find", desc := "(I)I" } : Jvm.MethodName)) ∈ tb := tb_t4 18 rfl rfl
theorem w_740 : (Jvm.Cond.instanceMethod ({ cls := "RetentionVaultModel", name := "find", desc := "(I)I" } : Jvm.MethodName)) ∈ tb := tb_t4 20 rfl rfl
theorem w_741 : (Jvm.Cond.code ({ cls := "RetentionVaultModel", name := "find", desc := "(I)I" } : Jvm.MethodName) prog_6_method_4_code (4 : Nat) (Option.some Jvm.ClassFile.FieldType.int)) ∈ tb := tb_t4 21 rfl rfl
theorem w_742 : (Jvm.Cond.methodLink "RetentionVaultModel" (90 : Nat) ({ cls := "RetentionVaultModel", name := "isRetained", desc := "(I)Z" } : Jvm.MethodName)) ∈ tb := tb_t4 22 rfl rfl
theorem w_744 : (Jvm.Cond.instanceMethod ({ cls := "RetentionVaultModel", name := "isRetained", desc := "(I)Z" } : Jvm.MethodName)) ∈ tb := tb_t4 24 rfl rfl
theorem w_745 : (Jvm.Cond.code ({ cls := "RetentionVaultModel", name := "isRetained", desc := "(I)Z" } : Jvm.MethodName) prog_6_method_8_code (2 : Nat) (Option.some Jvm.ClassFile.FieldType.boolean)) ∈ tb := tb_t4 25 rfl rfl
theorem w_746 : (Jvm.Cond.methodLink "RetentionVaultModel" (109 : Nat) ({ cls := "RetentionVaultModel", name := "takeAway", desc := "(I)V" } : Jvm.MethodName)) ∈ tb := tb_t4 26 rfl rfl
theorem w_748 : (Jvm.Cond.instanceMethod ({ cls := "RetentionVaultModel", name := "takeAway", desc := "(I)V" } : Jvm.MethodName)) ∈ tb := tb_t4 28 rfl rfl
theorem w_749 : (Jvm.Cond.code ({ cls := "RetentionVaultModel", name := "takeAway", desc := "(I)V" } : Jvm.MethodName) prog_6_method_12_code (3 : Nat) (Option.none : Option Jvm.ClassFile.FieldType)) ∈ tb := tb_t4 29 rfl rfl
theorem w_750 : (Jvm.Cond.methodLink "RetentionVaultLaw" (92 : Nat) ({ cls := "RetentionVaultModel", name := "retain", desc := "(IIZ)V" } : Jvm.MethodName)) ∈ tb := tb_t4 30 rfl rfl
theorem w_751 : (Jvm.Cond.instanceMethod ({ cls := "RetentionVaultModel", name := "retain", desc := "(IIZ)V" } : Jvm.MethodName)) ∈ tb := tb_t4 31 rfl rfl
theorem w_752 : (Jvm.Cond.selects "RetentionVaultModel" ({ cls := "RetentionVaultModel", name := "retain", desc := "(IIZ)V" } : Jvm.MethodName) ({ cls := "RetentionVaultModel", name := "retain", desc := "(IIZ)V" } : Jvm.MethodName)) ∈ tb := tb_t4 32 rfl rfl
theorem w_753 : (Jvm.Cond.code ({ cls := "RetentionVaultModel", name := "retain", desc := "(IIZ)V" } : Jvm.MethodName) prog_6_method_16_code (5 : Nat) (Option.none : Option Jvm.ClassFile.FieldType)) ∈ tb := tb_t4 33 rfl rfl
theorem w_754 : (Jvm.Cond.methodLink "RetentionVaultModel" (113 : Nat) ({ cls := "RetentionVaultModel", name := "object", desc := "(I)I" } : Jvm.MethodName)) ∈ tb := tb_t4 34 rfl rfl
theorem w_756 : (Jvm.Cond.instanceMethod ({ cls := "RetentionVaultModel", name := "object", desc := "(I)I" } : Jvm.MethodName)) ∈ tb := tb_t4 36 rfl rfl
theorem w_757 : (Jvm.Cond.code ({ cls := "RetentionVaultModel", name := "object", desc := "(I)I" } : Jvm.MethodName) prog_6_method_5_code (3 : Nat) (Option.some Jvm.ClassFile.FieldType.int)) ∈ tb := tb_t4 37 rfl rfl
theorem w_758 : (Jvm.Cond.methodLink "RetentionVaultLaw" (96 : Nat) ({ cls := "RetentionVaultModel", name := "hold", desc := "(IIZ)Z" } : Jvm.MethodName)) ∈ tb := tb_t4 38 rfl rfl
theorem w_759 : (Jvm.Cond.instanceMethod ({ cls := "RetentionVaultModel", name := "hold", desc := "(IIZ)Z" } : Jvm.MethodName)) ∈ tb := tb_t4 39 rfl rfl
theorem w_760 : (Jvm.Cond.selects "RetentionVaultModel" ({ cls := "RetentionVaultModel", name := "hold", desc := "(IIZ)Z" } : Jvm.MethodName) ({ cls := "RetentionVaultModel", name := "hold", desc := "(IIZ)Z" } : Jvm.MethodName)) ∈ tb := tb_t4 40 rfl rfl
theorem w_761 : (Jvm.Cond.code ({ cls := "RetentionVaultModel", name := "hold", desc := "(IIZ)Z" } : Jvm.MethodName) prog_6_method_17_code (5 : Nat) (Option.some Jvm.ClassFile.FieldType.boolean)) ∈ tb := tb_t4 41 rfl rfl
theorem w_762 : (Jvm.Cond.methodLink "RetentionVaultLaw" (100 : Nat) ({ cls := "RetentionVaultModel", name := "rule", desc := "(IIZII)V" } : Jvm.MethodName)) ∈ tb := tb_t4 42 rfl rfl
theorem w_763 : (Jvm.Cond.instanceMethod ({ cls := "RetentionVaultModel", name := "rule", desc := "(IIZII)V" } : Jvm.MethodName)) ∈ tb := tb_t4 43 rfl rfl
theorem w_764 : (Jvm.Cond.selects "RetentionVaultModel" ({ cls := "RetentionVaultModel", name := "rule", desc := "(IIZII)V" } : Jvm.MethodName) ({ cls := "RetentionVaultModel", name := "rule", desc := "(IIZII)V" } : Jvm.MethodName)) ∈ tb := tb_t4 44 rfl rfl
theorem w_765 : (Jvm.Cond.code ({ cls := "RetentionVaultModel", name := "rule", desc := "(IIZII)V" } : Jvm.MethodName) prog_6_method_18_code (6 : Nat) (Option.none : Option Jvm.ClassFile.FieldType)) ∈ tb := tb_t4 45 rfl rfl
theorem w_766 : (Jvm.Cond.methodLink "RetentionVaultLaw" (103 : Nat) ({ cls := "RetentionVaultModel", name := "unrule", desc := "(I)Z" } : Jvm.MethodName)) ∈ tb := tb_t4 46 rfl rfl
theorem w_767 : (Jvm.Cond.instanceMethod ({ cls := "RetentionVaultModel", name := "unrule", desc := "(I)Z" } : Jvm.MethodName)) ∈ tb := tb_t4 47 rfl rfl
theorem w_768 : (Jvm.Cond.selects "RetentionVaultModel" ({ cls := "RetentionVaultModel", name := "unrule", desc := "(I)Z" } : Jvm.MethodName) ({ cls := "RetentionVaultModel", name := "unrule", desc := "(I)Z" } : Jvm.MethodName)) ∈ tb := tb_t4 48 rfl rfl
theorem w_769 : (Jvm.Cond.code ({ cls := "RetentionVaultModel", name := "unrule", desc := "(I)Z" } : Jvm.MethodName) prog_6_method_19_code (2 : Nat) (Option.some Jvm.ClassFile.FieldType.boolean)) ∈ tb := tb_t4 49 rfl rfl
theorem w_770 : (Jvm.Cond.methodLink "RetentionVaultLaw" (113 : Nat) ({ cls := "RetentionVaultModel", name := "tick", desc := "(I)I" } : Jvm.MethodName)) ∈ tb := tb_t4 50 rfl rfl
theorem w_771 : (Jvm.Cond.instanceMethod ({ cls := "RetentionVaultModel", name := "tick", desc := "(I)I" } : Jvm.MethodName)) ∈ tb := tb_t4 51 rfl rfl
theorem w_772 : (Jvm.Cond.selects "RetentionVaultModel" ({ cls := "RetentionVaultModel", name := "tick", desc := "(I)I" } : Jvm.MethodName) ({ cls := "RetentionVaultModel", name := "tick", desc := "(I)I" } : Jvm.MethodName)) ∈ tb := tb_t4 52 rfl rfl
theorem w_773 : (Jvm.Cond.code ({ cls := "RetentionVaultModel", name := "tick", desc := "(I)I" } : Jvm.MethodName) prog_6_method_24_code (4 : Nat) (Option.some Jvm.ClassFile.FieldType.int)) ∈ tb := tb_t4 53 rfl rfl
theorem w_774 : (Jvm.Cond.methodLink "RetentionVaultModel" (132 : Nat) ({ cls := "RetentionVaultModel", name := "begin", desc := "()V" } : Jvm.MethodName)) ∈ tb := tb_t4 54 rfl rfl
theorem w_776 : (Jvm.Cond.instanceMethod ({ cls := "RetentionVaultModel", name := "begin", desc := "()V" } : Jvm.MethodName)) ∈ tb := tb_t4 56 rfl rfl
theorem w_777 : (Jvm.Cond.code ({ cls := "RetentionVaultModel", name := "begin", desc := "()V" } : Jvm.MethodName) prog_6_method_23_code (4 : Nat) (Option.none : Option Jvm.ClassFile.FieldType)) ∈ tb := tb_t4 57 rfl rfl
theorem w_778 : (Jvm.Cond.methodLink "RetentionVaultModel" (126 : Nat) ({ cls := "RetentionVaultModel", name := "go", desc := "(I)V" } : Jvm.MethodName)) ∈ tb := tb_t4 58 rfl rfl
theorem w_780 : (Jvm.Cond.instanceMethod ({ cls := "RetentionVaultModel", name := "go", desc := "(I)V" } : Jvm.MethodName)) ∈ tb := tb_t4 60 rfl rfl
theorem w_781 : (Jvm.Cond.code ({ cls := "RetentionVaultModel", name := "go", desc := "(I)V" } : Jvm.MethodName) prog_6_method_21_code (4 : Nat) (Option.none : Option Jvm.ClassFile.FieldType)) ∈ tb := tb_t4 61 rfl rfl
theorem w_782 : (Jvm.Cond.methodLink "RetentionVaultModel" (119 : Nat) ({ cls := "RetentionVaultModel", name := "isDue", desc := "(II)Z" } : Jvm.MethodName)) ∈ tb := tb_t4 62 rfl rfl
theorem w_784 : (Jvm.Cond.instanceMethod ({ cls := "RetentionVaultModel", name := "isDue", desc := "(II)Z" } : Jvm.MethodName)) ∈ tb := tb_t4 64 rfl rfl
theorem w_785 : (Jvm.Cond.code ({ cls := "RetentionVaultModel", name := "isDue", desc := "(II)Z" } : Jvm.MethodName) prog_6_method_20_code (4 : Nat) (Option.some Jvm.ClassFile.FieldType.boolean)) ∈ tb := tb_t4 65 rfl rfl
theorem w_786 : (Jvm.Cond.methodLink "RetentionVaultModel" (94 : Nat) ({ cls := "RetentionVaultModel", name := "isCurrent", desc := "(I)Z" } : Jvm.MethodName)) ∈ tb := tb_t4 66 rfl rfl
theorem w_788 : (Jvm.Cond.instanceMethod ({ cls := "RetentionVaultModel", name := "isCurrent", desc := "(I)Z" } : Jvm.MethodName)) ∈ tb := tb_t4 68 rfl rfl
theorem w_789 : (Jvm.Cond.code ({ cls := "RetentionVaultModel", name := "isCurrent", desc := "(I)Z" } : Jvm.MethodName) prog_6_method_7_code (2 : Nat) (Option.some Jvm.ClassFile.FieldType.boolean)) ∈ tb := tb_t4 69 rfl rfl
theorem w_790 : (Jvm.Cond.methodLink "RetentionVaultModel" (116 : Nat) ({ cls := "RetentionVaultModel", name := "since", desc := "(I)I" } : Jvm.MethodName)) ∈ tb := tb_t4 70 rfl rfl
theorem w_792 : (Jvm.Cond.instanceMethod ({ cls := "RetentionVaultModel", name := "since", desc := "(I)I" } : Jvm.MethodName)) ∈ tb := tb_t4 72 rfl rfl
theorem w_793 : (Jvm.Cond.code ({ cls := "RetentionVaultModel", name := "since", desc := "(I)I" } : Jvm.MethodName) prog_6_method_10_code (2 : Nat) (Option.some Jvm.ClassFile.FieldType.int)) ∈ tb := tb_t4 73 rfl rfl
theorem w_794 : (Jvm.Cond.methodLink "RetentionVaultModel" (123 : Nat) ({ cls := "RetentionVaultModel", name := "isGuarded", desc := "(I)Z" } : Jvm.MethodName)) ∈ tb := tb_t4 74 rfl rfl
theorem w_796 : (Jvm.Cond.instanceMethod ({ cls := "RetentionVaultModel", name := "isGuarded", desc := "(I)Z" } : Jvm.MethodName)) ∈ tb := tb_t4 76 rfl rfl
theorem w_797 : (Jvm.Cond.code ({ cls := "RetentionVaultModel", name := "isGuarded", desc := "(I)Z" } : Jvm.MethodName) prog_6_method_9_code (2 : Nat) (Option.some Jvm.ClassFile.FieldType.boolean)) ∈ tb := tb_t4 77 rfl rfl
theorem w_798 : (Jvm.Cond.methodLink "RetentionVaultModel" (129 : Nat) ({ cls := "RetentionVaultModel", name := "versionsOf", desc := "(I)I" } : Jvm.MethodName)) ∈ tb := tb_t4 78 rfl rfl
theorem w_800 : (Jvm.Cond.instanceMethod ({ cls := "RetentionVaultModel", name := "versionsOf", desc := "(I)I" } : Jvm.MethodName)) ∈ tb := tb_t4 80 rfl rfl
theorem w_801 : (Jvm.Cond.code ({ cls := "RetentionVaultModel", name := "versionsOf", desc := "(I)I" } : Jvm.MethodName) prog_6_method_22_code (4 : Nat) (Option.some Jvm.ClassFile.FieldType.int)) ∈ tb := tb_t4 81 rfl rfl
theorem w_802 : (Jvm.Cond.methodLink "RetentionVaultLaw" (107 : Nat) ({ cls := "RetentionVaultModel", name := "fetch", desc := "(II)I" } : Jvm.MethodName)) ∈ tb := tb_t4 82 rfl rfl
theorem w_803 : (Jvm.Cond.instanceMethod ({ cls := "RetentionVaultModel", name := "fetch", desc := "(II)I" } : Jvm.MethodName)) ∈ tb := tb_t4 83 rfl rfl
theorem w_804 : (Jvm.Cond.selects "RetentionVaultModel" ({ cls := "RetentionVaultModel", name := "fetch", desc := "(II)I" } : Jvm.MethodName) ({ cls := "RetentionVaultModel", name := "fetch", desc := "(II)I" } : Jvm.MethodName)) ∈ tb := tb_t4 84 rfl rfl
theorem w_805 : (Jvm.Cond.code ({ cls := "RetentionVaultModel", name := "fetch", desc := "(II)I" } : Jvm.MethodName) prog_6_method_25_code (4 : Nat) (Option.some Jvm.ClassFile.FieldType.int)) ∈ tb := tb_t4 85 rfl rfl
theorem w_806 : (Jvm.Cond.methodLink "RetentionVaultLaw" (110 : Nat) ({ cls := "RetentionVaultModel", name := "read", desc := "(I)I" } : Jvm.MethodName)) ∈ tb := tb_t4 86 rfl rfl
theorem w_807 : (Jvm.Cond.instanceMethod ({ cls := "RetentionVaultModel", name := "read", desc := "(I)I" } : Jvm.MethodName)) ∈ tb := tb_t4 87 rfl rfl
theorem w_808 : (Jvm.Cond.selects "RetentionVaultModel" ({ cls := "RetentionVaultModel", name := "read", desc := "(I)I" } : Jvm.MethodName) ({ cls := "RetentionVaultModel", name := "read", desc := "(I)I" } : Jvm.MethodName)) ∈ tb := tb_t4 88 rfl rfl
theorem w_809 : (Jvm.Cond.code ({ cls := "RetentionVaultModel", name := "read", desc := "(I)I" } : Jvm.MethodName) prog_6_method_26_code (3 : Nat) (Option.some Jvm.ClassFile.FieldType.int)) ∈ tb := tb_t4 89 rfl rfl
theorem w_810 : (Jvm.Cond.methodLink "RetentionVaultLaw" (116 : Nat) ({ cls := "RetentionVaultModel", name := "current", desc := "(I)I" } : Jvm.MethodName)) ∈ tb := tb_t4 90 rfl rfl
theorem w_811 : (Jvm.Cond.instanceMethod ({ cls := "RetentionVaultModel", name := "current", desc := "(I)I" } : Jvm.MethodName)) ∈ tb := tb_t4 91 rfl rfl
theorem w_812 : (Jvm.Cond.selects "RetentionVaultModel" ({ cls := "RetentionVaultModel", name := "current", desc := "(I)I" } : Jvm.MethodName) ({ cls := "RetentionVaultModel", name := "current", desc := "(I)I" } : Jvm.MethodName)) ∈ tb := tb_t4 92 rfl rfl
theorem w_813 : (Jvm.Cond.code ({ cls := "RetentionVaultModel", name := "current", desc := "(I)I" } : Jvm.MethodName) prog_6_method_27_code (3 : Nat) (Option.some Jvm.ClassFile.FieldType.int)) ∈ tb := tb_t4 93 rfl rfl
theorem w_814 : (Jvm.Cond.methodLink "RetentionVaultLaw" (119 : Nat) ({ cls := "RetentionVaultModel", name := "about", desc := "(II)I" } : Jvm.MethodName)) ∈ tb := tb_t4 94 rfl rfl
theorem w_815 : (Jvm.Cond.instanceMethod ({ cls := "RetentionVaultModel", name := "about", desc := "(II)I" } : Jvm.MethodName)) ∈ tb := tb_t4 95 rfl rfl
theorem w_816 : (Jvm.Cond.selects "RetentionVaultModel" ({ cls := "RetentionVaultModel", name := "about", desc := "(II)I" } : Jvm.MethodName) ({ cls := "RetentionVaultModel", name := "about", desc := "(II)I" } : Jvm.MethodName)) ∈ tb := tb_t4 96 rfl rfl
theorem w_817 : (Jvm.Cond.code ({ cls := "RetentionVaultModel", name := "about", desc := "(II)I" } : Jvm.MethodName) prog_6_method_28_code (4 : Nat) (Option.some Jvm.ClassFile.FieldType.int)) ∈ tb := tb_t4 97 rfl rfl
theorem w_818 : (Jvm.Cond.methodLink "RetentionVaultLaw" (122 : Nat) ({ cls := "RetentionVaultModel", name := "entry", desc := "(II)I" } : Jvm.MethodName)) ∈ tb := tb_t4 98 rfl rfl
theorem w_819 : (Jvm.Cond.instanceMethod ({ cls := "RetentionVaultModel", name := "entry", desc := "(II)I" } : Jvm.MethodName)) ∈ tb := tb_t4 99 rfl rfl
theorem w_820 : (Jvm.Cond.selects "RetentionVaultModel" ({ cls := "RetentionVaultModel", name := "entry", desc := "(II)I" } : Jvm.MethodName) ({ cls := "RetentionVaultModel", name := "entry", desc := "(II)I" } : Jvm.MethodName)) ∈ tb := tb_t4 100 rfl rfl
theorem w_821 : (Jvm.Cond.code ({ cls := "RetentionVaultModel", name := "entry", desc := "(II)I" } : Jvm.MethodName) prog_6_method_29_code (3 : Nat) (Option.some Jvm.ClassFile.FieldType.int)) ∈ tb := tb_t4 101 rfl rfl
theorem w_822 : (Jvm.Cond.methodLink "RetentionVaultLaw" (127 : Nat) ({ cls := "RetentionVaultModel", name := "link", desc := "()J" } : Jvm.MethodName)) ∈ tb := tb_t4 102 rfl rfl
theorem w_823 : (Jvm.Cond.instanceMethod ({ cls := "RetentionVaultModel", name := "link", desc := "()J" } : Jvm.MethodName)) ∈ tb := tb_t4 103 rfl rfl
theorem w_824 : (Jvm.Cond.selects "RetentionVaultModel" ({ cls := "RetentionVaultModel", name := "link", desc := "()J" } : Jvm.MethodName) ({ cls := "RetentionVaultModel", name := "link", desc := "()J" } : Jvm.MethodName)) ∈ tb := tb_t4 104 rfl rfl
theorem w_825 : (Jvm.Cond.code ({ cls := "RetentionVaultModel", name := "link", desc := "()J" } : Jvm.MethodName) prog_6_method_30_code (1 : Nat) (Option.some Jvm.ClassFile.FieldType.long)) ∈ tb := tb_t4 105 rfl rfl
theorem w_826 : (Jvm.Cond.methodLink "RetentionVaultLaw" (130 : Nat) ({ cls := "RetentionVaultModel", name := "figure", desc := "(I)I" } : Jvm.MethodName)) ∈ tb := tb_t4 106 rfl rfl
theorem w_827 : (Jvm.Cond.instanceMethod ({ cls := "RetentionVaultModel", name := "figure", desc := "(I)I" } : Jvm.MethodName)) ∈ tb := tb_t4 107 rfl rfl
theorem w_828 : (Jvm.Cond.selects "RetentionVaultModel" ({ cls := "RetentionVaultModel", name := "figure", desc := "(I)I" } : Jvm.MethodName) ({ cls := "RetentionVaultModel", name := "figure", desc := "(I)I" } : Jvm.MethodName)) ∈ tb := tb_t4 108 rfl rfl
theorem w_829 : (Jvm.Cond.code ({ cls := "RetentionVaultModel", name := "figure", desc := "(I)I" } : Jvm.MethodName) prog_6_method_31_code (5 : Nat) (Option.some Jvm.ClassFile.FieldType.int)) ∈ tb := tb_t4 109 rfl rfl
theorem w_830 : (Jvm.Cond.arrayClass Jvm.ClassFile.FieldType.long) ∈ tb := tb_t4 110 rfl rfl
theorem w_831 : (Jvm.Cond.sameMethod "java/lang/Throwable" "java/lang/Throwable" "fillInStackTrace" "(I)Ljava/lang/Throwable;") ∈ tb := tb_t4 111 rfl rfl
theorem w_833 : (Jvm.Cond.sameMethod "[Ljava/lang/Object;" "java/lang/Object" "getClass" "()Ljava/lang/Class;") ∈ tb := tb_t4 113 rfl rfl
theorem w_834 : (Jvm.Cond.selects "[Ljava/lang/Object;" ({ cls := "java/lang/Object", name := "getClass", desc := "()Ljava/lang/Class;" } : Jvm.MethodName) ({ cls := "java/lang/Object", name := "getClass", desc := "()Ljava/lang/Class;" } : Jvm.MethodName)) ∈ tb := tb_t4 114 rfl rfl
theorem s_java_lang_Throwable_fillInStackTrace : Cond.selects "java/lang/Throwable" ⟨"java/lang/Throwable", "fillInStackTrace", "(I)Ljava/lang/Throwable;"⟩ ⟨"java/lang/Throwable", "fillInStackTrace", "(I)Ljava/lang/Throwable;"⟩ ∈ tb := tb_in (List.mem_append_left _ (List.mem_map.mpr ⟨(⟨"java/lang/Throwable", "fillInStackTrace", "(I)Ljava/lang/Throwable;"⟩, 6), List.mem_append_left _ (List.mem_of_getElem? (l := lw_privs_1) (i := 0) rfl), rfl⟩)) rfl
theorem s_V_demandRoom : Cond.selects "RetentionVault" ⟨"RetentionVault", "demandRoom", "()V"⟩ ⟨"RetentionVault", "demandRoom", "()V"⟩ ∈ tb := tb_in (List.mem_append_left _ (List.mem_map.mpr ⟨(⟨"RetentionVault", "demandRoom", "()V"⟩, 5), List.mem_append_left _ (List.mem_of_getElem? (l := lw_privs_1) (i := 1) rfl), rfl⟩)) rfl
theorem s_V_isFull : Cond.selects "RetentionVault" ⟨"RetentionVault", "isFull", "()Z"⟩ ⟨"RetentionVault", "isFull", "()Z"⟩ ∈ tb := tb_in (List.mem_append_left _ (List.mem_map.mpr ⟨(⟨"RetentionVault", "isFull", "()Z"⟩, 5), List.mem_append_left _ (List.mem_of_getElem? (l := lw_privs_1) (i := 2) rfl), rfl⟩)) rfl
theorem s_V_add : Cond.selects "RetentionVault" ⟨"RetentionVault", "add", "(LRetentionVault$Version;)I"⟩ ⟨"RetentionVault", "add", "(LRetentionVault$Version;)I"⟩ ∈ tb := tb_in (List.mem_append_left _ (List.mem_map.mpr ⟨(⟨"RetentionVault", "add", "(LRetentionVault$Version;)I"⟩, 5), List.mem_append_left _ (List.mem_of_getElem? (l := lw_privs_1) (i := 3) rfl), rfl⟩)) rfl
theorem s_V_latestOf : Cond.selects "RetentionVault" ⟨"RetentionVault", "latestOf", "(I)LRetentionVault$Version;"⟩ ⟨"RetentionVault", "latestOf", "(I)LRetentionVault$Version;"⟩ ∈ tb := tb_in (List.mem_append_left _ (List.mem_map.mpr ⟨(⟨"RetentionVault", "latestOf", "(I)LRetentionVault$Version;"⟩, 5), List.mem_append_left _ (List.mem_of_getElem? (l := lw_privs_1) (i := 4) rfl), rfl⟩)) rfl
theorem s_A_add1 : Cond.selects "java/util/ArrayList" ⟨"java/util/ArrayList", "add", "(Ljava/lang/Object;[Ljava/lang/Object;I)V"⟩ ⟨"java/util/ArrayList", "add", "(Ljava/lang/Object;[Ljava/lang/Object;I)V"⟩ ∈ tb := tb_in (List.mem_append_left _ (List.mem_map.mpr ⟨(⟨"java/util/ArrayList", "add", "(Ljava/lang/Object;[Ljava/lang/Object;I)V"⟩, 3), List.mem_append_left _ (List.mem_of_getElem? (l := lw_privs_1) (i := 5) rfl), rfl⟩)) rfl
theorem s_A_grow0 : Cond.selects "java/util/ArrayList" ⟨"java/util/ArrayList", "grow", "()[Ljava/lang/Object;"⟩ ⟨"java/util/ArrayList", "grow", "()[Ljava/lang/Object;"⟩ ∈ tb := tb_in (List.mem_append_left _ (List.mem_map.mpr ⟨(⟨"java/util/ArrayList", "grow", "()[Ljava/lang/Object;"⟩, 3), List.mem_append_left _ (List.mem_of_getElem? (l := lw_privs_1) (i := 6) rfl), rfl⟩)) rfl
theorem s_A_grow1 : Cond.selects "java/util/ArrayList" ⟨"java/util/ArrayList", "grow", "(I)[Ljava/lang/Object;"⟩ ⟨"java/util/ArrayList", "grow", "(I)[Ljava/lang/Object;"⟩ ∈ tb := tb_in (List.mem_append_left _ (List.mem_map.mpr ⟨(⟨"java/util/ArrayList", "grow", "(I)[Ljava/lang/Object;"⟩, 3), List.mem_append_left _ (List.mem_of_getElem? (l := lw_privs_1) (i := 7) rfl), rfl⟩)) rfl
theorem s_G_append : Cond.selects "RetentionVault$Log" ⟨"RetentionVault$Log", "append", "(II)V"⟩ ⟨"RetentionVault$Log", "append", "(II)V"⟩ ∈ tb := tb_in (List.mem_append_left _ (List.mem_map.mpr ⟨(⟨"RetentionVault$Log", "append", "(II)V"⟩, 3), List.mem_append_left _ (List.mem_of_getElem? (l := lw_privs_1) (i := 8) rfl), rfl⟩)) rfl
theorem s_V_currentObject : Cond.selects "RetentionVault" ⟨"RetentionVault", "currentObject", "(I)LRetentionVault$Version;"⟩ ⟨"RetentionVault", "currentObject", "(I)LRetentionVault$Version;"⟩ ∈ tb := tb_in (List.mem_append_left _ (List.mem_map.mpr ⟨(⟨"RetentionVault", "currentObject", "(I)LRetentionVault$Version;"⟩, 5), List.mem_append_left _ (List.mem_of_getElem? (l := lw_privs_1) (i := 9) rfl), rfl⟩)) rfl
theorem s_V_versionNumbered : Cond.selects "RetentionVault" ⟨"RetentionVault", "versionNumbered", "(I)LRetentionVault$Version;"⟩ ⟨"RetentionVault", "versionNumbered", "(I)LRetentionVault$Version;"⟩ ∈ tb := tb_in (List.mem_append_left _ (List.mem_map.mpr ⟨(⟨"RetentionVault", "versionNumbered", "(I)LRetentionVault$Version;"⟩, 5), List.mem_append_left _ (List.mem_of_getElem? (l := lw_privs_1) (i := 10) rfl), rfl⟩)) rfl
theorem s_V_takeAway : Cond.selects "RetentionVault" ⟨"RetentionVault", "takeAway", "(LRetentionVault$Version;)V"⟩ ⟨"RetentionVault", "takeAway", "(LRetentionVault$Version;)V"⟩ ∈ tb := tb_in (List.mem_append_left _ (List.mem_map.mpr ⟨(⟨"RetentionVault", "takeAway", "(LRetentionVault$Version;)V"⟩, 5), List.mem_append_left _ (List.mem_of_getElem? (l := lw_privs_1) (i := 11) rfl), rfl⟩)) rfl
theorem s_A_fastRemove : Cond.selects "java/util/ArrayList" ⟨"java/util/ArrayList", "fastRemove", "([Ljava/lang/Object;I)V"⟩ ⟨"java/util/ArrayList", "fastRemove", "([Ljava/lang/Object;I)V"⟩ ∈ tb := tb_in (List.mem_append_left _ (List.mem_map.mpr ⟨(⟨"java/util/ArrayList", "fastRemove", "([Ljava/lang/Object;I)V"⟩, 3), List.mem_append_left _ (List.mem_of_getElem? (l := lw_privs_1) (i := 12) rfl), rfl⟩)) rfl
theorem s_V_objectNumbered : Cond.selects "RetentionVault" ⟨"RetentionVault", "objectNumbered", "(I)LRetentionVault$Version;"⟩ ⟨"RetentionVault", "objectNumbered", "(I)LRetentionVault$Version;"⟩ ∈ tb := tb_in (List.mem_append_left _ (List.mem_map.mpr ⟨(⟨"RetentionVault", "objectNumbered", "(I)LRetentionVault$Version;"⟩, 5), List.mem_append_left _ (List.mem_of_getElem? (l := lw_privs_1) (i := 13) rfl), rfl⟩)) rfl
theorem s_V_goThroughVersions : Cond.selects "RetentionVault" ⟨"RetentionVault", "goThroughVersions", "()V"⟩ ⟨"RetentionVault", "goThroughVersions", "()V"⟩ ∈ tb := tb_in (List.mem_append_left _ (List.mem_map.mpr ⟨(⟨"RetentionVault", "goThroughVersions", "()V"⟩, 5), List.mem_append_left _ (List.mem_of_getElem? (l := lw_privs_1) (i := 14) rfl), rfl⟩)) rfl
theorem s_V_goThroughRules : Cond.selects "RetentionVault" ⟨"RetentionVault", "goThroughRules", "(LRetentionVault$Version;)V"⟩ ⟨"RetentionVault", "goThroughRules", "(LRetentionVault$Version;)V"⟩ ∈ tb := tb_in (List.mem_append_left _ (List.mem_map.mpr ⟨(⟨"RetentionVault", "goThroughRules", "(LRetentionVault$Version;)V"⟩, 5), List.mem_append_left _ (List.mem_of_getElem? (l := lw_privs_1) (i := 15) rfl), rfl⟩)) rfl
theorem s_V_cool : Cond.selects "RetentionVault" ⟨"RetentionVault", "cool", "(LRetentionVault$Version;I)V"⟩ ⟨"RetentionVault", "cool", "(LRetentionVault$Version;I)V"⟩ ∈ tb := tb_in (List.mem_append_left _ (List.mem_map.mpr ⟨(⟨"RetentionVault", "cool", "(LRetentionVault$Version;I)V"⟩, 5), List.mem_append_right _ (List.mem_append_left _ (List.mem_of_getElem? (l := lw_privs_2) (i := 0) rfl)), rfl⟩)) rfl
theorem s_V_expire : Cond.selects "RetentionVault" ⟨"RetentionVault", "expire", "(LRetentionVault$Version;)Z"⟩ ⟨"RetentionVault", "expire", "(LRetentionVault$Version;)Z"⟩ ∈ tb := tb_in (List.mem_append_left _ (List.mem_map.mpr ⟨(⟨"RetentionVault", "expire", "(LRetentionVault$Version;)Z"⟩, 5), List.mem_append_right _ (List.mem_append_left _ (List.mem_of_getElem? (l := lw_privs_2) (i := 1) rfl)), rfl⟩)) rfl
theorem s_V_takeLoneMarkersAway : Cond.selects "RetentionVault" ⟨"RetentionVault", "takeLoneMarkersAway", "()V"⟩ ⟨"RetentionVault", "takeLoneMarkersAway", "()V"⟩ ∈ tb := tb_in (List.mem_append_left _ (List.mem_map.mpr ⟨(⟨"RetentionVault", "takeLoneMarkersAway", "()V"⟩, 5), List.mem_append_right _ (List.mem_append_left _ (List.mem_of_getElem? (l := lw_privs_2) (i := 2) rfl)), rfl⟩)) rfl
theorem s_V_isAlone : Cond.selects "RetentionVault" ⟨"RetentionVault", "isAlone", "(LRetentionVault$Version;)Z"⟩ ⟨"RetentionVault", "isAlone", "(LRetentionVault$Version;)Z"⟩ ∈ tb := tb_in (List.mem_append_left _ (List.mem_map.mpr ⟨(⟨"RetentionVault", "isAlone", "(LRetentionVault$Version;)Z"⟩, 5), List.mem_append_right _ (List.mem_append_left _ (List.mem_of_getElem? (l := lw_privs_2) (i := 3) rfl)), rfl⟩)) rfl
theorem s_V_sumOfSizes : Cond.selects "RetentionVault" ⟨"RetentionVault", "sumOfSizes", "()I"⟩ ⟨"RetentionVault", "sumOfSizes", "()I"⟩ ∈ tb := tb_in (List.mem_append_left _ (List.mem_map.mpr ⟨(⟨"RetentionVault", "sumOfSizes", "()I"⟩, 5), List.mem_append_right _ (List.mem_append_left _ (List.mem_of_getElem? (l := lw_privs_2) (i := 4) rfl)), rfl⟩)) rfl
theorem s_V_countOfGuarded : Cond.selects "RetentionVault" ⟨"RetentionVault", "countOfGuarded", "()I"⟩ ⟨"RetentionVault", "countOfGuarded", "()I"⟩ ∈ tb := tb_in (List.mem_append_left _ (List.mem_map.mpr ⟨(⟨"RetentionVault", "countOfGuarded", "()I"⟩, 5), List.mem_append_right _ (List.mem_append_left _ (List.mem_of_getElem? (l := lw_privs_2) (i := 5) rfl)), rfl⟩)) rfl
theorem s_M_add : Cond.selects "RetentionVaultModel" ⟨"RetentionVaultModel", "add", "(III)I"⟩ ⟨"RetentionVaultModel", "add", "(III)I"⟩ ∈ tb := tb_in (List.mem_append_left _ (List.mem_map.mpr ⟨(⟨"RetentionVaultModel", "add", "(III)I"⟩, 23), List.mem_append_right _ (List.mem_append_left _ (List.mem_of_getElem? (l := lw_privs_2) (i := 6) rfl)), rfl⟩)) rfl
theorem s_M_currentOf : Cond.selects "RetentionVaultModel" ⟨"RetentionVaultModel", "currentOf", "(I)I"⟩ ⟨"RetentionVaultModel", "currentOf", "(I)I"⟩ ∈ tb := tb_in (List.mem_append_left _ (List.mem_map.mpr ⟨(⟨"RetentionVaultModel", "currentOf", "(I)I"⟩, 23), List.mem_append_right _ (List.mem_append_left _ (List.mem_of_getElem? (l := lw_privs_2) (i := 7) rfl)), rfl⟩)) rfl
theorem s_M_enter : Cond.selects "RetentionVaultModel" ⟨"RetentionVaultModel", "enter", "(III)V"⟩ ⟨"RetentionVaultModel", "enter", "(III)V"⟩ ∈ tb := tb_in (List.mem_append_left _ (List.mem_map.mpr ⟨(⟨"RetentionVaultModel", "enter", "(III)V"⟩, 23), List.mem_append_right _ (List.mem_append_left _ (List.mem_of_getElem? (l := lw_privs_2) (i := 8) rfl)), rfl⟩)) rfl
theorem s_M_find : Cond.selects "RetentionVaultModel" ⟨"RetentionVaultModel", "find", "(I)I"⟩ ⟨"RetentionVaultModel", "find", "(I)I"⟩ ∈ tb := tb_in (List.mem_append_left _ (List.mem_map.mpr ⟨(⟨"RetentionVaultModel", "find", "(I)I"⟩, 23), List.mem_append_right _ (List.mem_append_left _ (List.mem_of_getElem? (l := lw_privs_2) (i := 9) rfl)), rfl⟩)) rfl
theorem s_M_isRetained : Cond.selects "RetentionVaultModel" ⟨"RetentionVaultModel", "isRetained", "(I)Z"⟩ ⟨"RetentionVaultModel", "isRetained", "(I)Z"⟩ ∈ tb := tb_in (List.mem_append_left _ (List.mem_map.mpr ⟨(⟨"RetentionVaultModel", "isRetained", "(I)Z"⟩, 23), List.mem_append_right _ (List.mem_append_left _ (List.mem_of_getElem? (l := lw_privs_2) (i := 10) rfl)), rfl⟩)) rfl
theorem s_M_takeAway : Cond.selects "RetentionVaultModel" ⟨"RetentionVaultModel", "takeAway", "(I)V"⟩ ⟨"RetentionVaultModel", "takeAway", "(I)V"⟩ ∈ tb := tb_in (List.mem_append_left _ (List.mem_map.mpr ⟨(⟨"RetentionVaultModel", "takeAway", "(I)V"⟩, 23), List.mem_append_right _ (List.mem_append_left _ (List.mem_of_getElem? (l := lw_privs_2) (i := 11) rfl)), rfl⟩)) rfl
theorem s_M_object : Cond.selects "RetentionVaultModel" ⟨"RetentionVaultModel", "object", "(I)I"⟩ ⟨"RetentionVaultModel", "object", "(I)I"⟩ ∈ tb := tb_in (List.mem_append_left _ (List.mem_map.mpr ⟨(⟨"RetentionVaultModel", "object", "(I)I"⟩, 23), List.mem_append_right _ (List.mem_append_left _ (List.mem_of_getElem? (l := lw_privs_2) (i := 12) rfl)), rfl⟩)) rfl
theorem s_M_begin : Cond.selects "RetentionVaultModel" ⟨"RetentionVaultModel", "begin", "()V"⟩ ⟨"RetentionVaultModel", "begin", "()V"⟩ ∈ tb := tb_in (List.mem_append_left _ (List.mem_map.mpr ⟨(⟨"RetentionVaultModel", "begin", "()V"⟩, 23), List.mem_append_right _ (List.mem_append_left _ (List.mem_of_getElem? (l := lw_privs_2) (i := 13) rfl)), rfl⟩)) rfl
theorem s_M_go : Cond.selects "RetentionVaultModel" ⟨"RetentionVaultModel", "go", "(I)V"⟩ ⟨"RetentionVaultModel", "go", "(I)V"⟩ ∈ tb := tb_in (List.mem_append_left _ (List.mem_map.mpr ⟨(⟨"RetentionVaultModel", "go", "(I)V"⟩, 23), List.mem_append_right _ (List.mem_append_left _ (List.mem_of_getElem? (l := lw_privs_2) (i := 14) rfl)), rfl⟩)) rfl
theorem s_M_isDue : Cond.selects "RetentionVaultModel" ⟨"RetentionVaultModel", "isDue", "(II)Z"⟩ ⟨"RetentionVaultModel", "isDue", "(II)Z"⟩ ∈ tb := tb_in (List.mem_append_left _ (List.mem_map.mpr ⟨(⟨"RetentionVaultModel", "isDue", "(II)Z"⟩, 23), List.mem_append_right _ (List.mem_append_left _ (List.mem_of_getElem? (l := lw_privs_2) (i := 15) rfl)), rfl⟩)) rfl
theorem s_M_isCurrent : Cond.selects "RetentionVaultModel" ⟨"RetentionVaultModel", "isCurrent", "(I)Z"⟩ ⟨"RetentionVaultModel", "isCurrent", "(I)Z"⟩ ∈ tb := tb_in (List.mem_append_left _ (List.mem_map.mpr ⟨(⟨"RetentionVaultModel", "isCurrent", "(I)Z"⟩, 23), List.mem_append_right _ (List.mem_append_right _ (List.mem_of_getElem? (l := lw_privs_3) (i := 0) rfl)), rfl⟩)) rfl
theorem s_M_since : Cond.selects "RetentionVaultModel" ⟨"RetentionVaultModel", "since", "(I)I"⟩ ⟨"RetentionVaultModel", "since", "(I)I"⟩ ∈ tb := tb_in (List.mem_append_left _ (List.mem_map.mpr ⟨(⟨"RetentionVaultModel", "since", "(I)I"⟩, 23), List.mem_append_right _ (List.mem_append_right _ (List.mem_of_getElem? (l := lw_privs_3) (i := 1) rfl)), rfl⟩)) rfl
theorem s_M_isGuarded : Cond.selects "RetentionVaultModel" ⟨"RetentionVaultModel", "isGuarded", "(I)Z"⟩ ⟨"RetentionVaultModel", "isGuarded", "(I)Z"⟩ ∈ tb := tb_in (List.mem_append_left _ (List.mem_map.mpr ⟨(⟨"RetentionVaultModel", "isGuarded", "(I)Z"⟩, 23), List.mem_append_right _ (List.mem_append_right _ (List.mem_of_getElem? (l := lw_privs_3) (i := 2) rfl)), rfl⟩)) rfl
theorem s_M_versionsOf : Cond.selects "RetentionVaultModel" ⟨"RetentionVaultModel", "versionsOf", "(I)I"⟩ ⟨"RetentionVaultModel", "versionsOf", "(I)I"⟩ ∈ tb := tb_in (List.mem_append_left _ (List.mem_map.mpr ⟨(⟨"RetentionVaultModel", "versionsOf", "(I)I"⟩, 23), List.mem_append_right _ (List.mem_append_right _ (List.mem_of_getElem? (l := lw_privs_3) (i := 3) rfl)), rfl⟩)) rfl
def RV : String := "RetentionVault"
def FV : u_T := fun k => match k with
  | 0 => ("RetentionVault", "versions", "Ljava/util/ArrayList;", true)
  | 1 => ("RetentionVault", "rules", "[LRetentionVault$Rule;", true)
  | 2 => ("RetentionVault", "log", "LRetentionVault$Log;", true)
  | 3 => ("RetentionVault", "day", "I", false)
  | _ => ("RetentionVault", "everPut", "I", false)
def TV : Nat → FieldType := fun k => match k with
  | 0 => .object "java/util/ArrayList"
  | 1 => .array (.object "RetentionVault$Rule")
  | 2 => .object "RetentionVault$Log"
  | 3 => .int
  | _ => .int
theorem nmV : ∀ a, a < 5 → ∀ b, b < 5 → a ≠ b → (FV a).2.1 ≠ (FV b).2.1 := by decide +kernel
theorem tyV : ∀ k, k < 5 → parseFieldDescriptor (FV k).2.2.1 = some (TV k) := by decide +kernel
theorem inV : ∀ z ∈ u_ws RV FV 5, z ∈ tb := by
  show ∀ z ∈ [(Jvm.Cond.laysFinal "RetentionVault" "RetentionVault" "versions" "Ljava/util/ArrayList;"), (Jvm.Cond.laysFinal "RetentionVault" "RetentionVault" "rules" "[LRetentionVault$Rule;"), (Jvm.Cond.laysFinal "RetentionVault" "RetentionVault" "log" "LRetentionVault$Log;"), (Jvm.Cond.lays "RetentionVault" "RetentionVault" "day" "I"), (Jvm.Cond.lays "RetentionVault" "RetentionVault" "everPut" "I")], z ∈ tb
  exact List.forall_mem_cons.mpr ⟨w_102, List.forall_mem_cons.mpr ⟨w_104, List.forall_mem_cons.mpr ⟨w_106, List.forall_mem_cons.mpr ⟨w_108, List.forall_mem_cons.mpr ⟨w_110, fun _ h => absurd h List.not_mem_nil⟩⟩⟩⟩⟩
def RG : String := "RetentionVault$Log"
def FG : u_T := fun k => match k with
  | 0 => ("RetentionVault$Log", "ring", "[I", true)
  | 1 => ("RetentionVault$Log", "written", "I", false)
  | _ => ("RetentionVault$Log", "chain", "J", false)
def TG : Nat → FieldType := fun k => match k with
  | 0 => .array .int
  | 1 => .int
  | _ => .long
theorem nmG : ∀ a, a < 3 → ∀ b, b < 3 → a ≠ b → (FG a).2.1 ≠ (FG b).2.1 := by decide +kernel
theorem tyG : ∀ k, k < 3 → parseFieldDescriptor (FG k).2.2.1 = some (TG k) := by decide +kernel
theorem inG : ∀ z ∈ u_ws RG FG 3, z ∈ tb := by
  show ∀ z ∈ [(Jvm.Cond.laysFinal "RetentionVault$Log" "RetentionVault$Log" "ring" "[I"), (Jvm.Cond.lays "RetentionVault$Log" "RetentionVault$Log" "written" "I"), (Jvm.Cond.lays "RetentionVault$Log" "RetentionVault$Log" "chain" "J")], z ∈ tb
  exact List.forall_mem_cons.mpr ⟨w_89, List.forall_mem_cons.mpr ⟨w_91, List.forall_mem_cons.mpr ⟨w_93, fun _ h => absurd h List.not_mem_nil⟩⟩⟩
def RU : String := "RetentionVault$Rule"
def FU : u_T := fun k => match k with
  | 0 => ("RetentionVault$Rule", "tag", "I", false)
  | 1 => ("RetentionVault$Rule", "forCurrent", "Z", false)
  | 2 => ("RetentionVault$Rule", "days", "I", false)
  | _ => ("RetentionVault$Rule", "action", "I", false)
def TU : Nat → FieldType := fun k => match k with
  | 0 => .int
  | 1 => .boolean
  | 2 => .int
  | _ => .int
theorem nmU : ∀ a, a < 4 → ∀ b, b < 4 → a ≠ b → (FU a).2.1 ≠ (FU b).2.1 := by decide +kernel
theorem tyU : ∀ k, k < 4 → parseFieldDescriptor (FU k).2.2.1 = some (TU k) := by decide +kernel
theorem inU : ∀ z ∈ u_ws RU FU 4, z ∈ tb := by
  show ∀ z ∈ [(Jvm.Cond.lays "RetentionVault$Rule" "RetentionVault$Rule" "tag" "I"), (Jvm.Cond.lays "RetentionVault$Rule" "RetentionVault$Rule" "forCurrent" "Z"), (Jvm.Cond.lays "RetentionVault$Rule" "RetentionVault$Rule" "days" "I"), (Jvm.Cond.lays "RetentionVault$Rule" "RetentionVault$Rule" "action" "I")], z ∈ tb
  exact List.forall_mem_cons.mpr ⟨w_68, List.forall_mem_cons.mpr ⟨w_70, List.forall_mem_cons.mpr ⟨w_72, List.forall_mem_cons.mpr ⟨w_74, fun _ h => absurd h List.not_mem_nil⟩⟩⟩⟩
def RN : String := "RetentionVault$Version"
def FN : u_T := fun k => match k with
  | 0 => ("RetentionVault$Version", "number", "I", true)
  | 1 => ("RetentionVault$Version", "key", "I", true)
  | 2 => ("RetentionVault$Version", "putDay", "I", true)
  | 3 => ("RetentionVault$Version", "size", "I", false)
  | 4 => ("RetentionVault$Version", "tag", "I", false)
  | 5 => ("RetentionVault$Version", "tier", "I", false)
  | 6 => ("RetentionVault$Version", "isCurrent", "Z", false)
  | 7 => ("RetentionVault$Version", "ceasedDay", "I", false)
  | 8 => ("RetentionVault$Version", "retainedUntil", "I", false)
  | 9 => ("RetentionVault$Version", "strict", "Z", false)
  | 10 => ("RetentionVault$Version", "holds", "I", false)
  | 11 => ("RetentionVault$Version", "readableFrom", "I", false)
  | _ => ("RetentionVault$Version", "readableBefore", "I", false)
def TN : Nat → FieldType := fun k => match k with
  | 0 => .int
  | 1 => .int
  | 2 => .int
  | 3 => .int
  | 4 => .int
  | 5 => .int
  | 6 => .boolean
  | 7 => .int
  | 8 => .int
  | 9 => .boolean
  | 10 => .int
  | 11 => .int
  | _ => .int
theorem nmN : ∀ a, a < 13 → ∀ b, b < 13 → a ≠ b → (FN a).2.1 ≠ (FN b).2.1 := by decide +kernel
theorem tyN : ∀ k, k < 13 → parseFieldDescriptor (FN k).2.2.1 = some (TN k) := by decide +kernel
theorem inN : ∀ z ∈ u_ws RN FN 13, z ∈ tb := by
  show ∀ z ∈ [(Jvm.Cond.laysFinal "RetentionVault$Version" "RetentionVault$Version" "number" "I"), (Jvm.Cond.laysFinal "RetentionVault$Version" "RetentionVault$Version" "key" "I"), (Jvm.Cond.laysFinal "RetentionVault$Version" "RetentionVault$Version" "putDay" "I"), (Jvm.Cond.lays "RetentionVault$Version" "RetentionVault$Version" "size" "I"), (Jvm.Cond.lays "RetentionVault$Version" "RetentionVault$Version" "tag" "I"), (Jvm.Cond.lays "RetentionVault$Version" "RetentionVault$Version" "tier" "I"), (Jvm.Cond.lays "RetentionVault$Version" "RetentionVault$Version" "isCurrent" "Z"), (Jvm.Cond.lays "RetentionVault$Version" "RetentionVault$Version" "ceasedDay" "I"), (Jvm.Cond.lays "RetentionVault$Version" "RetentionVault$Version" "retainedUntil" "I"), (Jvm.Cond.lays "RetentionVault$Version" "RetentionVault$Version" "strict" "Z"), (Jvm.Cond.lays "RetentionVault$Version" "RetentionVault$Version" "holds" "I"), (Jvm.Cond.lays "RetentionVault$Version" "RetentionVault$Version" "readableFrom" "I"), (Jvm.Cond.lays "RetentionVault$Version" "RetentionVault$Version" "readableBefore" "I")], z ∈ tb
  exact List.forall_mem_cons.mpr ⟨w_262, List.forall_mem_cons.mpr ⟨w_264, List.forall_mem_cons.mpr ⟨w_266, List.forall_mem_cons.mpr ⟨w_268, List.forall_mem_cons.mpr ⟨w_270, List.forall_mem_cons.mpr ⟨w_272, List.forall_mem_cons.mpr ⟨w_274, List.forall_mem_cons.mpr ⟨w_276, List.forall_mem_cons.mpr ⟨w_278, List.forall_mem_cons.mpr ⟨w_280, List.forall_mem_cons.mpr ⟨w_282, List.forall_mem_cons.mpr ⟨w_284, List.forall_mem_cons.mpr ⟨w_286, fun _ h => absurd h List.not_mem_nil⟩⟩⟩⟩⟩⟩⟩⟩⟩⟩⟩⟩⟩
def RM : String := "RetentionVaultModel"
def FM : u_T := fun k => match k with
  | 0 => ("RetentionVaultModel", "code", "I", false)
  | 1 => ("RetentionVaultModel", "day", "I", false)
  | 2 => ("RetentionVaultModel", "made", "I", false)
  | 3 => ("RetentionVaultModel", "count", "I", false)
  | 4 => ("RetentionVaultModel", "number", "[I", true)
  | 5 => ("RetentionVaultModel", "key", "[I", true)
  | 6 => ("RetentionVaultModel", "size", "[I", true)
  | 7 => ("RetentionVaultModel", "tag", "[I", true)
  | 8 => ("RetentionVaultModel", "putOn", "[I", true)
  | 9 => ("RetentionVaultModel", "ceased", "[I", true)
  | 10 => ("RetentionVaultModel", "tier", "[I", true)
  | 11 => ("RetentionVaultModel", "until", "[I", true)
  | 12 => ("RetentionVaultModel", "strict", "[Z", true)
  | 13 => ("RetentionVaultModel", "holds", "[I", true)
  | 14 => ("RetentionVaultModel", "from", "[I", true)
  | 15 => ("RetentionVaultModel", "before", "[I", true)
  | 16 => ("RetentionVaultModel", "action", "[I", true)
  | 17 => ("RetentionVaultModel", "ruleTag", "[I", true)
  | 18 => ("RetentionVaultModel", "ruleCurrent", "[Z", true)
  | 19 => ("RetentionVaultModel", "ruleDays", "[I", true)
  | 20 => ("RetentionVaultModel", "entries", "I", false)
  | 21 => ("RetentionVaultModel", "log", "[I", true)
  | _ => ("RetentionVaultModel", "link", "J", false)
def TM : Nat → FieldType := fun k => match k with
  | 0 => .int
  | 1 => .int
  | 2 => .int
  | 3 => .int
  | 4 => .array .int
  | 5 => .array .int
  | 6 => .array .int
  | 7 => .array .int
  | 8 => .array .int
  | 9 => .array .int
  | 10 => .array .int
  | 11 => .array .int
  | 12 => .array .boolean
  | 13 => .array .int
  | 14 => .array .int
  | 15 => .array .int
  | 16 => .array .int
  | 17 => .array .int
  | 18 => .array .boolean
  | 19 => .array .int
  | 20 => .int
  | 21 => .array .int
  | _ => .long
theorem nmM : ∀ a, a < 23 → ∀ b, b < 23 → a ≠ b → (FM a).2.1 ≠ (FM b).2.1 := by decide +kernel
theorem tyM : ∀ k, k < 23 → parseFieldDescriptor (FM k).2.2.1 = some (TM k) := by decide +kernel
theorem inM : ∀ z ∈ u_ws RM FM 23, z ∈ tb := by
  show ∀ z ∈ [(Jvm.Cond.lays "RetentionVaultModel" "RetentionVaultModel" "code" "I"), (Jvm.Cond.lays "RetentionVaultModel" "RetentionVaultModel" "day" "I"), (Jvm.Cond.lays "RetentionVaultModel" "RetentionVaultModel" "made" "I"), (Jvm.Cond.lays "RetentionVaultModel" "RetentionVaultModel" "count" "I"), (Jvm.Cond.laysFinal "RetentionVaultModel" "RetentionVaultModel" "number" "[I"), (Jvm.Cond.laysFinal "RetentionVaultModel" "RetentionVaultModel" "key" "[I"), (Jvm.Cond.laysFinal "RetentionVaultModel" "RetentionVaultModel" "size" "[I"), (Jvm.Cond.laysFinal "RetentionVaultModel" "RetentionVaultModel" "tag" "[I"), (Jvm.Cond.laysFinal "RetentionVaultModel" "RetentionVaultModel" "putOn" "[I"), (Jvm.Cond.laysFinal "RetentionVaultModel" "RetentionVaultModel" "ceased" "[I"), (Jvm.Cond.laysFinal "RetentionVaultModel" "RetentionVaultModel" "tier" "[I"), (Jvm.Cond.laysFinal "RetentionVaultModel" "RetentionVaultModel" "until" "[I"), (Jvm.Cond.laysFinal "RetentionVaultModel" "RetentionVaultModel" "strict" "[Z"), (Jvm.Cond.laysFinal "RetentionVaultModel" "RetentionVaultModel" "holds" "[I"), (Jvm.Cond.laysFinal "RetentionVaultModel" "RetentionVaultModel" "from" "[I"), (Jvm.Cond.laysFinal "RetentionVaultModel" "RetentionVaultModel" "before" "[I"), (Jvm.Cond.laysFinal "RetentionVaultModel" "RetentionVaultModel" "action" "[I"), (Jvm.Cond.laysFinal "RetentionVaultModel" "RetentionVaultModel" "ruleTag" "[I"), (Jvm.Cond.laysFinal "RetentionVaultModel" "RetentionVaultModel" "ruleCurrent" "[Z"), (Jvm.Cond.laysFinal "RetentionVaultModel" "RetentionVaultModel" "ruleDays" "[I"), (Jvm.Cond.lays "RetentionVaultModel" "RetentionVaultModel" "entries" "I"), (Jvm.Cond.laysFinal "RetentionVaultModel" "RetentionVaultModel" "log" "[I"), (Jvm.Cond.lays "RetentionVaultModel" "RetentionVaultModel" "link" "J")], z ∈ tb
  exact List.forall_mem_cons.mpr ⟨w_660, List.forall_mem_cons.mpr ⟨w_662, List.forall_mem_cons.mpr ⟨w_664, List.forall_mem_cons.mpr ⟨w_666, List.forall_mem_cons.mpr ⟨w_668, List.forall_mem_cons.mpr ⟨w_670, List.forall_mem_cons.mpr ⟨w_672, List.forall_mem_cons.mpr ⟨w_674, List.forall_mem_cons.mpr ⟨w_676, List.forall_mem_cons.mpr ⟨w_678, List.forall_mem_cons.mpr ⟨w_680, List.forall_mem_cons.mpr ⟨w_682, List.forall_mem_cons.mpr ⟨w_684, List.forall_mem_cons.mpr ⟨w_686, List.forall_mem_cons.mpr ⟨w_688, List.forall_mem_cons.mpr ⟨w_690, List.forall_mem_cons.mpr ⟨w_692, List.forall_mem_cons.mpr ⟨w_694, List.forall_mem_cons.mpr ⟨w_696, List.forall_mem_cons.mpr ⟨w_698, List.forall_mem_cons.mpr ⟨w_700, List.forall_mem_cons.mpr ⟨w_702, List.forall_mem_cons.mpr ⟨w_704, fun _ h => absurd h List.not_mem_nil⟩⟩⟩⟩⟩⟩⟩⟩⟩⟩⟩⟩⟩⟩⟩⟩⟩⟩⟩⟩⟩⟩⟩
def RA : String := "java/util/ArrayList"
def FA : u_T := fun k => match k with
  | 0 => ("java/util/AbstractList", "modCount", "I", false)
  | 1 => ("java/util/ArrayList", "elementData", "[Ljava/lang/Object;", false)
  | _ => ("java/util/ArrayList", "size", "I", false)
def TA : Nat → FieldType := fun k => match k with
  | 0 => .int
  | 1 => .array (.object "java/lang/Object")
  | _ => .int
theorem nmA : ∀ a, a < 3 → ∀ b, b < 3 → a ≠ b → (FA a).2.1 ≠ (FA b).2.1 := by decide +kernel
theorem tyA : ∀ k, k < 3 → parseFieldDescriptor (FA k).2.2.1 = some (TA k) := by decide +kernel
theorem inA : ∀ z ∈ u_ws RA FA 3, z ∈ tb := by
  show ∀ z ∈ [(Jvm.Cond.lays "java/util/ArrayList" "java/util/AbstractList" "modCount" "I"), (Jvm.Cond.lays "java/util/ArrayList" "java/util/ArrayList" "elementData" "[Ljava/lang/Object;"), (Jvm.Cond.lays "java/util/ArrayList" "java/util/ArrayList" "size" "I")], z ∈ tb
  exact List.forall_mem_cons.mpr ⟨w_53, List.forall_mem_cons.mpr ⟨w_49, List.forall_mem_cons.mpr ⟨w_51, fun _ h => absurd h List.not_mem_nil⟩⟩⟩
abbrev cls : List vw_C := [(RV, FV, 5), (RG, FG, 3), (RU, FU, 4), (RN, FN, 13), (RM, FM, 23), (RA, FA, 3)]
def y_V_init : MethodName := ⟨"RetentionVault", "<init>", "()V"⟩
def y_A_init : MethodName := ⟨"java/util/ArrayList", "<init>", "()V"⟩
def y_AL_init : MethodName := ⟨"java/util/AbstractList", "<init>", "()V"⟩
def y_AC_init : MethodName := ⟨"java/util/AbstractCollection", "<init>", "()V"⟩
def y_U_init : MethodName := ⟨"RetentionVault$Rule", "<init>", "()V"⟩
def y_G_init : MethodName := ⟨"RetentionVault$Log", "<init>", "()V"⟩
def y_V_link : MethodName := ⟨"RetentionVault", "link", "()J"⟩
def y_W_put : MethodName := ⟨"RetentionVaultLaw", "put", "(LRetentionVault;III[J)I"⟩
def y_V_put : MethodName := ⟨"RetentionVault", "put", "(III)I"⟩
def y_V_isWithin : MethodName := ⟨"RetentionVault", "isWithin", "(III)Z"⟩
def y_V_demand : MethodName := ⟨"RetentionVault", "demand", "(Z)V"⟩
def y_V_demandRoom : MethodName := ⟨"RetentionVault", "demandRoom", "()V"⟩
def y_V_isFull : MethodName := ⟨"RetentionVault", "isFull", "()Z"⟩
def y_A_size : MethodName := ⟨"java/util/ArrayList", "size", "()I"⟩
def y_N_init : MethodName := ⟨"RetentionVault$Version", "<init>", "(III)V"⟩
def y_N_makeObject : MethodName := ⟨"RetentionVault$Version", "makeObject", "(II)V"⟩
def y_V_add : MethodName := ⟨"RetentionVault", "add", "(LRetentionVault$Version;)I"⟩
def y_V_latestOf : MethodName := ⟨"RetentionVault", "latestOf", "(I)LRetentionVault$Version;"⟩
def y_A_get : MethodName := ⟨"java/util/ArrayList", "get", "(I)Ljava/lang/Object;"⟩
def y_OB_checkIndex : MethodName := ⟨"java/util/Objects", "checkIndex", "(II)I"⟩
def y_PC_checkIndex : MethodName := ⟨"jdk/internal/util/Preconditions", "checkIndex", "(IILjava/util/function/BiFunction;)I"⟩
def y_A_elementData : MethodName := ⟨"java/util/ArrayList", "elementData", "(I)Ljava/lang/Object;"⟩
def y_A_add0 : MethodName := ⟨"java/util/ArrayList", "add", "(Ljava/lang/Object;)Z"⟩
def y_A_add1 : MethodName := ⟨"java/util/ArrayList", "add", "(Ljava/lang/Object;[Ljava/lang/Object;I)V"⟩
def y_A_grow0 : MethodName := ⟨"java/util/ArrayList", "grow", "()[Ljava/lang/Object;"⟩
def y_A_grow1 : MethodName := ⟨"java/util/ArrayList", "grow", "(I)[Ljava/lang/Object;"⟩
def y_AS_newLength : MethodName := ⟨"jdk/internal/util/ArraysSupport", "newLength", "(III)I"⟩
def y_MA_max : MethodName := ⟨"java/lang/Math", "max", "(II)I"⟩
def y_AS_hugeLength : MethodName := ⟨"jdk/internal/util/ArraysSupport", "hugeLength", "(II)I"⟩
def y_AR_copyOf0 : MethodName := ⟨"java/util/Arrays", "copyOf", "([Ljava/lang/Object;I)[Ljava/lang/Object;"⟩
def y_AR_copyOf1 : MethodName := ⟨"java/util/Arrays", "copyOf", "([Ljava/lang/Object;ILjava/lang/Class;)[Ljava/lang/Object;"⟩
def y_MA_min : MethodName := ⟨"java/lang/Math", "min", "(II)I"⟩
def y_N_isMarker : MethodName := ⟨"RetentionVault$Version", "isMarker", "()Z"⟩
def y_G_write : MethodName := ⟨"RetentionVault$Log", "write", "(IIII)V"⟩
def y_G_placeOf : MethodName := ⟨"RetentionVault$Log", "placeOf", "(I)I"⟩
def y_G_append : MethodName := ⟨"RetentionVault$Log", "append", "(II)V"⟩
def y_W_mark : MethodName := ⟨"RetentionVaultLaw", "mark", "(LRetentionVault;I[J)I"⟩
def y_V_mark : MethodName := ⟨"RetentionVault", "mark", "(I)I"⟩
def y_V_currentObject : MethodName := ⟨"RetentionVault", "currentObject", "(I)LRetentionVault$Version;"⟩
def y_W_erase : MethodName := ⟨"RetentionVaultLaw", "erase", "(LRetentionVault;IZ[J)I"⟩
def y_V_erase : MethodName := ⟨"RetentionVault", "erase", "(IZ)I"⟩
def y_V_versionNumbered : MethodName := ⟨"RetentionVault", "versionNumbered", "(I)LRetentionVault$Version;"⟩
def y_N_isRetainedStrictly : MethodName := ⟨"RetentionVault$Version", "isRetainedStrictly", "(I)Z"⟩
def y_N_isRetained : MethodName := ⟨"RetentionVault$Version", "isRetained", "(I)Z"⟩
def y_N_isHeld : MethodName := ⟨"RetentionVault$Version", "isHeld", "()Z"⟩
def y_V_takeAway : MethodName := ⟨"RetentionVault", "takeAway", "(LRetentionVault$Version;)V"⟩
def y_A_remove : MethodName := ⟨"java/util/ArrayList", "remove", "(I)Ljava/lang/Object;"⟩
def y_A_fastRemove : MethodName := ⟨"java/util/ArrayList", "fastRemove", "([Ljava/lang/Object;I)V"⟩
def y_W_retain : MethodName := ⟨"RetentionVaultLaw", "retain", "(LRetentionVault;IIZ)I"⟩
def y_V_retain : MethodName := ⟨"RetentionVault", "retain", "(IIZ)V"⟩
def y_V_objectNumbered : MethodName := ⟨"RetentionVault", "objectNumbered", "(I)LRetentionVault$Version;"⟩
def y_W_hold : MethodName := ⟨"RetentionVaultLaw", "hold", "(LRetentionVault;IIZ[J)I"⟩
def y_V_hold : MethodName := ⟨"RetentionVault", "hold", "(IIZ)Z"⟩
def y_W_rule : MethodName := ⟨"RetentionVaultLaw", "rule", "(LRetentionVault;IIZII)I"⟩
def y_V_rule : MethodName := ⟨"RetentionVault", "rule", "(IIZII)V"⟩
def y_U_become : MethodName := ⟨"RetentionVault$Rule", "become", "(IZII)V"⟩
def y_W_unrule : MethodName := ⟨"RetentionVaultLaw", "unrule", "(LRetentionVault;I[J)I"⟩
def y_V_unrule : MethodName := ⟨"RetentionVault", "unrule", "(I)Z"⟩
def y_U_isEmpty : MethodName := ⟨"RetentionVault$Rule", "isEmpty", "()Z"⟩
def y_W_fetch : MethodName := ⟨"RetentionVaultLaw", "fetch", "(LRetentionVault;II[J)I"⟩
def y_V_fetch : MethodName := ⟨"RetentionVault", "fetch", "(II)I"⟩
def y_N_isCold : MethodName := ⟨"RetentionVault$Version", "isCold", "()Z"⟩
def y_W_read : MethodName := ⟨"RetentionVaultLaw", "read", "(LRetentionVault;I[J)I"⟩
def y_V_read : MethodName := ⟨"RetentionVault", "read", "(I)I"⟩
def y_N_isFetchedFor : MethodName := ⟨"RetentionVault$Version", "isFetchedFor", "(I)Z"⟩
def y_W_tick : MethodName := ⟨"RetentionVaultLaw", "tick", "(LRetentionVault;I[J)I"⟩
def y_V_tick : MethodName := ⟨"RetentionVault", "tick", "(I)I"⟩
def y_V_goThroughVersions : MethodName := ⟨"RetentionVault", "goThroughVersions", "()V"⟩
def y_V_goThroughRules : MethodName := ⟨"RetentionVault", "goThroughRules", "(LRetentionVault$Version;)V"⟩
def y_U_isDue : MethodName := ⟨"RetentionVault$Rule", "isDue", "(LRetentionVault$Version;I)Z"⟩
def y_N_since : MethodName := ⟨"RetentionVault$Version", "since", "()I"⟩
def y_V_cool : MethodName := ⟨"RetentionVault", "cool", "(LRetentionVault$Version;I)V"⟩
def y_V_expire : MethodName := ⟨"RetentionVault", "expire", "(LRetentionVault$Version;)Z"⟩
def y_N_isGuarded : MethodName := ⟨"RetentionVault$Version", "isGuarded", "(I)Z"⟩
def y_V_takeLoneMarkersAway : MethodName := ⟨"RetentionVault", "takeLoneMarkersAway", "()V"⟩
def y_V_isAlone : MethodName := ⟨"RetentionVault", "isAlone", "(LRetentionVault$Version;)Z"⟩
def y_W_current : MethodName := ⟨"RetentionVaultLaw", "current", "(LRetentionVault;I[J)I"⟩
def y_V_current : MethodName := ⟨"RetentionVault", "current", "(I)I"⟩
def y_W_about : MethodName := ⟨"RetentionVaultLaw", "about", "(LRetentionVault;II[J)I"⟩
def y_V_about : MethodName := ⟨"RetentionVault", "about", "(II)I"⟩
def y_W_entry : MethodName := ⟨"RetentionVaultLaw", "entry", "(LRetentionVault;II[J)I"⟩
def y_V_entry : MethodName := ⟨"RetentionVault", "entry", "(II)I"⟩
def y_G_keeps : MethodName := ⟨"RetentionVault$Log", "keeps", "(I)Z"⟩
def y_G_numberOf : MethodName := ⟨"RetentionVault$Log", "numberOf", "(II)I"⟩
def y_W_figure : MethodName := ⟨"RetentionVaultLaw", "figure", "(LRetentionVault;I[J)I"⟩
def y_V_figure : MethodName := ⟨"RetentionVault", "figure", "(I)I"⟩
def y_V_sumOfSizes : MethodName := ⟨"RetentionVault", "sumOfSizes", "()I"⟩
def y_V_countOfGuarded : MethodName := ⟨"RetentionVault", "countOfGuarded", "()I"⟩
def y_M_init : MethodName := ⟨"RetentionVaultModel", "<init>", "()V"⟩
def y_M_thrown : MethodName := ⟨"RetentionVaultModel", "thrown", "()I"⟩
def y_M_put : MethodName := ⟨"RetentionVaultModel", "put", "(III)I"⟩
def y_M_add : MethodName := ⟨"RetentionVaultModel", "add", "(III)I"⟩
def y_M_currentOf : MethodName := ⟨"RetentionVaultModel", "currentOf", "(I)I"⟩
def y_M_enter : MethodName := ⟨"RetentionVaultModel", "enter", "(III)V"⟩
def y_M_mark : MethodName := ⟨"RetentionVaultModel", "mark", "(I)I"⟩
def y_M_erase : MethodName := ⟨"RetentionVaultModel", "erase", "(IZ)I"⟩
def y_M_find : MethodName := ⟨"RetentionVaultModel", "find", "(I)I"⟩
def y_M_isRetained : MethodName := ⟨"RetentionVaultModel", "isRetained", "(I)Z"⟩
def y_M_takeAway : MethodName := ⟨"RetentionVaultModel", "takeAway", "(I)V"⟩
def y_M_retain : MethodName := ⟨"RetentionVaultModel", "retain", "(IIZ)V"⟩
def y_M_object : MethodName := ⟨"RetentionVaultModel", "object", "(I)I"⟩
def y_M_hold : MethodName := ⟨"RetentionVaultModel", "hold", "(IIZ)Z"⟩
def y_M_rule : MethodName := ⟨"RetentionVaultModel", "rule", "(IIZII)V"⟩
def y_M_unrule : MethodName := ⟨"RetentionVaultModel", "unrule", "(I)Z"⟩
def y_M_tick : MethodName := ⟨"RetentionVaultModel", "tick", "(I)I"⟩
def y_M_begin : MethodName := ⟨"RetentionVaultModel", "begin", "()V"⟩
def y_M_go : MethodName := ⟨"RetentionVaultModel", "go", "(I)V"⟩
def y_M_isDue : MethodName := ⟨"RetentionVaultModel", "isDue", "(II)Z"⟩
def y_M_isCurrent : MethodName := ⟨"RetentionVaultModel", "isCurrent", "(I)Z"⟩
def y_M_since : MethodName := ⟨"RetentionVaultModel", "since", "(I)I"⟩
def y_M_isGuarded : MethodName := ⟨"RetentionVaultModel", "isGuarded", "(I)Z"⟩
def y_M_versionsOf : MethodName := ⟨"RetentionVaultModel", "versionsOf", "(I)I"⟩
def y_M_fetch : MethodName := ⟨"RetentionVaultModel", "fetch", "(II)I"⟩
def y_M_read : MethodName := ⟨"RetentionVaultModel", "read", "(I)I"⟩
def y_M_current : MethodName := ⟨"RetentionVaultModel", "current", "(I)I"⟩
def y_M_about : MethodName := ⟨"RetentionVaultModel", "about", "(II)I"⟩
def y_M_entry : MethodName := ⟨"RetentionVaultModel", "entry", "(II)I"⟩
def y_M_link : MethodName := ⟨"RetentionVaultModel", "link", "()J"⟩
def y_M_figure : MethodName := ⟨"RetentionVaultModel", "figure", "(I)I"⟩
end
section
theorem d_V_init_0 : decode prog_1_method_1_code 0 = .ok (.aload_n 0, 1) := by decide +kernel
theorem d_V_init_1 : decode prog_1_method_1_code 1 = .ok (.invokespecial 1, 3) := by decide +kernel
theorem d_V_init_4 : decode prog_1_method_1_code 4 = .ok (.aload_n 0, 1) := by decide +kernel
theorem d_V_init_5 : decode prog_1_method_1_code 5 = .ok (.new 7, 3) := by decide +kernel
theorem d_V_init_8 : decode prog_1_method_1_code 8 = .ok (.dup, 1) := by decide +kernel
theorem d_V_init_9 : decode prog_1_method_1_code 9 = .ok (.invokespecial 9, 3) := by decide +kernel
theorem d_V_init_12 : decode prog_1_method_1_code 12 = .ok (.putfield 10, 3) := by decide +kernel
theorem d_V_init_15 : decode prog_1_method_1_code 15 = .ok (.aload_n 0, 1) := by decide +kernel
theorem d_V_init_16 : decode prog_1_method_1_code 16 = .ok (.bipush 6, 2) := by decide +kernel
theorem d_V_init_18 : decode prog_1_method_1_code 18 = .ok (.anewarray 16, 3) := by decide +kernel
theorem d_V_init_21 : decode prog_1_method_1_code 21 = .ok (.putfield 18, 3) := by decide +kernel
theorem d_V_init_24 : decode prog_1_method_1_code 24 = .ok (.iconst 0, 1) := by decide +kernel
theorem d_V_init_25 : decode prog_1_method_1_code 25 = .ok (.istore_n 1, 1) := by decide +kernel
theorem d_V_init_26 : decode prog_1_method_1_code 26 = .ok (.iload_n 1, 1) := by decide +kernel
theorem d_V_init_27 : decode prog_1_method_1_code 27 = .ok (.aload_n 0, 1) := by decide +kernel
theorem d_V_init_28 : decode prog_1_method_1_code 28 = .ok (.getfield 18, 3) := by decide +kernel
theorem d_V_init_31 : decode prog_1_method_1_code 31 = .ok (.arraylength, 1) := by decide +kernel
theorem d_V_init_32 : decode prog_1_method_1_code 32 = .ok (.if_icmp .ge 22, 3) := by decide +kernel
theorem d_V_init_35 : decode prog_1_method_1_code 35 = .ok (.aload_n 0, 1) := by decide +kernel
theorem d_V_init_36 : decode prog_1_method_1_code 36 = .ok (.getfield 18, 3) := by decide +kernel
theorem d_V_init_39 : decode prog_1_method_1_code 39 = .ok (.iload_n 1, 1) := by decide +kernel
theorem d_V_init_40 : decode prog_1_method_1_code 40 = .ok (.new 16, 3) := by decide +kernel
theorem d_V_init_43 : decode prog_1_method_1_code 43 = .ok (.dup, 1) := by decide +kernel
theorem d_V_init_44 : decode prog_1_method_1_code 44 = .ok (.invokespecial 22, 3) := by decide +kernel
theorem d_V_init_47 : decode prog_1_method_1_code 47 = .ok (.aastore, 1) := by decide +kernel
theorem d_V_init_48 : decode prog_1_method_1_code 48 = .ok (.iinc 1 1, 3) := by decide +kernel
theorem d_V_init_51 : decode prog_1_method_1_code 51 = .ok (.goto (-25), 3) := by decide +kernel
theorem d_V_init_54 : decode prog_1_method_1_code 54 = .ok (.aload_n 0, 1) := by decide +kernel
theorem d_V_init_55 : decode prog_1_method_1_code 55 = .ok (.new 23, 3) := by decide +kernel
theorem d_V_init_58 : decode prog_1_method_1_code 58 = .ok (.dup, 1) := by decide +kernel
theorem d_V_init_59 : decode prog_1_method_1_code 59 = .ok (.invokespecial 25, 3) := by decide +kernel
theorem d_V_init_62 : decode prog_1_method_1_code 62 = .ok (.putfield 26, 3) := by decide +kernel
theorem d_V_init_65 : decode prog_1_method_1_code 65 = .ok (.return_, 1) := by decide +kernel
theorem d_A_init_0 : decode prog_21_method_2_code 0 = .ok (.aload_n 0, 1) := by decide +kernel
theorem d_A_init_1 : decode prog_21_method_2_code 1 = .ok (.invokespecial 1, 3) := by decide +kernel
theorem d_A_init_4 : decode prog_21_method_2_code 4 = .ok (.aload_n 0, 1) := by decide +kernel
theorem d_A_init_5 : decode prog_21_method_2_code 5 = .ok (.getstatic 39, 3) := by decide +kernel
theorem d_A_init_8 : decode prog_21_method_2_code 8 = .ok (.putfield 9, 3) := by decide +kernel
theorem d_A_init_11 : decode prog_21_method_2_code 11 = .ok (.return_, 1) := by decide +kernel
theorem d_AL_init_0 : decode prog_20_method_1_code 0 = .ok (.aload_n 0, 1) := by decide +kernel
theorem d_AL_init_1 : decode prog_20_method_1_code 1 = .ok (.invokespecial 1, 3) := by decide +kernel
theorem d_AL_init_4 : decode prog_20_method_1_code 4 = .ok (.aload_n 0, 1) := by decide +kernel
theorem d_AL_init_5 : decode prog_20_method_1_code 5 = .ok (.iconst 0, 1) := by decide +kernel
theorem d_AL_init_6 : decode prog_20_method_1_code 6 = .ok (.putfield 7, 3) := by decide +kernel
theorem d_AL_init_9 : decode prog_20_method_1_code 9 = .ok (.return_, 1) := by decide +kernel
theorem d_AC_init_0 : decode prog_19_method_1_code 0 = .ok (.aload_n 0, 1) := by decide +kernel
theorem d_AC_init_1 : decode prog_19_method_1_code 1 = .ok (.invokespecial 1, 3) := by decide +kernel
theorem d_AC_init_4 : decode prog_19_method_1_code 4 = .ok (.return_, 1) := by decide +kernel
theorem d_U_init_0 : decode prog_3_method_1_code 0 = .ok (.aload_n 0, 1) := by decide +kernel
theorem d_U_init_1 : decode prog_3_method_1_code 1 = .ok (.invokespecial 3, 3) := by decide +kernel
theorem d_U_init_4 : decode prog_3_method_1_code 4 = .ok (.return_, 1) := by decide +kernel
theorem d_G_init_0 : decode prog_2_method_1_code 0 = .ok (.aload_n 0, 1) := by decide +kernel
theorem d_G_init_1 : decode prog_2_method_1_code 1 = .ok (.invokespecial 1, 3) := by decide +kernel
theorem d_G_init_4 : decode prog_2_method_1_code 4 = .ok (.aload_n 0, 1) := by decide +kernel
theorem d_G_init_5 : decode prog_2_method_1_code 5 = .ok (.sipush 256, 3) := by decide +kernel
theorem d_G_init_8 : decode prog_2_method_1_code 8 = .ok (.newarray .int, 2) := by decide +kernel
theorem d_G_init_10 : decode prog_2_method_1_code 10 = .ok (.putfield 9, 3) := by decide +kernel
theorem d_G_init_13 : decode prog_2_method_1_code 13 = .ok (.aload_n 0, 1) := by decide +kernel
theorem d_G_init_14 : decode prog_2_method_1_code 14 = .ok (.ldc2_w 13, 3) := by decide +kernel
theorem d_G_init_17 : decode prog_2_method_1_code 17 = .ok (.putfield 15, 3) := by decide +kernel
theorem d_G_init_20 : decode prog_2_method_1_code 20 = .ok (.return_, 1) := by decide +kernel
theorem d_V_link_0 : decode prog_1_method_15_code 0 = .ok (.aload_n 0, 1) := by decide +kernel
theorem d_V_link_1 : decode prog_1_method_15_code 1 = .ok (.getfield 26, 3) := by decide +kernel
theorem d_V_link_4 : decode prog_1_method_15_code 4 = .ok (.getfield 184, 3) := by decide +kernel
theorem d_V_link_7 : decode prog_1_method_15_code 7 = .ok (.lreturn, 1) := by decide +kernel
theorem d_W_put_0 : decode method_3_code 0 = .ok (.aload 4, 2) := by decide +kernel
theorem d_W_put_2 : decode method_3_code 2 = .ok (.iconst 0, 1) := by decide +kernel
theorem d_W_put_3 : decode method_3_code 3 = .ok (.aload_n 0, 1) := by decide +kernel
theorem d_W_put_4 : decode method_3_code 4 = .ok (.iload_n 1, 1) := by decide +kernel
theorem d_W_put_5 : decode method_3_code 5 = .ok (.iload_n 2, 1) := by decide +kernel
theorem d_W_put_6 : decode method_3_code 6 = .ok (.iload_n 3, 1) := by decide +kernel
theorem d_W_put_7 : decode method_3_code 7 = .ok (.invokevirtual 7, 3) := by decide +kernel
theorem d_W_put_10 : decode method_3_code 10 = .ok (.i2l, 1) := by decide +kernel
theorem d_W_put_11 : decode method_3_code 11 = .ok (.lastore, 1) := by decide +kernel
theorem d_W_put_12 : decode method_3_code 12 = .ok (.goto 11, 3) := by decide +kernel
theorem d_W_put_15 : decode method_3_code 15 = .ok (.astore 5, 2) := by decide +kernel
theorem d_W_put_17 : decode method_3_code 17 = .ok (.iconst 1, 1) := by decide +kernel
theorem d_W_put_18 : decode method_3_code 18 = .ok (.ireturn, 1) := by decide +kernel
theorem d_W_put_19 : decode method_3_code 19 = .ok (.astore 5, 2) := by decide +kernel
theorem d_W_put_21 : decode method_3_code 21 = .ok (.iconst 2, 1) := by decide +kernel
theorem d_W_put_22 : decode method_3_code 22 = .ok (.ireturn, 1) := by decide +kernel
theorem d_W_put_23 : decode method_3_code 23 = .ok (.iconst 0, 1) := by decide +kernel
theorem d_W_put_24 : decode method_3_code 24 = .ok (.ireturn, 1) := by decide +kernel
theorem d_V_put_0 : decode prog_1_method_2_code 0 = .ok (.iload_n 2, 1) := by decide +kernel
theorem d_V_put_1 : decode prog_1_method_2_code 1 = .ok (.iconst 1, 1) := by decide +kernel
theorem d_V_put_2 : decode prog_1_method_2_code 2 = .ok (.ldc 30, 2) := by decide +kernel
theorem d_V_put_4 : decode prog_1_method_2_code 4 = .ok (.invokestatic 31, 3) := by decide +kernel
theorem d_V_put_7 : decode prog_1_method_2_code 7 = .ok (.ifCond .eq 16, 3) := by decide +kernel
theorem d_V_put_10 : decode prog_1_method_2_code 10 = .ok (.iload_n 3, 1) := by decide +kernel
theorem d_V_put_11 : decode prog_1_method_2_code 11 = .ok (.iconst 0, 1) := by decide +kernel
theorem d_V_put_12 : decode prog_1_method_2_code 12 = .ok (.iconst 3, 1) := by decide +kernel
theorem d_V_put_13 : decode prog_1_method_2_code 13 = .ok (.invokestatic 31, 3) := by decide +kernel
theorem d_V_put_16 : decode prog_1_method_2_code 16 = .ok (.ifCond .eq 7, 3) := by decide +kernel
theorem d_V_put_19 : decode prog_1_method_2_code 19 = .ok (.iconst 1, 1) := by decide +kernel
theorem d_V_put_20 : decode prog_1_method_2_code 20 = .ok (.goto 4, 3) := by decide +kernel
theorem d_V_put_23 : decode prog_1_method_2_code 23 = .ok (.iconst 0, 1) := by decide +kernel
theorem d_V_put_24 : decode prog_1_method_2_code 24 = .ok (.invokestatic 35, 3) := by decide +kernel
theorem d_V_put_27 : decode prog_1_method_2_code 27 = .ok (.aload_n 0, 1) := by decide +kernel
theorem d_V_put_28 : decode prog_1_method_2_code 28 = .ok (.invokevirtual 39, 3) := by decide +kernel
theorem d_V_put_31 : decode prog_1_method_2_code 31 = .ok (.new 42, 3) := by decide +kernel
theorem d_V_put_34 : decode prog_1_method_2_code 34 = .ok (.dup, 1) := by decide +kernel
theorem d_V_put_35 : decode prog_1_method_2_code 35 = .ok (.aload_n 0, 1) := by decide +kernel
theorem d_V_put_36 : decode prog_1_method_2_code 36 = .ok (.getfield 44, 3) := by decide +kernel
theorem d_V_put_39 : decode prog_1_method_2_code 39 = .ok (.iload_n 1, 1) := by decide +kernel
theorem d_V_put_40 : decode prog_1_method_2_code 40 = .ok (.aload_n 0, 1) := by decide +kernel
theorem d_V_put_41 : decode prog_1_method_2_code 41 = .ok (.getfield 48, 3) := by decide +kernel
theorem d_V_put_44 : decode prog_1_method_2_code 44 = .ok (.invokespecial 51, 3) := by decide +kernel
theorem d_V_put_47 : decode prog_1_method_2_code 47 = .ok (.astore 4, 2) := by decide +kernel
theorem d_V_put_49 : decode prog_1_method_2_code 49 = .ok (.aload 4, 2) := by decide +kernel
theorem d_V_put_51 : decode prog_1_method_2_code 51 = .ok (.iload_n 2, 1) := by decide +kernel
theorem d_V_put_52 : decode prog_1_method_2_code 52 = .ok (.iload_n 3, 1) := by decide +kernel
theorem d_V_put_53 : decode prog_1_method_2_code 53 = .ok (.invokevirtual 54, 3) := by decide +kernel
theorem d_V_put_56 : decode prog_1_method_2_code 56 = .ok (.aload_n 0, 1) := by decide +kernel
theorem d_V_put_57 : decode prog_1_method_2_code 57 = .ok (.aload 4, 2) := by decide +kernel
theorem d_V_put_59 : decode prog_1_method_2_code 59 = .ok (.invokevirtual 58, 3) := by decide +kernel
theorem d_V_put_62 : decode prog_1_method_2_code 62 = .ok (.ireturn, 1) := by decide +kernel
theorem d_V_isWithin_0 : decode prog_1_method_17_code 0 = .ok (.iload_n 1, 1) := by decide +kernel
theorem d_V_isWithin_1 : decode prog_1_method_17_code 1 = .ok (.iload_n 0, 1) := by decide +kernel
theorem d_V_isWithin_2 : decode prog_1_method_17_code 2 = .ok (.if_icmp .gt 12, 3) := by decide +kernel
theorem d_V_isWithin_5 : decode prog_1_method_17_code 5 = .ok (.iload_n 0, 1) := by decide +kernel
theorem d_V_isWithin_6 : decode prog_1_method_17_code 6 = .ok (.iload_n 2, 1) := by decide +kernel
theorem d_V_isWithin_7 : decode prog_1_method_17_code 7 = .ok (.if_icmp .gt 7, 3) := by decide +kernel
theorem d_V_isWithin_10 : decode prog_1_method_17_code 10 = .ok (.iconst 1, 1) := by decide +kernel
theorem d_V_isWithin_11 : decode prog_1_method_17_code 11 = .ok (.goto 4, 3) := by decide +kernel
theorem d_V_isWithin_14 : decode prog_1_method_17_code 14 = .ok (.iconst 0, 1) := by decide +kernel
theorem d_V_isWithin_15 : decode prog_1_method_17_code 15 = .ok (.ireturn, 1) := by decide +kernel
theorem d_V_demand_0 : decode prog_1_method_18_code 0 = .ok (.iload_n 0, 1) := by decide +kernel
theorem d_V_demand_1 : decode prog_1_method_18_code 1 = .ok (.ifCond .ne 13, 3) := by decide +kernel
theorem d_V_demand_4 : decode prog_1_method_18_code 4 = .ok (.new 167, 3) := by decide +kernel
theorem d_V_demand_7 : decode prog_1_method_18_code 7 = .ok (.dup, 1) := by decide +kernel
theorem d_V_demand_8 : decode prog_1_method_18_code 8 = .ok (.ldc 198, 2) := by decide +kernel
theorem d_V_demand_10 : decode prog_1_method_18_code 10 = .ok (.invokespecial 171, 3) := by decide +kernel
theorem d_V_demand_13 : decode prog_1_method_18_code 13 = .ok (.athrow, 1) := by decide +kernel
theorem d_V_demand_14 : decode prog_1_method_18_code 14 = .ok (.return_, 1) := by decide +kernel
theorem d_V_demandRoom_0 : decode prog_1_method_19_code 0 = .ok (.aload_n 0, 1) := by decide +kernel
theorem d_V_demandRoom_1 : decode prog_1_method_19_code 1 = .ok (.invokevirtual 200, 3) := by decide +kernel
theorem d_V_demandRoom_4 : decode prog_1_method_19_code 4 = .ok (.ifCond .eq 13, 3) := by decide +kernel
theorem d_V_demandRoom_7 : decode prog_1_method_19_code 7 = .ok (.new 80, 3) := by decide +kernel
theorem d_V_demandRoom_10 : decode prog_1_method_19_code 10 = .ok (.dup, 1) := by decide +kernel
theorem d_V_demandRoom_11 : decode prog_1_method_19_code 11 = .ok (.ldc 203, 2) := by decide +kernel
theorem d_V_demandRoom_13 : decode prog_1_method_19_code 13 = .ok (.invokespecial 84, 3) := by decide +kernel
theorem d_V_demandRoom_16 : decode prog_1_method_19_code 16 = .ok (.athrow, 1) := by decide +kernel
theorem d_V_demandRoom_17 : decode prog_1_method_19_code 17 = .ok (.return_, 1) := by decide +kernel
theorem d_V_isFull_0 : decode prog_1_method_20_code 0 = .ok (.aload_n 0, 1) := by decide +kernel
theorem d_V_isFull_1 : decode prog_1_method_20_code 1 = .ok (.getfield 10, 3) := by decide +kernel
theorem d_V_isFull_4 : decode prog_1_method_20_code 4 = .ok (.invokevirtual 188, 3) := by decide +kernel
theorem d_V_isFull_7 : decode prog_1_method_20_code 7 = .ok (.bipush 40, 2) := by decide +kernel
theorem d_V_isFull_9 : decode prog_1_method_20_code 9 = .ok (.if_icmp .lt 7, 3) := by decide +kernel
theorem d_V_isFull_12 : decode prog_1_method_20_code 12 = .ok (.iconst 1, 1) := by decide +kernel
theorem d_V_isFull_13 : decode prog_1_method_20_code 13 = .ok (.goto 4, 3) := by decide +kernel
theorem d_V_isFull_16 : decode prog_1_method_20_code 16 = .ok (.iconst 0, 1) := by decide +kernel
theorem d_V_isFull_17 : decode prog_1_method_20_code 17 = .ok (.ireturn, 1) := by decide +kernel
theorem d_A_size_0 : decode prog_21_method_8_code 0 = .ok (.aload_n 0, 1) := by decide +kernel
theorem d_A_size_1 : decode prog_21_method_8_code 1 = .ok (.getfield 48, 3) := by decide +kernel
theorem d_A_size_4 : decode prog_21_method_8_code 4 = .ok (.ireturn, 1) := by decide +kernel
theorem d_N_init_0 : decode prog_4_method_1_code 0 = .ok (.aload_n 0, 1) := by decide +kernel
theorem d_N_init_1 : decode prog_4_method_1_code 1 = .ok (.invokespecial 3, 3) := by decide +kernel
theorem d_N_init_4 : decode prog_4_method_1_code 4 = .ok (.aload_n 0, 1) := by decide +kernel
theorem d_N_init_5 : decode prog_4_method_1_code 5 = .ok (.iload_n 1, 1) := by decide +kernel
theorem d_N_init_6 : decode prog_4_method_1_code 6 = .ok (.putfield 9, 3) := by decide +kernel
theorem d_N_init_9 : decode prog_4_method_1_code 9 = .ok (.aload_n 0, 1) := by decide +kernel
theorem d_N_init_10 : decode prog_4_method_1_code 10 = .ok (.iload_n 2, 1) := by decide +kernel
theorem d_N_init_11 : decode prog_4_method_1_code 11 = .ok (.putfield 15, 3) := by decide +kernel
theorem d_N_init_14 : decode prog_4_method_1_code 14 = .ok (.aload_n 0, 1) := by decide +kernel
theorem d_N_init_15 : decode prog_4_method_1_code 15 = .ok (.iload_n 3, 1) := by decide +kernel
theorem d_N_init_16 : decode prog_4_method_1_code 16 = .ok (.putfield 18, 3) := by decide +kernel
theorem d_N_init_19 : decode prog_4_method_1_code 19 = .ok (.aload_n 0, 1) := by decide +kernel
theorem d_N_init_20 : decode prog_4_method_1_code 20 = .ok (.iconst (-1), 1) := by decide +kernel
theorem d_N_init_21 : decode prog_4_method_1_code 21 = .ok (.putfield 21, 3) := by decide +kernel
theorem d_N_init_24 : decode prog_4_method_1_code 24 = .ok (.aload_n 0, 1) := by decide +kernel
theorem d_N_init_25 : decode prog_4_method_1_code 25 = .ok (.iconst 1, 1) := by decide +kernel
theorem d_N_init_26 : decode prog_4_method_1_code 26 = .ok (.putfield 24, 3) := by decide +kernel
theorem d_N_init_29 : decode prog_4_method_1_code 29 = .ok (.return_, 1) := by decide +kernel
theorem d_N_makeObject_0 : decode prog_4_method_2_code 0 = .ok (.aload_n 0, 1) := by decide +kernel
theorem d_N_makeObject_1 : decode prog_4_method_2_code 1 = .ok (.iload_n 1, 1) := by decide +kernel
theorem d_N_makeObject_2 : decode prog_4_method_2_code 2 = .ok (.putfield 28, 3) := by decide +kernel
theorem d_N_makeObject_5 : decode prog_4_method_2_code 5 = .ok (.aload_n 0, 1) := by decide +kernel
theorem d_N_makeObject_6 : decode prog_4_method_2_code 6 = .ok (.iload_n 2, 1) := by decide +kernel
theorem d_N_makeObject_7 : decode prog_4_method_2_code 7 = .ok (.putfield 31, 3) := by decide +kernel
theorem d_N_makeObject_10 : decode prog_4_method_2_code 10 = .ok (.aload_n 0, 1) := by decide +kernel
theorem d_N_makeObject_11 : decode prog_4_method_2_code 11 = .ok (.iconst 0, 1) := by decide +kernel
theorem d_N_makeObject_12 : decode prog_4_method_2_code 12 = .ok (.putfield 21, 3) := by decide +kernel
theorem d_N_makeObject_15 : decode prog_4_method_2_code 15 = .ok (.return_, 1) := by decide +kernel
theorem d_V_add_0 : decode prog_1_method_25_code 0 = .ok (.aload_n 0, 1) := by decide +kernel
theorem d_V_add_1 : decode prog_1_method_25_code 1 = .ok (.aload_n 1, 1) := by decide +kernel
theorem d_V_add_2 : decode prog_1_method_25_code 2 = .ok (.getfield 91, 3) := by decide +kernel
theorem d_V_add_5 : decode prog_1_method_25_code 5 = .ok (.invokevirtual 219, 3) := by decide +kernel
theorem d_V_add_8 : decode prog_1_method_25_code 8 = .ok (.astore_n 2, 1) := by decide +kernel
theorem d_V_add_9 : decode prog_1_method_25_code 9 = .ok (.aload_n 2, 1) := by decide +kernel
theorem d_V_add_10 : decode prog_1_method_25_code 10 = .ok (.ifnull 16, 3) := by decide +kernel
theorem d_V_add_13 : decode prog_1_method_25_code 13 = .ok (.aload_n 2, 1) := by decide +kernel
theorem d_V_add_14 : decode prog_1_method_25_code 14 = .ok (.iconst 0, 1) := by decide +kernel
theorem d_V_add_15 : decode prog_1_method_25_code 15 = .ok (.putfield 161, 3) := by decide +kernel
theorem d_V_add_18 : decode prog_1_method_25_code 18 = .ok (.aload_n 2, 1) := by decide +kernel
theorem d_V_add_19 : decode prog_1_method_25_code 19 = .ok (.aload_n 0, 1) := by decide +kernel
theorem d_V_add_20 : decode prog_1_method_25_code 20 = .ok (.getfield 48, 3) := by decide +kernel
theorem d_V_add_23 : decode prog_1_method_25_code 23 = .ok (.putfield 224, 3) := by decide +kernel
theorem d_V_add_26 : decode prog_1_method_25_code 26 = .ok (.aload_n 0, 1) := by decide +kernel
theorem d_V_add_27 : decode prog_1_method_25_code 27 = .ok (.getfield 10, 3) := by decide +kernel
theorem d_V_add_30 : decode prog_1_method_25_code 30 = .ok (.aload_n 1, 1) := by decide +kernel
theorem d_V_add_31 : decode prog_1_method_25_code 31 = .ok (.invokevirtual 227, 3) := by decide +kernel
theorem d_V_add_34 : decode prog_1_method_25_code 34 = .ok (.pop, 1) := by decide +kernel
theorem d_V_add_35 : decode prog_1_method_25_code 35 = .ok (.aload_n 0, 1) := by decide +kernel
theorem d_V_add_36 : decode prog_1_method_25_code 36 = .ok (.dup, 1) := by decide +kernel
theorem d_V_add_37 : decode prog_1_method_25_code 37 = .ok (.getfield 44, 3) := by decide +kernel
theorem d_V_add_40 : decode prog_1_method_25_code 40 = .ok (.iconst 1, 1) := by decide +kernel
theorem d_V_add_41 : decode prog_1_method_25_code 41 = .ok (.iadd, 1) := by decide +kernel
theorem d_V_add_42 : decode prog_1_method_25_code 42 = .ok (.putfield 44, 3) := by decide +kernel
theorem d_V_add_45 : decode prog_1_method_25_code 45 = .ok (.aload_n 0, 1) := by decide +kernel
theorem d_V_add_46 : decode prog_1_method_25_code 46 = .ok (.getfield 26, 3) := by decide +kernel
theorem d_V_add_49 : decode prog_1_method_25_code 49 = .ok (.aload_n 0, 1) := by decide +kernel
theorem d_V_add_50 : decode prog_1_method_25_code 50 = .ok (.getfield 48, 3) := by decide +kernel
theorem d_V_add_53 : decode prog_1_method_25_code 53 = .ok (.aload_n 1, 1) := by decide +kernel
theorem d_V_add_54 : decode prog_1_method_25_code 54 = .ok (.invokevirtual 214, 3) := by decide +kernel
theorem d_V_add_57 : decode prog_1_method_25_code 57 = .ok (.ifCond .eq 7, 3) := by decide +kernel
theorem d_V_add_60 : decode prog_1_method_25_code 60 = .ok (.iconst 2, 1) := by decide +kernel
theorem d_V_add_61 : decode prog_1_method_25_code 61 = .ok (.goto 4, 3) := by decide +kernel
theorem d_V_add_64 : decode prog_1_method_25_code 64 = .ok (.iconst 1, 1) := by decide +kernel
theorem d_V_add_65 : decode prog_1_method_25_code 65 = .ok (.aload_n 1, 1) := by decide +kernel
theorem d_V_add_66 : decode prog_1_method_25_code 66 = .ok (.getfield 106, 3) := by decide +kernel
theorem d_V_add_69 : decode prog_1_method_25_code 69 = .ok (.aload_n 1, 1) := by decide +kernel
theorem d_V_add_70 : decode prog_1_method_25_code 70 = .ok (.getfield 91, 3) := by decide +kernel
theorem d_V_add_73 : decode prog_1_method_25_code 73 = .ok (.invokevirtual 109, 3) := by decide +kernel
theorem d_V_add_76 : decode prog_1_method_25_code 76 = .ok (.aload_n 1, 1) := by decide +kernel
theorem d_V_add_77 : decode prog_1_method_25_code 77 = .ok (.getfield 106, 3) := by decide +kernel
theorem d_V_add_80 : decode prog_1_method_25_code 80 = .ok (.ireturn, 1) := by decide +kernel
theorem d_V_latestOf_0 : decode prog_1_method_24_code 0 = .ok (.aload_n 0, 1) := by decide +kernel
theorem d_V_latestOf_1 : decode prog_1_method_24_code 1 = .ok (.getfield 10, 3) := by decide +kernel
theorem d_V_latestOf_4 : decode prog_1_method_24_code 4 = .ok (.invokevirtual 188, 3) := by decide +kernel
theorem d_V_latestOf_7 : decode prog_1_method_24_code 7 = .ok (.iconst 1, 1) := by decide +kernel
theorem d_V_latestOf_8 : decode prog_1_method_24_code 8 = .ok (.isub, 1) := by decide +kernel
theorem d_V_latestOf_9 : decode prog_1_method_24_code 9 = .ok (.istore_n 2, 1) := by decide +kernel
theorem d_V_latestOf_10 : decode prog_1_method_24_code 10 = .ok (.iload_n 2, 1) := by decide +kernel
theorem d_V_latestOf_11 : decode prog_1_method_24_code 11 = .ok (.ifCond .lt 31, 3) := by decide +kernel
theorem d_V_latestOf_14 : decode prog_1_method_24_code 14 = .ok (.aload_n 0, 1) := by decide +kernel
theorem d_V_latestOf_15 : decode prog_1_method_24_code 15 = .ok (.getfield 10, 3) := by decide +kernel
theorem d_V_latestOf_18 : decode prog_1_method_24_code 18 = .ok (.iload_n 2, 1) := by decide +kernel
theorem d_V_latestOf_19 : decode prog_1_method_24_code 19 = .ok (.invokevirtual 205, 3) := by decide +kernel
theorem d_V_latestOf_22 : decode prog_1_method_24_code 22 = .ok (.checkcast 42, 3) := by decide +kernel
theorem d_V_latestOf_25 : decode prog_1_method_24_code 25 = .ok (.astore_n 3, 1) := by decide +kernel
theorem d_V_latestOf_26 : decode prog_1_method_24_code 26 = .ok (.aload_n 3, 1) := by decide +kernel
theorem d_V_latestOf_27 : decode prog_1_method_24_code 27 = .ok (.getfield 91, 3) := by decide +kernel
theorem d_V_latestOf_30 : decode prog_1_method_24_code 30 = .ok (.iload_n 1, 1) := by decide +kernel
theorem d_V_latestOf_31 : decode prog_1_method_24_code 31 = .ok (.if_icmp .ne 5, 3) := by decide +kernel
theorem d_V_latestOf_34 : decode prog_1_method_24_code 34 = .ok (.aload_n 3, 1) := by decide +kernel
theorem d_V_latestOf_35 : decode prog_1_method_24_code 35 = .ok (.areturn, 1) := by decide +kernel
theorem d_V_latestOf_36 : decode prog_1_method_24_code 36 = .ok (.iinc 2 (-1), 3) := by decide +kernel
theorem d_V_latestOf_39 : decode prog_1_method_24_code 39 = .ok (.goto (-29), 3) := by decide +kernel
theorem d_V_latestOf_42 : decode prog_1_method_24_code 42 = .ok (.aconst_null, 1) := by decide +kernel
theorem d_V_latestOf_43 : decode prog_1_method_24_code 43 = .ok (.areturn, 1) := by decide +kernel
theorem d_A_get_0 : decode prog_21_method_20_code 0 = .ok (.iload_n 1, 1) := by decide +kernel
theorem d_A_get_1 : decode prog_21_method_20_code 1 = .ok (.aload_n 0, 1) := by decide +kernel
theorem d_A_get_2 : decode prog_21_method_20_code 2 = .ok (.getfield 48, 3) := by decide +kernel
theorem d_A_get_5 : decode prog_21_method_20_code 5 = .ok (.invokestatic 118, 3) := by decide +kernel
theorem d_A_get_8 : decode prog_21_method_20_code 8 = .ok (.pop, 1) := by decide +kernel
theorem d_A_get_9 : decode prog_21_method_20_code 9 = .ok (.aload_n 0, 1) := by decide +kernel
theorem d_A_get_10 : decode prog_21_method_20_code 10 = .ok (.iload_n 1, 1) := by decide +kernel
theorem d_A_get_11 : decode prog_21_method_20_code 11 = .ok (.invokevirtual 123, 3) := by decide +kernel
theorem d_A_get_14 : decode prog_21_method_20_code 14 = .ok (.areturn, 1) := by decide +kernel
theorem d_OB_checkIndex_0 : decode prog_26_method_17_code 0 = .ok (.iload_n 0, 1) := by decide +kernel
theorem d_OB_checkIndex_1 : decode prog_26_method_17_code 1 = .ok (.iload_n 1, 1) := by decide +kernel
theorem d_OB_checkIndex_2 : decode prog_26_method_17_code 2 = .ok (.aconst_null, 1) := by decide +kernel
theorem d_OB_checkIndex_3 : decode prog_26_method_17_code 3 = .ok (.invokestatic 105, 3) := by decide +kernel
theorem d_OB_checkIndex_6 : decode prog_26_method_17_code 6 = .ok (.ireturn, 1) := by decide +kernel
theorem d_PC_checkIndex_0 : decode prog_30_method_11_code 0 = .ok (.iload_n 0, 1) := by decide +kernel
theorem d_PC_checkIndex_1 : decode prog_30_method_11_code 1 = .ok (.ifCond .lt 8, 3) := by decide +kernel
theorem d_PC_checkIndex_4 : decode prog_30_method_11_code 4 = .ok (.iload_n 0, 1) := by decide +kernel
theorem d_PC_checkIndex_5 : decode prog_30_method_11_code 5 = .ok (.iload_n 1, 1) := by decide +kernel
theorem d_PC_checkIndex_6 : decode prog_30_method_11_code 6 = .ok (.if_icmp .lt 10, 3) := by decide +kernel
theorem d_PC_checkIndex_9 : decode prog_30_method_11_code 9 = .ok (.aload_n 2, 1) := by decide +kernel
theorem d_PC_checkIndex_10 : decode prog_30_method_11_code 10 = .ok (.iload_n 0, 1) := by decide +kernel
theorem d_PC_checkIndex_11 : decode prog_30_method_11_code 11 = .ok (.iload_n 1, 1) := by decide +kernel
theorem d_PC_checkIndex_12 : decode prog_30_method_11_code 12 = .ok (.invokestatic 95, 3) := by decide +kernel
theorem d_PC_checkIndex_15 : decode prog_30_method_11_code 15 = .ok (.athrow, 1) := by decide +kernel
theorem d_PC_checkIndex_16 : decode prog_30_method_11_code 16 = .ok (.iload_n 0, 1) := by decide +kernel
theorem d_PC_checkIndex_17 : decode prog_30_method_11_code 17 = .ok (.ireturn, 1) := by decide +kernel
theorem d_A_elementData_0 : decode prog_21_method_18_code 0 = .ok (.aload_n 0, 1) := by decide +kernel
theorem d_A_elementData_1 : decode prog_21_method_18_code 1 = .ok (.getfield 9, 3) := by decide +kernel
theorem d_A_elementData_4 : decode prog_21_method_18_code 4 = .ok (.iload_n 1, 1) := by decide +kernel
theorem d_A_elementData_5 : decode prog_21_method_18_code 5 = .ok (.aaload, 1) := by decide +kernel
theorem d_A_elementData_6 : decode prog_21_method_18_code 6 = .ok (.areturn, 1) := by decide +kernel
theorem d_A_add0_0 : decode prog_21_method_25_code 0 = .ok (.aload_n 0, 1) := by decide +kernel
theorem d_A_add0_1 : decode prog_21_method_25_code 1 = .ok (.dup, 1) := by decide +kernel
theorem d_A_add0_2 : decode prog_21_method_25_code 2 = .ok (.getfield 63, 3) := by decide +kernel
theorem d_A_add0_5 : decode prog_21_method_25_code 5 = .ok (.iconst 1, 1) := by decide +kernel
theorem d_A_add0_6 : decode prog_21_method_25_code 6 = .ok (.iadd, 1) := by decide +kernel
theorem d_A_add0_7 : decode prog_21_method_25_code 7 = .ok (.putfield 63, 3) := by decide +kernel
theorem d_A_add0_10 : decode prog_21_method_25_code 10 = .ok (.aload_n 0, 1) := by decide +kernel
theorem d_A_add0_11 : decode prog_21_method_25_code 11 = .ok (.aload_n 1, 1) := by decide +kernel
theorem d_A_add0_12 : decode prog_21_method_25_code 12 = .ok (.aload_n 0, 1) := by decide +kernel
theorem d_A_add0_13 : decode prog_21_method_25_code 13 = .ok (.getfield 9, 3) := by decide +kernel
theorem d_A_add0_16 : decode prog_21_method_25_code 16 = .ok (.aload_n 0, 1) := by decide +kernel
theorem d_A_add0_17 : decode prog_21_method_25_code 17 = .ok (.getfield 48, 3) := by decide +kernel
theorem d_A_add0_20 : decode prog_21_method_25_code 20 = .ok (.invokevirtual 131, 3) := by decide +kernel
theorem d_A_add0_23 : decode prog_21_method_25_code 23 = .ok (.iconst 1, 1) := by decide +kernel
theorem d_A_add0_24 : decode prog_21_method_25_code 24 = .ok (.ireturn, 1) := by decide +kernel
theorem d_A_add1_0 : decode prog_21_method_24_code 0 = .ok (.iload_n 3, 1) := by decide +kernel
theorem d_A_add1_1 : decode prog_21_method_24_code 1 = .ok (.aload_n 2, 1) := by decide +kernel
theorem d_A_add1_2 : decode prog_21_method_24_code 2 = .ok (.arraylength, 1) := by decide +kernel
theorem d_A_add1_3 : decode prog_21_method_24_code 3 = .ok (.if_icmp .ne 8, 3) := by decide +kernel
theorem d_A_add1_6 : decode prog_21_method_24_code 6 = .ok (.aload_n 0, 1) := by decide +kernel
theorem d_A_add1_7 : decode prog_21_method_24_code 7 = .ok (.invokevirtual 129, 3) := by decide +kernel
theorem d_A_add1_10 : decode prog_21_method_24_code 10 = .ok (.astore_n 2, 1) := by decide +kernel
theorem d_A_add1_11 : decode prog_21_method_24_code 11 = .ok (.aload_n 2, 1) := by decide +kernel
theorem d_A_add1_12 : decode prog_21_method_24_code 12 = .ok (.iload_n 3, 1) := by decide +kernel
theorem d_A_add1_13 : decode prog_21_method_24_code 13 = .ok (.aload_n 1, 1) := by decide +kernel
theorem d_A_add1_14 : decode prog_21_method_24_code 14 = .ok (.aastore, 1) := by decide +kernel
theorem d_A_add1_15 : decode prog_21_method_24_code 15 = .ok (.aload_n 0, 1) := by decide +kernel
theorem d_A_add1_16 : decode prog_21_method_24_code 16 = .ok (.iload_n 3, 1) := by decide +kernel
theorem d_A_add1_17 : decode prog_21_method_24_code 17 = .ok (.iconst 1, 1) := by decide +kernel
theorem d_A_add1_18 : decode prog_21_method_24_code 18 = .ok (.iadd, 1) := by decide +kernel
theorem d_A_add1_19 : decode prog_21_method_24_code 19 = .ok (.putfield 48, 3) := by decide +kernel
theorem d_A_add1_22 : decode prog_21_method_24_code 22 = .ok (.return_, 1) := by decide +kernel
theorem d_A_grow0_0 : decode prog_21_method_7_code 0 = .ok (.aload_n 0, 1) := by decide +kernel
theorem d_A_grow0_1 : decode prog_21_method_7_code 1 = .ok (.aload_n 0, 1) := by decide +kernel
theorem d_A_grow0_2 : decode prog_21_method_7_code 2 = .ok (.getfield 48, 3) := by decide +kernel
theorem d_A_grow0_5 : decode prog_21_method_7_code 5 = .ok (.iconst 1, 1) := by decide +kernel
theorem d_A_grow0_6 : decode prog_21_method_7_code 6 = .ok (.iadd, 1) := by decide +kernel
theorem d_A_grow0_7 : decode prog_21_method_7_code 7 = .ok (.invokevirtual 69, 3) := by decide +kernel
theorem d_A_grow0_10 : decode prog_21_method_7_code 10 = .ok (.areturn, 1) := by decide +kernel
theorem d_A_grow1_0 : decode prog_21_method_6_code 0 = .ok (.aload_n 0, 1) := by decide +kernel
theorem d_A_grow1_1 : decode prog_21_method_6_code 1 = .ok (.getfield 9, 3) := by decide +kernel
theorem d_A_grow1_4 : decode prog_21_method_6_code 4 = .ok (.arraylength, 1) := by decide +kernel
theorem d_A_grow1_5 : decode prog_21_method_6_code 5 = .ok (.istore_n 2, 1) := by decide +kernel
theorem d_A_grow1_6 : decode prog_21_method_6_code 6 = .ok (.iload_n 2, 1) := by decide +kernel
theorem d_A_grow1_7 : decode prog_21_method_6_code 7 = .ok (.ifCond .gt 13, 3) := by decide +kernel
theorem d_A_grow1_10 : decode prog_21_method_6_code 10 = .ok (.aload_n 0, 1) := by decide +kernel
theorem d_A_grow1_11 : decode prog_21_method_6_code 11 = .ok (.getfield 9, 3) := by decide +kernel
theorem d_A_grow1_14 : decode prog_21_method_6_code 14 = .ok (.getstatic 39, 3) := by decide +kernel
theorem d_A_grow1_17 : decode prog_21_method_6_code 17 = .ok (.if_acmp .eq 28, 3) := by decide +kernel
theorem d_A_grow1_20 : decode prog_21_method_6_code 20 = .ok (.iload_n 2, 1) := by decide +kernel
theorem d_A_grow1_21 : decode prog_21_method_6_code 21 = .ok (.iload_n 1, 1) := by decide +kernel
theorem d_A_grow1_22 : decode prog_21_method_6_code 22 = .ok (.iload_n 2, 1) := by decide +kernel
theorem d_A_grow1_23 : decode prog_21_method_6_code 23 = .ok (.isub, 1) := by decide +kernel
theorem d_A_grow1_24 : decode prog_21_method_6_code 24 = .ok (.iload_n 2, 1) := by decide +kernel
theorem d_A_grow1_25 : decode prog_21_method_6_code 25 = .ok (.iconst 1, 1) := by decide +kernel
theorem d_A_grow1_26 : decode prog_21_method_6_code 26 = .ok (.ishr, 1) := by decide +kernel
theorem d_A_grow1_27 : decode prog_21_method_6_code 27 = .ok (.invokestatic 73, 3) := by decide +kernel
theorem d_A_grow1_30 : decode prog_21_method_6_code 30 = .ok (.istore_n 3, 1) := by decide +kernel
theorem d_A_grow1_31 : decode prog_21_method_6_code 31 = .ok (.aload_n 0, 1) := by decide +kernel
theorem d_A_grow1_32 : decode prog_21_method_6_code 32 = .ok (.aload_n 0, 1) := by decide +kernel
theorem d_A_grow1_33 : decode prog_21_method_6_code 33 = .ok (.getfield 9, 3) := by decide +kernel
theorem d_A_grow1_36 : decode prog_21_method_6_code 36 = .ok (.iload_n 3, 1) := by decide +kernel
theorem d_A_grow1_37 : decode prog_21_method_6_code 37 = .ok (.invokestatic 66, 3) := by decide +kernel
theorem d_A_grow1_40 : decode prog_21_method_6_code 40 = .ok (.dup_x1, 1) := by decide +kernel
theorem d_A_grow1_41 : decode prog_21_method_6_code 41 = .ok (.putfield 9, 3) := by decide +kernel
theorem d_A_grow1_44 : decode prog_21_method_6_code 44 = .ok (.areturn, 1) := by decide +kernel
theorem d_A_grow1_45 : decode prog_21_method_6_code 45 = .ok (.aload_n 0, 1) := by decide +kernel
theorem d_A_grow1_46 : decode prog_21_method_6_code 46 = .ok (.bipush 10, 2) := by decide +kernel
theorem d_A_grow1_48 : decode prog_21_method_6_code 48 = .ok (.iload_n 1, 1) := by decide +kernel
theorem d_A_grow1_49 : decode prog_21_method_6_code 49 = .ok (.invokestatic 79, 3) := by decide +kernel
theorem d_A_grow1_52 : decode prog_21_method_6_code 52 = .ok (.anewarray 7, 3) := by decide +kernel
theorem d_A_grow1_55 : decode prog_21_method_6_code 55 = .ok (.dup_x1, 1) := by decide +kernel
theorem d_A_grow1_56 : decode prog_21_method_6_code 56 = .ok (.putfield 9, 3) := by decide +kernel
theorem d_A_grow1_59 : decode prog_21_method_6_code 59 = .ok (.areturn, 1) := by decide +kernel
theorem d_AS_newLength_0 : decode prog_29_method_27_code 0 = .ok (.iload_n 0, 1) := by decide +kernel
theorem d_AS_newLength_1 : decode prog_29_method_27_code 1 = .ok (.iload_n 1, 1) := by decide +kernel
theorem d_AS_newLength_2 : decode prog_29_method_27_code 2 = .ok (.iload_n 2, 1) := by decide +kernel
theorem d_AS_newLength_3 : decode prog_29_method_27_code 3 = .ok (.invokestatic 194, 3) := by decide +kernel
theorem d_AS_newLength_6 : decode prog_29_method_27_code 6 = .ok (.iadd, 1) := by decide +kernel
theorem d_AS_newLength_7 : decode prog_29_method_27_code 7 = .ok (.istore_n 3, 1) := by decide +kernel
theorem d_AS_newLength_8 : decode prog_29_method_27_code 8 = .ok (.iconst 0, 1) := by decide +kernel
theorem d_AS_newLength_9 : decode prog_29_method_27_code 9 = .ok (.iload_n 3, 1) := by decide +kernel
theorem d_AS_newLength_10 : decode prog_29_method_27_code 10 = .ok (.if_icmp .ge 11, 3) := by decide +kernel
theorem d_AS_newLength_13 : decode prog_29_method_27_code 13 = .ok (.iload_n 3, 1) := by decide +kernel
theorem d_AS_newLength_14 : decode prog_29_method_27_code 14 = .ok (.ldc 200, 2) := by decide +kernel
theorem d_AS_newLength_16 : decode prog_29_method_27_code 16 = .ok (.if_icmp .gt 5, 3) := by decide +kernel
theorem d_AS_newLength_19 : decode prog_29_method_27_code 19 = .ok (.iload_n 3, 1) := by decide +kernel
theorem d_AS_newLength_20 : decode prog_29_method_27_code 20 = .ok (.ireturn, 1) := by decide +kernel
theorem d_AS_newLength_21 : decode prog_29_method_27_code 21 = .ok (.iload_n 0, 1) := by decide +kernel
theorem d_AS_newLength_22 : decode prog_29_method_27_code 22 = .ok (.iload_n 1, 1) := by decide +kernel
theorem d_AS_newLength_23 : decode prog_29_method_27_code 23 = .ok (.invokestatic 201, 3) := by decide +kernel
theorem d_AS_newLength_26 : decode prog_29_method_27_code 26 = .ok (.ireturn, 1) := by decide +kernel
theorem d_MA_max_0 : decode prog_14_method_65_code 0 = .ok (.iload_n 0, 1) := by decide +kernel
theorem d_MA_max_1 : decode prog_14_method_65_code 1 = .ok (.iload_n 1, 1) := by decide +kernel
theorem d_MA_max_2 : decode prog_14_method_65_code 2 = .ok (.if_icmp .lt 7, 3) := by decide +kernel
theorem d_MA_max_5 : decode prog_14_method_65_code 5 = .ok (.iload_n 0, 1) := by decide +kernel
theorem d_MA_max_6 : decode prog_14_method_65_code 6 = .ok (.goto 4, 3) := by decide +kernel
theorem d_MA_max_9 : decode prog_14_method_65_code 9 = .ok (.iload_n 1, 1) := by decide +kernel
theorem d_MA_max_10 : decode prog_14_method_65_code 10 = .ok (.ireturn, 1) := by decide +kernel
theorem d_AS_hugeLength_0 : decode prog_29_method_28_code 0 = .ok (.iload_n 0, 1) := by decide +kernel
theorem d_AS_hugeLength_1 : decode prog_29_method_28_code 1 = .ok (.iload_n 1, 1) := by decide +kernel
theorem d_AS_hugeLength_2 : decode prog_29_method_28_code 2 = .ok (.iadd, 1) := by decide +kernel
theorem d_AS_hugeLength_3 : decode prog_29_method_28_code 3 = .ok (.istore_n 2, 1) := by decide +kernel
theorem d_AS_hugeLength_4 : decode prog_29_method_28_code 4 = .ok (.iload_n 2, 1) := by decide +kernel
theorem d_AS_hugeLength_5 : decode prog_29_method_28_code 5 = .ok (.ifCond .ge 44, 3) := by decide +kernel
theorem d_AS_hugeLength_8 : decode prog_29_method_28_code 8 = .ok (.new 204, 3) := by decide +kernel
theorem d_AS_hugeLength_11 : decode prog_29_method_28_code 11 = .ok (.dup, 1) := by decide +kernel
theorem d_AS_hugeLength_12 : decode prog_29_method_28_code 12 = .ok (.new 89, 3) := by decide +kernel
theorem d_AS_hugeLength_15 : decode prog_29_method_28_code 15 = .ok (.dup, 1) := by decide +kernel
theorem d_AS_hugeLength_16 : decode prog_29_method_28_code 16 = .ok (.invokespecial 91, 3) := by decide +kernel
theorem d_AS_hugeLength_19 : decode prog_29_method_28_code 19 = .ok (.ldc 206, 2) := by decide +kernel
theorem d_AS_hugeLength_21 : decode prog_29_method_28_code 21 = .ok (.invokevirtual 94, 3) := by decide +kernel
theorem d_AS_hugeLength_24 : decode prog_29_method_28_code 24 = .ok (.iload_n 0, 1) := by decide +kernel
theorem d_AS_hugeLength_25 : decode prog_29_method_28_code 25 = .ok (.invokevirtual 98, 3) := by decide +kernel
theorem d_AS_hugeLength_28 : decode prog_29_method_28_code 28 = .ok (.ldc 208, 2) := by decide +kernel
theorem d_AS_hugeLength_30 : decode prog_29_method_28_code 30 = .ok (.invokevirtual 94, 3) := by decide +kernel
theorem d_AS_hugeLength_33 : decode prog_29_method_28_code 33 = .ok (.iload_n 1, 1) := by decide +kernel
theorem d_AS_hugeLength_34 : decode prog_29_method_28_code 34 = .ok (.invokevirtual 98, 3) := by decide +kernel
theorem d_AS_hugeLength_37 : decode prog_29_method_28_code 37 = .ok (.ldc 210, 2) := by decide +kernel
theorem d_AS_hugeLength_39 : decode prog_29_method_28_code 39 = .ok (.invokevirtual 94, 3) := by decide +kernel
theorem d_AS_hugeLength_42 : decode prog_29_method_28_code 42 = .ok (.invokevirtual 101, 3) := by decide +kernel
theorem d_AS_hugeLength_45 : decode prog_29_method_28_code 45 = .ok (.invokespecial 212, 3) := by decide +kernel
theorem d_AS_hugeLength_48 : decode prog_29_method_28_code 48 = .ok (.athrow, 1) := by decide +kernel
theorem d_AS_hugeLength_49 : decode prog_29_method_28_code 49 = .ok (.iload_n 2, 1) := by decide +kernel
theorem d_AS_hugeLength_50 : decode prog_29_method_28_code 50 = .ok (.ldc 200, 2) := by decide +kernel
theorem d_AS_hugeLength_52 : decode prog_29_method_28_code 52 = .ok (.if_icmp .gt 6, 3) := by decide +kernel
theorem d_AS_hugeLength_55 : decode prog_29_method_28_code 55 = .ok (.ldc 200, 2) := by decide +kernel
theorem d_AS_hugeLength_57 : decode prog_29_method_28_code 57 = .ok (.ireturn, 1) := by decide +kernel
theorem d_AS_hugeLength_58 : decode prog_29_method_28_code 58 = .ok (.iload_n 2, 1) := by decide +kernel
theorem d_AS_hugeLength_59 : decode prog_29_method_28_code 59 = .ok (.ireturn, 1) := by decide +kernel
end
section
theorem d_AR_copyOf0_0 : decode prog_22_method_119_code 0 = .ok (.aload_n 0, 1) := by decide +kernel
theorem d_AR_copyOf0_1 : decode prog_22_method_119_code 1 = .ok (.iload_n 1, 1) := by decide +kernel
theorem d_AR_copyOf0_2 : decode prog_22_method_119_code 2 = .ok (.aload_n 0, 1) := by decide +kernel
theorem d_AR_copyOf0_3 : decode prog_22_method_119_code 3 = .ok (.invokevirtual 86, 3) := by decide +kernel
theorem d_AR_copyOf0_6 : decode prog_22_method_119_code 6 = .ok (.invokestatic 300, 3) := by decide +kernel
theorem d_AR_copyOf0_9 : decode prog_22_method_119_code 9 = .ok (.areturn, 1) := by decide +kernel
theorem d_AR_copyOf1_0 : decode prog_22_method_120_code 0 = .ok (.aload_n 2, 1) := by decide +kernel
theorem d_AR_copyOf1_1 : decode prog_22_method_120_code 1 = .ok (.ldc 110, 2) := by decide +kernel
theorem d_AR_copyOf1_3 : decode prog_22_method_120_code 3 = .ok (.if_acmp .ne 10, 3) := by decide +kernel
theorem d_AR_copyOf1_6 : decode prog_22_method_120_code 6 = .ok (.iload_n 1, 1) := by decide +kernel
theorem d_AR_copyOf1_7 : decode prog_22_method_120_code 7 = .ok (.anewarray 2, 3) := by decide +kernel
theorem d_AR_copyOf1_10 : decode prog_22_method_120_code 10 = .ok (.goto 14, 3) := by decide +kernel
theorem d_AR_copyOf1_13 : decode prog_22_method_120_code 13 = .ok (.aload_n 2, 1) := by decide +kernel
theorem d_AR_copyOf1_14 : decode prog_22_method_120_code 14 = .ok (.invokevirtual 90, 3) := by decide +kernel
theorem d_AR_copyOf1_17 : decode prog_22_method_120_code 17 = .ok (.iload_n 1, 1) := by decide +kernel
theorem d_AR_copyOf1_18 : decode prog_22_method_120_code 18 = .ok (.invokestatic 95, 3) := by decide +kernel
theorem d_AR_copyOf1_21 : decode prog_22_method_120_code 21 = .ok (.checkcast 110, 3) := by decide +kernel
theorem d_AR_copyOf1_24 : decode prog_22_method_120_code 24 = .ok (.astore_n 3, 1) := by decide +kernel
theorem d_AR_copyOf1_25 : decode prog_22_method_120_code 25 = .ok (.aload_n 0, 1) := by decide +kernel
theorem d_AR_copyOf1_26 : decode prog_22_method_120_code 26 = .ok (.iconst 0, 1) := by decide +kernel
theorem d_AR_copyOf1_27 : decode prog_22_method_120_code 27 = .ok (.aload_n 3, 1) := by decide +kernel
theorem d_AR_copyOf1_28 : decode prog_22_method_120_code 28 = .ok (.iconst 0, 1) := by decide +kernel
theorem d_AR_copyOf1_29 : decode prog_22_method_120_code 29 = .ok (.aload_n 0, 1) := by decide +kernel
theorem d_AR_copyOf1_30 : decode prog_22_method_120_code 30 = .ok (.arraylength, 1) := by decide +kernel
theorem d_AR_copyOf1_31 : decode prog_22_method_120_code 31 = .ok (.iload_n 1, 1) := by decide +kernel
theorem d_AR_copyOf1_32 : decode prog_22_method_120_code 32 = .ok (.invokestatic 304, 3) := by decide +kernel
theorem d_AR_copyOf1_35 : decode prog_22_method_120_code 35 = .ok (.invokestatic 150, 3) := by decide +kernel
theorem d_AR_copyOf1_38 : decode prog_22_method_120_code 38 = .ok (.aload_n 3, 1) := by decide +kernel
theorem d_AR_copyOf1_39 : decode prog_22_method_120_code 39 = .ok (.areturn, 1) := by decide +kernel
theorem d_MA_min_0 : decode prog_14_method_69_code 0 = .ok (.iload_n 0, 1) := by decide +kernel
theorem d_MA_min_1 : decode prog_14_method_69_code 1 = .ok (.iload_n 1, 1) := by decide +kernel
theorem d_MA_min_2 : decode prog_14_method_69_code 2 = .ok (.if_icmp .gt 7, 3) := by decide +kernel
theorem d_MA_min_5 : decode prog_14_method_69_code 5 = .ok (.iload_n 0, 1) := by decide +kernel
theorem d_MA_min_6 : decode prog_14_method_69_code 6 = .ok (.goto 4, 3) := by decide +kernel
theorem d_MA_min_9 : decode prog_14_method_69_code 9 = .ok (.iload_n 1, 1) := by decide +kernel
theorem d_MA_min_10 : decode prog_14_method_69_code 10 = .ok (.ireturn, 1) := by decide +kernel
theorem d_N_isMarker_0 : decode prog_4_method_3_code 0 = .ok (.aload_n 0, 1) := by decide +kernel
theorem d_N_isMarker_1 : decode prog_4_method_3_code 1 = .ok (.getfield 21, 3) := by decide +kernel
theorem d_N_isMarker_4 : decode prog_4_method_3_code 4 = .ok (.iconst (-1), 1) := by decide +kernel
theorem d_N_isMarker_5 : decode prog_4_method_3_code 5 = .ok (.if_icmp .ne 7, 3) := by decide +kernel
theorem d_N_isMarker_8 : decode prog_4_method_3_code 8 = .ok (.iconst 1, 1) := by decide +kernel
theorem d_N_isMarker_9 : decode prog_4_method_3_code 9 = .ok (.goto 4, 3) := by decide +kernel
theorem d_N_isMarker_12 : decode prog_4_method_3_code 12 = .ok (.iconst 0, 1) := by decide +kernel
theorem d_N_isMarker_13 : decode prog_4_method_3_code 13 = .ok (.ireturn, 1) := by decide +kernel
theorem d_G_write_0 : decode prog_2_method_2_code 0 = .ok (.aload_n 0, 1) := by decide +kernel
theorem d_G_write_1 : decode prog_2_method_2_code 1 = .ok (.getfield 19, 3) := by decide +kernel
theorem d_G_write_4 : decode prog_2_method_2_code 4 = .ok (.invokestatic 23, 3) := by decide +kernel
theorem d_G_write_7 : decode prog_2_method_2_code 7 = .ok (.istore 5, 2) := by decide +kernel
theorem d_G_write_9 : decode prog_2_method_2_code 9 = .ok (.aload_n 0, 1) := by decide +kernel
theorem d_G_write_10 : decode prog_2_method_2_code 10 = .ok (.iload 5, 2) := by decide +kernel
theorem d_G_write_12 : decode prog_2_method_2_code 12 = .ok (.iload_n 1, 1) := by decide +kernel
theorem d_G_write_13 : decode prog_2_method_2_code 13 = .ok (.invokevirtual 27, 3) := by decide +kernel
theorem d_G_write_16 : decode prog_2_method_2_code 16 = .ok (.aload_n 0, 1) := by decide +kernel
theorem d_G_write_17 : decode prog_2_method_2_code 17 = .ok (.iload 5, 2) := by decide +kernel
theorem d_G_write_19 : decode prog_2_method_2_code 19 = .ok (.iconst 1, 1) := by decide +kernel
theorem d_G_write_20 : decode prog_2_method_2_code 20 = .ok (.iadd, 1) := by decide +kernel
theorem d_G_write_21 : decode prog_2_method_2_code 21 = .ok (.iload_n 2, 1) := by decide +kernel
theorem d_G_write_22 : decode prog_2_method_2_code 22 = .ok (.invokevirtual 27, 3) := by decide +kernel
theorem d_G_write_25 : decode prog_2_method_2_code 25 = .ok (.aload_n 0, 1) := by decide +kernel
theorem d_G_write_26 : decode prog_2_method_2_code 26 = .ok (.iload 5, 2) := by decide +kernel
theorem d_G_write_28 : decode prog_2_method_2_code 28 = .ok (.iconst 2, 1) := by decide +kernel
theorem d_G_write_29 : decode prog_2_method_2_code 29 = .ok (.iadd, 1) := by decide +kernel
theorem d_G_write_30 : decode prog_2_method_2_code 30 = .ok (.iload_n 3, 1) := by decide +kernel
theorem d_G_write_31 : decode prog_2_method_2_code 31 = .ok (.invokevirtual 27, 3) := by decide +kernel
theorem d_G_write_34 : decode prog_2_method_2_code 34 = .ok (.aload_n 0, 1) := by decide +kernel
theorem d_G_write_35 : decode prog_2_method_2_code 35 = .ok (.iload 5, 2) := by decide +kernel
theorem d_G_write_37 : decode prog_2_method_2_code 37 = .ok (.iconst 3, 1) := by decide +kernel
theorem d_G_write_38 : decode prog_2_method_2_code 38 = .ok (.iadd, 1) := by decide +kernel
theorem d_G_write_39 : decode prog_2_method_2_code 39 = .ok (.iload 4, 2) := by decide +kernel
theorem d_G_write_41 : decode prog_2_method_2_code 41 = .ok (.invokevirtual 27, 3) := by decide +kernel
theorem d_G_write_44 : decode prog_2_method_2_code 44 = .ok (.aload_n 0, 1) := by decide +kernel
theorem d_G_write_45 : decode prog_2_method_2_code 45 = .ok (.dup, 1) := by decide +kernel
theorem d_G_write_46 : decode prog_2_method_2_code 46 = .ok (.getfield 19, 3) := by decide +kernel
theorem d_G_write_49 : decode prog_2_method_2_code 49 = .ok (.iconst 1, 1) := by decide +kernel
theorem d_G_write_50 : decode prog_2_method_2_code 50 = .ok (.iadd, 1) := by decide +kernel
theorem d_G_write_51 : decode prog_2_method_2_code 51 = .ok (.putfield 19, 3) := by decide +kernel
theorem d_G_write_54 : decode prog_2_method_2_code 54 = .ok (.return_, 1) := by decide +kernel
theorem d_G_placeOf_0 : decode prog_2_method_6_code 0 = .ok (.iload_n 0, 1) := by decide +kernel
theorem d_G_placeOf_1 : decode prog_2_method_6_code 1 = .ok (.bipush 63, 2) := by decide +kernel
theorem d_G_placeOf_3 : decode prog_2_method_6_code 3 = .ok (.iand, 1) := by decide +kernel
theorem d_G_placeOf_4 : decode prog_2_method_6_code 4 = .ok (.iconst 4, 1) := by decide +kernel
theorem d_G_placeOf_5 : decode prog_2_method_6_code 5 = .ok (.imul, 1) := by decide +kernel
theorem d_G_placeOf_6 : decode prog_2_method_6_code 6 = .ok (.ireturn, 1) := by decide +kernel
theorem d_G_append_0 : decode prog_2_method_5_code 0 = .ok (.aload_n 0, 1) := by decide +kernel
theorem d_G_append_1 : decode prog_2_method_5_code 1 = .ok (.getfield 9, 3) := by decide +kernel
theorem d_G_append_4 : decode prog_2_method_5_code 4 = .ok (.iload_n 1, 1) := by decide +kernel
theorem d_G_append_5 : decode prog_2_method_5_code 5 = .ok (.iload_n 2, 1) := by decide +kernel
theorem d_G_append_6 : decode prog_2_method_5_code 6 = .ok (.iastore, 1) := by decide +kernel
theorem d_G_append_7 : decode prog_2_method_5_code 7 = .ok (.aload_n 0, 1) := by decide +kernel
theorem d_G_append_8 : decode prog_2_method_5_code 8 = .ok (.aload_n 0, 1) := by decide +kernel
theorem d_G_append_9 : decode prog_2_method_5_code 9 = .ok (.getfield 15, 3) := by decide +kernel
theorem d_G_append_12 : decode prog_2_method_5_code 12 = .ok (.iload_n 2, 1) := by decide +kernel
theorem d_G_append_13 : decode prog_2_method_5_code 13 = .ok (.i2l, 1) := by decide +kernel
theorem d_G_append_14 : decode prog_2_method_5_code 14 = .ok (.lxor, 1) := by decide +kernel
theorem d_G_append_15 : decode prog_2_method_5_code 15 = .ok (.ldc2_w 31, 3) := by decide +kernel
theorem d_G_append_18 : decode prog_2_method_5_code 18 = .ok (.lmul, 1) := by decide +kernel
theorem d_G_append_19 : decode prog_2_method_5_code 19 = .ok (.putfield 15, 3) := by decide +kernel
theorem d_G_append_22 : decode prog_2_method_5_code 22 = .ok (.return_, 1) := by decide +kernel
theorem d_W_mark_0 : decode method_4_code 0 = .ok (.aload_n 2, 1) := by decide +kernel
theorem d_W_mark_1 : decode method_4_code 1 = .ok (.iconst 0, 1) := by decide +kernel
theorem d_W_mark_2 : decode method_4_code 2 = .ok (.aload_n 0, 1) := by decide +kernel
theorem d_W_mark_3 : decode method_4_code 3 = .ok (.iload_n 1, 1) := by decide +kernel
theorem d_W_mark_4 : decode method_4_code 4 = .ok (.invokevirtual 17, 3) := by decide +kernel
theorem d_W_mark_7 : decode method_4_code 7 = .ok (.i2l, 1) := by decide +kernel
theorem d_W_mark_8 : decode method_4_code 8 = .ok (.lastore, 1) := by decide +kernel
theorem d_W_mark_9 : decode method_4_code 9 = .ok (.goto 9, 3) := by decide +kernel
theorem d_W_mark_12 : decode method_4_code 12 = .ok (.astore_n 3, 1) := by decide +kernel
theorem d_W_mark_13 : decode method_4_code 13 = .ok (.iconst 1, 1) := by decide +kernel
theorem d_W_mark_14 : decode method_4_code 14 = .ok (.ireturn, 1) := by decide +kernel
theorem d_W_mark_15 : decode method_4_code 15 = .ok (.astore_n 3, 1) := by decide +kernel
theorem d_W_mark_16 : decode method_4_code 16 = .ok (.iconst 2, 1) := by decide +kernel
theorem d_W_mark_17 : decode method_4_code 17 = .ok (.ireturn, 1) := by decide +kernel
theorem d_W_mark_18 : decode method_4_code 18 = .ok (.iconst 0, 1) := by decide +kernel
theorem d_W_mark_19 : decode method_4_code 19 = .ok (.ireturn, 1) := by decide +kernel
theorem d_V_mark_0 : decode prog_1_method_3_code 0 = .ok (.aload_n 0, 1) := by decide +kernel
theorem d_V_mark_1 : decode prog_1_method_3_code 1 = .ok (.iload_n 1, 1) := by decide +kernel
theorem d_V_mark_2 : decode prog_1_method_3_code 2 = .ok (.invokevirtual 62, 3) := by decide +kernel
theorem d_V_mark_5 : decode prog_1_method_3_code 5 = .ok (.pop, 1) := by decide +kernel
theorem d_V_mark_6 : decode prog_1_method_3_code 6 = .ok (.aload_n 0, 1) := by decide +kernel
theorem d_V_mark_7 : decode prog_1_method_3_code 7 = .ok (.invokevirtual 39, 3) := by decide +kernel
theorem d_V_mark_10 : decode prog_1_method_3_code 10 = .ok (.aload_n 0, 1) := by decide +kernel
theorem d_V_mark_11 : decode prog_1_method_3_code 11 = .ok (.new 42, 3) := by decide +kernel
theorem d_V_mark_14 : decode prog_1_method_3_code 14 = .ok (.dup, 1) := by decide +kernel
theorem d_V_mark_15 : decode prog_1_method_3_code 15 = .ok (.aload_n 0, 1) := by decide +kernel
theorem d_V_mark_16 : decode prog_1_method_3_code 16 = .ok (.getfield 44, 3) := by decide +kernel
theorem d_V_mark_19 : decode prog_1_method_3_code 19 = .ok (.iload_n 1, 1) := by decide +kernel
theorem d_V_mark_20 : decode prog_1_method_3_code 20 = .ok (.aload_n 0, 1) := by decide +kernel
theorem d_V_mark_21 : decode prog_1_method_3_code 21 = .ok (.getfield 48, 3) := by decide +kernel
theorem d_V_mark_24 : decode prog_1_method_3_code 24 = .ok (.invokespecial 51, 3) := by decide +kernel
theorem d_V_mark_27 : decode prog_1_method_3_code 27 = .ok (.invokevirtual 58, 3) := by decide +kernel
theorem d_V_mark_30 : decode prog_1_method_3_code 30 = .ok (.ireturn, 1) := by decide +kernel
theorem d_V_currentObject_0 : decode prog_1_method_23_code 0 = .ok (.aload_n 0, 1) := by decide +kernel
theorem d_V_currentObject_1 : decode prog_1_method_23_code 1 = .ok (.iload_n 1, 1) := by decide +kernel
theorem d_V_currentObject_2 : decode prog_1_method_23_code 2 = .ok (.invokevirtual 219, 3) := by decide +kernel
theorem d_V_currentObject_5 : decode prog_1_method_23_code 5 = .ok (.astore_n 2, 1) := by decide +kernel
theorem d_V_currentObject_6 : decode prog_1_method_23_code 6 = .ok (.aload_n 2, 1) := by decide +kernel
theorem d_V_currentObject_7 : decode prog_1_method_23_code 7 = .ok (.ifnull 10, 3) := by decide +kernel
theorem d_V_currentObject_10 : decode prog_1_method_23_code 10 = .ok (.aload_n 2, 1) := by decide +kernel
theorem d_V_currentObject_11 : decode prog_1_method_23_code 11 = .ok (.invokevirtual 214, 3) := by decide +kernel
theorem d_V_currentObject_14 : decode prog_1_method_23_code 14 = .ok (.ifCond .eq 13, 3) := by decide +kernel
theorem d_V_currentObject_17 : decode prog_1_method_23_code 17 = .ok (.new 209, 3) := by decide +kernel
theorem d_V_currentObject_20 : decode prog_1_method_23_code 20 = .ok (.dup, 1) := by decide +kernel
theorem d_V_currentObject_21 : decode prog_1_method_23_code 21 = .ok (.ldc 222, 2) := by decide +kernel
theorem d_V_currentObject_23 : decode prog_1_method_23_code 23 = .ok (.invokespecial 213, 3) := by decide +kernel
theorem d_V_currentObject_26 : decode prog_1_method_23_code 26 = .ok (.athrow, 1) := by decide +kernel
theorem d_V_currentObject_27 : decode prog_1_method_23_code 27 = .ok (.aload_n 2, 1) := by decide +kernel
theorem d_V_currentObject_28 : decode prog_1_method_23_code 28 = .ok (.areturn, 1) := by decide +kernel
theorem d_W_erase_0 : decode method_5_code 0 = .ok (.aload_n 3, 1) := by decide +kernel
theorem d_W_erase_1 : decode method_5_code 1 = .ok (.iconst 0, 1) := by decide +kernel
theorem d_W_erase_2 : decode method_5_code 2 = .ok (.aload_n 0, 1) := by decide +kernel
theorem d_W_erase_3 : decode method_5_code 3 = .ok (.iload_n 1, 1) := by decide +kernel
theorem d_W_erase_4 : decode method_5_code 4 = .ok (.iload_n 2, 1) := by decide +kernel
theorem d_W_erase_5 : decode method_5_code 5 = .ok (.invokevirtual 23, 3) := by decide +kernel
theorem d_W_erase_8 : decode method_5_code 8 = .ok (.i2l, 1) := by decide +kernel
theorem d_W_erase_9 : decode method_5_code 9 = .ok (.lastore, 1) := by decide +kernel
theorem d_W_erase_10 : decode method_5_code 10 = .ok (.goto 11, 3) := by decide +kernel
theorem d_W_erase_13 : decode method_5_code 13 = .ok (.astore 4, 2) := by decide +kernel
theorem d_W_erase_15 : decode method_5_code 15 = .ok (.iconst 1, 1) := by decide +kernel
theorem d_W_erase_16 : decode method_5_code 16 = .ok (.ireturn, 1) := by decide +kernel
theorem d_W_erase_17 : decode method_5_code 17 = .ok (.astore 4, 2) := by decide +kernel
theorem d_W_erase_19 : decode method_5_code 19 = .ok (.iconst 2, 1) := by decide +kernel
theorem d_W_erase_20 : decode method_5_code 20 = .ok (.ireturn, 1) := by decide +kernel
theorem d_W_erase_21 : decode method_5_code 21 = .ok (.iconst 0, 1) := by decide +kernel
theorem d_W_erase_22 : decode method_5_code 22 = .ok (.ireturn, 1) := by decide +kernel
theorem d_V_erase_0 : decode prog_1_method_4_code 0 = .ok (.aload_n 0, 1) := by decide +kernel
theorem d_V_erase_1 : decode prog_1_method_4_code 1 = .ok (.iload_n 1, 1) := by decide +kernel
theorem d_V_erase_2 : decode prog_1_method_4_code 2 = .ok (.invokevirtual 66, 3) := by decide +kernel
theorem d_V_erase_5 : decode prog_1_method_4_code 5 = .ok (.astore_n 3, 1) := by decide +kernel
theorem d_V_erase_6 : decode prog_1_method_4_code 6 = .ok (.iload_n 2, 1) := by decide +kernel
theorem d_V_erase_7 : decode prog_1_method_4_code 7 = .ok (.ifCond .eq 18, 3) := by decide +kernel
theorem d_V_erase_10 : decode prog_1_method_4_code 10 = .ok (.aload_n 3, 1) := by decide +kernel
theorem d_V_erase_11 : decode prog_1_method_4_code 11 = .ok (.aload_n 0, 1) := by decide +kernel
theorem d_V_erase_12 : decode prog_1_method_4_code 12 = .ok (.getfield 48, 3) := by decide +kernel
theorem d_V_erase_15 : decode prog_1_method_4_code 15 = .ok (.invokevirtual 69, 3) := by decide +kernel
theorem d_V_erase_18 : decode prog_1_method_4_code 18 = .ok (.ifCond .ne 7, 3) := by decide +kernel
theorem d_V_erase_21 : decode prog_1_method_4_code 21 = .ok (.iconst 1, 1) := by decide +kernel
theorem d_V_erase_22 : decode prog_1_method_4_code 22 = .ok (.goto 4, 3) := by decide +kernel
theorem d_V_erase_25 : decode prog_1_method_4_code 25 = .ok (.iconst 0, 1) := by decide +kernel
theorem d_V_erase_26 : decode prog_1_method_4_code 26 = .ok (.istore 4, 2) := by decide +kernel
theorem d_V_erase_28 : decode prog_1_method_4_code 28 = .ok (.aload_n 3, 1) := by decide +kernel
theorem d_V_erase_29 : decode prog_1_method_4_code 29 = .ok (.invokevirtual 73, 3) := by decide +kernel
theorem d_V_erase_32 : decode prog_1_method_4_code 32 = .ok (.ifCond .ne 19, 3) := by decide +kernel
theorem d_V_erase_35 : decode prog_1_method_4_code 35 = .ok (.aload_n 3, 1) := by decide +kernel
theorem d_V_erase_36 : decode prog_1_method_4_code 36 = .ok (.aload_n 0, 1) := by decide +kernel
theorem d_V_erase_37 : decode prog_1_method_4_code 37 = .ok (.getfield 48, 3) := by decide +kernel
theorem d_V_erase_40 : decode prog_1_method_4_code 40 = .ok (.invokevirtual 77, 3) := by decide +kernel
theorem d_V_erase_43 : decode prog_1_method_4_code 43 = .ok (.ifCond .eq 18, 3) := by decide +kernel
theorem d_V_erase_46 : decode prog_1_method_4_code 46 = .ok (.iload 4, 2) := by decide +kernel
theorem d_V_erase_48 : decode prog_1_method_4_code 48 = .ok (.ifCond .ne 13, 3) := by decide +kernel
theorem d_V_erase_51 : decode prog_1_method_4_code 51 = .ok (.new 80, 3) := by decide +kernel
theorem d_V_erase_54 : decode prog_1_method_4_code 54 = .ok (.dup, 1) := by decide +kernel
theorem d_V_erase_55 : decode prog_1_method_4_code 55 = .ok (.ldc 82, 2) := by decide +kernel
theorem d_V_erase_57 : decode prog_1_method_4_code 57 = .ok (.invokespecial 84, 3) := by decide +kernel
theorem d_V_erase_60 : decode prog_1_method_4_code 60 = .ok (.athrow, 1) := by decide +kernel
theorem d_V_erase_61 : decode prog_1_method_4_code 61 = .ok (.aload_n 0, 1) := by decide +kernel
theorem d_V_erase_62 : decode prog_1_method_4_code 62 = .ok (.aload_n 3, 1) := by decide +kernel
theorem d_V_erase_63 : decode prog_1_method_4_code 63 = .ok (.invokevirtual 87, 3) := by decide +kernel
theorem d_V_erase_66 : decode prog_1_method_4_code 66 = .ok (.aload_n 3, 1) := by decide +kernel
theorem d_V_erase_67 : decode prog_1_method_4_code 67 = .ok (.getfield 91, 3) := by decide +kernel
theorem d_V_erase_70 : decode prog_1_method_4_code 70 = .ok (.ireturn, 1) := by decide +kernel
theorem d_V_versionNumbered_0 : decode prog_1_method_21_code 0 = .ok (.iconst 0, 1) := by decide +kernel
theorem d_V_versionNumbered_1 : decode prog_1_method_21_code 1 = .ok (.istore_n 2, 1) := by decide +kernel
theorem d_V_versionNumbered_2 : decode prog_1_method_21_code 2 = .ok (.iload_n 2, 1) := by decide +kernel
theorem d_V_versionNumbered_3 : decode prog_1_method_21_code 3 = .ok (.aload_n 0, 1) := by decide +kernel
theorem d_V_versionNumbered_4 : decode prog_1_method_21_code 4 = .ok (.getfield 10, 3) := by decide +kernel
theorem d_V_versionNumbered_7 : decode prog_1_method_21_code 7 = .ok (.invokevirtual 188, 3) := by decide +kernel
theorem d_V_versionNumbered_10 : decode prog_1_method_21_code 10 = .ok (.if_icmp .ge 31, 3) := by decide +kernel
theorem d_V_versionNumbered_13 : decode prog_1_method_21_code 13 = .ok (.aload_n 0, 1) := by decide +kernel
theorem d_V_versionNumbered_14 : decode prog_1_method_21_code 14 = .ok (.getfield 10, 3) := by decide +kernel
theorem d_V_versionNumbered_17 : decode prog_1_method_21_code 17 = .ok (.iload_n 2, 1) := by decide +kernel
theorem d_V_versionNumbered_18 : decode prog_1_method_21_code 18 = .ok (.invokevirtual 205, 3) := by decide +kernel
theorem d_V_versionNumbered_21 : decode prog_1_method_21_code 21 = .ok (.checkcast 42, 3) := by decide +kernel
theorem d_V_versionNumbered_24 : decode prog_1_method_21_code 24 = .ok (.astore_n 3, 1) := by decide +kernel
theorem d_V_versionNumbered_25 : decode prog_1_method_21_code 25 = .ok (.aload_n 3, 1) := by decide +kernel
theorem d_V_versionNumbered_26 : decode prog_1_method_21_code 26 = .ok (.getfield 106, 3) := by decide +kernel
theorem d_V_versionNumbered_29 : decode prog_1_method_21_code 29 = .ok (.iload_n 1, 1) := by decide +kernel
theorem d_V_versionNumbered_30 : decode prog_1_method_21_code 30 = .ok (.if_icmp .ne 5, 3) := by decide +kernel
theorem d_V_versionNumbered_33 : decode prog_1_method_21_code 33 = .ok (.aload_n 3, 1) := by decide +kernel
theorem d_V_versionNumbered_34 : decode prog_1_method_21_code 34 = .ok (.areturn, 1) := by decide +kernel
theorem d_V_versionNumbered_35 : decode prog_1_method_21_code 35 = .ok (.iinc 2 1, 3) := by decide +kernel
theorem d_V_versionNumbered_38 : decode prog_1_method_21_code 38 = .ok (.goto (-36), 3) := by decide +kernel
theorem d_V_versionNumbered_41 : decode prog_1_method_21_code 41 = .ok (.new 209, 3) := by decide +kernel
theorem d_V_versionNumbered_44 : decode prog_1_method_21_code 44 = .ok (.dup, 1) := by decide +kernel
theorem d_V_versionNumbered_45 : decode prog_1_method_21_code 45 = .ok (.ldc 211, 2) := by decide +kernel
theorem d_V_versionNumbered_47 : decode prog_1_method_21_code 47 = .ok (.invokespecial 213, 3) := by decide +kernel
theorem d_V_versionNumbered_50 : decode prog_1_method_21_code 50 = .ok (.athrow, 1) := by decide +kernel
theorem d_N_isRetainedStrictly_0 : decode prog_4_method_8_code 0 = .ok (.aload_n 0, 1) := by decide +kernel
theorem d_N_isRetainedStrictly_1 : decode prog_4_method_8_code 1 = .ok (.getfield 43, 3) := by decide +kernel
theorem d_N_isRetainedStrictly_4 : decode prog_4_method_8_code 4 = .ok (.ifCond .eq 15, 3) := by decide +kernel
theorem d_N_isRetainedStrictly_7 : decode prog_4_method_8_code 7 = .ok (.aload_n 0, 1) := by decide +kernel
theorem d_N_isRetainedStrictly_8 : decode prog_4_method_8_code 8 = .ok (.iload_n 1, 1) := by decide +kernel
theorem d_N_isRetainedStrictly_9 : decode prog_4_method_8_code 9 = .ok (.invokevirtual 46, 3) := by decide +kernel
theorem d_N_isRetainedStrictly_12 : decode prog_4_method_8_code 12 = .ok (.ifCond .eq 7, 3) := by decide +kernel
theorem d_N_isRetainedStrictly_15 : decode prog_4_method_8_code 15 = .ok (.iconst 1, 1) := by decide +kernel
theorem d_N_isRetainedStrictly_16 : decode prog_4_method_8_code 16 = .ok (.goto 4, 3) := by decide +kernel
theorem d_N_isRetainedStrictly_19 : decode prog_4_method_8_code 19 = .ok (.iconst 0, 1) := by decide +kernel
theorem d_N_isRetainedStrictly_20 : decode prog_4_method_8_code 20 = .ok (.ireturn, 1) := by decide +kernel
theorem d_N_isRetained_0 : decode prog_4_method_7_code 0 = .ok (.iload_n 1, 1) := by decide +kernel
theorem d_N_isRetained_1 : decode prog_4_method_7_code 1 = .ok (.aload_n 0, 1) := by decide +kernel
theorem d_N_isRetained_2 : decode prog_4_method_7_code 2 = .ok (.getfield 40, 3) := by decide +kernel
theorem d_N_isRetained_5 : decode prog_4_method_7_code 5 = .ok (.if_icmp .ge 7, 3) := by decide +kernel
theorem d_N_isRetained_8 : decode prog_4_method_7_code 8 = .ok (.iconst 1, 1) := by decide +kernel
theorem d_N_isRetained_9 : decode prog_4_method_7_code 9 = .ok (.goto 4, 3) := by decide +kernel
theorem d_N_isRetained_12 : decode prog_4_method_7_code 12 = .ok (.iconst 0, 1) := by decide +kernel
theorem d_N_isRetained_13 : decode prog_4_method_7_code 13 = .ok (.ireturn, 1) := by decide +kernel
theorem d_N_isHeld_0 : decode prog_4_method_6_code 0 = .ok (.aload_n 0, 1) := by decide +kernel
theorem d_N_isHeld_1 : decode prog_4_method_6_code 1 = .ok (.getfield 37, 3) := by decide +kernel
theorem d_N_isHeld_4 : decode prog_4_method_6_code 4 = .ok (.ifCond .eq 7, 3) := by decide +kernel
theorem d_N_isHeld_7 : decode prog_4_method_6_code 7 = .ok (.iconst 1, 1) := by decide +kernel
theorem d_N_isHeld_8 : decode prog_4_method_6_code 8 = .ok (.goto 4, 3) := by decide +kernel
theorem d_N_isHeld_11 : decode prog_4_method_6_code 11 = .ok (.iconst 0, 1) := by decide +kernel
theorem d_N_isHeld_12 : decode prog_4_method_6_code 12 = .ok (.ireturn, 1) := by decide +kernel
theorem d_V_takeAway_0 : decode prog_1_method_26_code 0 = .ok (.iconst 0, 1) := by decide +kernel
theorem d_V_takeAway_1 : decode prog_1_method_26_code 1 = .ok (.istore_n 2, 1) := by decide +kernel
theorem d_V_takeAway_2 : decode prog_1_method_26_code 2 = .ok (.iload_n 2, 1) := by decide +kernel
theorem d_V_takeAway_3 : decode prog_1_method_26_code 3 = .ok (.aload_n 0, 1) := by decide +kernel
theorem d_V_takeAway_4 : decode prog_1_method_26_code 4 = .ok (.getfield 10, 3) := by decide +kernel
theorem d_V_takeAway_7 : decode prog_1_method_26_code 7 = .ok (.invokevirtual 188, 3) := by decide +kernel
theorem d_V_takeAway_10 : decode prog_1_method_26_code 10 = .ok (.if_icmp .ge 33, 3) := by decide +kernel
theorem d_V_takeAway_13 : decode prog_1_method_26_code 13 = .ok (.aload_n 0, 1) := by decide +kernel
theorem d_V_takeAway_14 : decode prog_1_method_26_code 14 = .ok (.getfield 10, 3) := by decide +kernel
theorem d_V_takeAway_17 : decode prog_1_method_26_code 17 = .ok (.iload_n 2, 1) := by decide +kernel
theorem d_V_takeAway_18 : decode prog_1_method_26_code 18 = .ok (.invokevirtual 205, 3) := by decide +kernel
theorem d_V_takeAway_21 : decode prog_1_method_26_code 21 = .ok (.aload_n 1, 1) := by decide +kernel
theorem d_V_takeAway_22 : decode prog_1_method_26_code 22 = .ok (.if_acmp .ne 15, 3) := by decide +kernel
theorem d_V_takeAway_25 : decode prog_1_method_26_code 25 = .ok (.aload_n 0, 1) := by decide +kernel
theorem d_V_takeAway_26 : decode prog_1_method_26_code 26 = .ok (.getfield 10, 3) := by decide +kernel
theorem d_V_takeAway_29 : decode prog_1_method_26_code 29 = .ok (.iload_n 2, 1) := by decide +kernel
theorem d_V_takeAway_30 : decode prog_1_method_26_code 30 = .ok (.invokevirtual 230, 3) := by decide +kernel
theorem d_V_takeAway_33 : decode prog_1_method_26_code 33 = .ok (.pop, 1) := by decide +kernel
theorem d_V_takeAway_34 : decode prog_1_method_26_code 34 = .ok (.goto 9, 3) := by decide +kernel
theorem d_V_takeAway_37 : decode prog_1_method_26_code 37 = .ok (.iinc 2 1, 3) := by decide +kernel
theorem d_V_takeAway_40 : decode prog_1_method_26_code 40 = .ok (.goto (-38), 3) := by decide +kernel
theorem d_V_takeAway_43 : decode prog_1_method_26_code 43 = .ok (.aload_n 0, 1) := by decide +kernel
theorem d_V_takeAway_44 : decode prog_1_method_26_code 44 = .ok (.aload_n 1, 1) := by decide +kernel
theorem d_V_takeAway_45 : decode prog_1_method_26_code 45 = .ok (.getfield 91, 3) := by decide +kernel
theorem d_V_takeAway_48 : decode prog_1_method_26_code 48 = .ok (.invokevirtual 219, 3) := by decide +kernel
theorem d_V_takeAway_51 : decode prog_1_method_26_code 51 = .ok (.astore_n 2, 1) := by decide +kernel
theorem d_V_takeAway_52 : decode prog_1_method_26_code 52 = .ok (.aload_n 2, 1) := by decide +kernel
theorem d_V_takeAway_53 : decode prog_1_method_26_code 53 = .ok (.ifnull 8, 3) := by decide +kernel
theorem d_V_takeAway_56 : decode prog_1_method_26_code 56 = .ok (.aload_n 2, 1) := by decide +kernel
theorem d_V_takeAway_57 : decode prog_1_method_26_code 57 = .ok (.iconst 1, 1) := by decide +kernel
theorem d_V_takeAway_58 : decode prog_1_method_26_code 58 = .ok (.putfield 161, 3) := by decide +kernel
theorem d_V_takeAway_61 : decode prog_1_method_26_code 61 = .ok (.aload_n 0, 1) := by decide +kernel
theorem d_V_takeAway_62 : decode prog_1_method_26_code 62 = .ok (.getfield 26, 3) := by decide +kernel
theorem d_V_takeAway_65 : decode prog_1_method_26_code 65 = .ok (.aload_n 0, 1) := by decide +kernel
theorem d_V_takeAway_66 : decode prog_1_method_26_code 66 = .ok (.getfield 48, 3) := by decide +kernel
theorem d_V_takeAway_69 : decode prog_1_method_26_code 69 = .ok (.iconst 3, 1) := by decide +kernel
theorem d_V_takeAway_70 : decode prog_1_method_26_code 70 = .ok (.aload_n 1, 1) := by decide +kernel
theorem d_V_takeAway_71 : decode prog_1_method_26_code 71 = .ok (.getfield 106, 3) := by decide +kernel
theorem d_V_takeAway_74 : decode prog_1_method_26_code 74 = .ok (.aload_n 1, 1) := by decide +kernel
theorem d_V_takeAway_75 : decode prog_1_method_26_code 75 = .ok (.getfield 91, 3) := by decide +kernel
theorem d_V_takeAway_78 : decode prog_1_method_26_code 78 = .ok (.invokevirtual 109, 3) := by decide +kernel
theorem d_V_takeAway_81 : decode prog_1_method_26_code 81 = .ok (.return_, 1) := by decide +kernel
theorem d_A_remove_0 : decode prog_21_method_29_code 0 = .ok (.iload_n 1, 1) := by decide +kernel
theorem d_A_remove_1 : decode prog_21_method_29_code 1 = .ok (.aload_n 0, 1) := by decide +kernel
theorem d_A_remove_2 : decode prog_21_method_29_code 2 = .ok (.getfield 48, 3) := by decide +kernel
theorem d_A_remove_5 : decode prog_21_method_29_code 5 = .ok (.invokestatic 118, 3) := by decide +kernel
theorem d_A_remove_8 : decode prog_21_method_29_code 8 = .ok (.pop, 1) := by decide +kernel
theorem d_A_remove_9 : decode prog_21_method_29_code 9 = .ok (.aload_n 0, 1) := by decide +kernel
theorem d_A_remove_10 : decode prog_21_method_29_code 10 = .ok (.getfield 9, 3) := by decide +kernel
theorem d_A_remove_13 : decode prog_21_method_29_code 13 = .ok (.astore_n 2, 1) := by decide +kernel
theorem d_A_remove_14 : decode prog_21_method_29_code 14 = .ok (.aload_n 2, 1) := by decide +kernel
theorem d_A_remove_15 : decode prog_21_method_29_code 15 = .ok (.iload_n 1, 1) := by decide +kernel
theorem d_A_remove_16 : decode prog_21_method_29_code 16 = .ok (.aaload, 1) := by decide +kernel
theorem d_A_remove_17 : decode prog_21_method_29_code 17 = .ok (.astore_n 3, 1) := by decide +kernel
theorem d_A_remove_18 : decode prog_21_method_29_code 18 = .ok (.aload_n 0, 1) := by decide +kernel
theorem d_A_remove_19 : decode prog_21_method_29_code 19 = .ok (.aload_n 2, 1) := by decide +kernel
theorem d_A_remove_20 : decode prog_21_method_29_code 20 = .ok (.iload_n 1, 1) := by decide +kernel
theorem d_A_remove_21 : decode prog_21_method_29_code 21 = .ok (.invokevirtual 144, 3) := by decide +kernel
theorem d_A_remove_24 : decode prog_21_method_29_code 24 = .ok (.aload_n 3, 1) := by decide +kernel
theorem d_A_remove_25 : decode prog_21_method_29_code 25 = .ok (.areturn, 1) := by decide +kernel
theorem d_A_fastRemove_0 : decode prog_21_method_39_code 0 = .ok (.aload_n 0, 1) := by decide +kernel
theorem d_A_fastRemove_1 : decode prog_21_method_39_code 1 = .ok (.dup, 1) := by decide +kernel
theorem d_A_fastRemove_2 : decode prog_21_method_39_code 2 = .ok (.getfield 63, 3) := by decide +kernel
theorem d_A_fastRemove_5 : decode prog_21_method_39_code 5 = .ok (.iconst 1, 1) := by decide +kernel
theorem d_A_fastRemove_6 : decode prog_21_method_39_code 6 = .ok (.iadd, 1) := by decide +kernel
theorem d_A_fastRemove_7 : decode prog_21_method_39_code 7 = .ok (.putfield 63, 3) := by decide +kernel
theorem d_A_fastRemove_10 : decode prog_21_method_39_code 10 = .ok (.aload_n 0, 1) := by decide +kernel
theorem d_A_fastRemove_11 : decode prog_21_method_39_code 11 = .ok (.getfield 48, 3) := by decide +kernel
theorem d_A_fastRemove_14 : decode prog_21_method_39_code 14 = .ok (.iconst 1, 1) := by decide +kernel
theorem d_A_fastRemove_15 : decode prog_21_method_39_code 15 = .ok (.isub, 1) := by decide +kernel
theorem d_A_fastRemove_16 : decode prog_21_method_39_code 16 = .ok (.dup, 1) := by decide +kernel
theorem d_A_fastRemove_17 : decode prog_21_method_39_code 17 = .ok (.istore_n 3, 1) := by decide +kernel
theorem d_A_fastRemove_18 : decode prog_21_method_39_code 18 = .ok (.iload_n 2, 1) := by decide +kernel
theorem d_A_fastRemove_19 : decode prog_21_method_39_code 19 = .ok (.if_icmp .le 15, 3) := by decide +kernel
theorem d_A_fastRemove_22 : decode prog_21_method_39_code 22 = .ok (.aload_n 1, 1) := by decide +kernel
theorem d_A_fastRemove_23 : decode prog_21_method_39_code 23 = .ok (.iload_n 2, 1) := by decide +kernel
theorem d_A_fastRemove_24 : decode prog_21_method_39_code 24 = .ok (.iconst 1, 1) := by decide +kernel
theorem d_A_fastRemove_25 : decode prog_21_method_39_code 25 = .ok (.iadd, 1) := by decide +kernel
theorem d_A_fastRemove_26 : decode prog_21_method_39_code 26 = .ok (.aload_n 1, 1) := by decide +kernel
theorem d_A_fastRemove_27 : decode prog_21_method_39_code 27 = .ok (.iload_n 2, 1) := by decide +kernel
theorem d_A_fastRemove_28 : decode prog_21_method_39_code 28 = .ok (.iload_n 3, 1) := by decide +kernel
theorem d_A_fastRemove_29 : decode prog_21_method_39_code 29 = .ok (.iload_n 2, 1) := by decide +kernel
theorem d_A_fastRemove_30 : decode prog_21_method_39_code 30 = .ok (.isub, 1) := by decide +kernel
theorem d_A_fastRemove_31 : decode prog_21_method_39_code 31 = .ok (.invokestatic 112, 3) := by decide +kernel
theorem d_A_fastRemove_34 : decode prog_21_method_39_code 34 = .ok (.aload_n 1, 1) := by decide +kernel
theorem d_A_fastRemove_35 : decode prog_21_method_39_code 35 = .ok (.aload_n 0, 1) := by decide +kernel
theorem d_A_fastRemove_36 : decode prog_21_method_39_code 36 = .ok (.iload_n 3, 1) := by decide +kernel
theorem d_A_fastRemove_37 : decode prog_21_method_39_code 37 = .ok (.dup_x1, 1) := by decide +kernel
theorem d_A_fastRemove_38 : decode prog_21_method_39_code 38 = .ok (.putfield 48, 3) := by decide +kernel
theorem d_A_fastRemove_41 : decode prog_21_method_39_code 41 = .ok (.aconst_null, 1) := by decide +kernel
theorem d_A_fastRemove_42 : decode prog_21_method_39_code 42 = .ok (.aastore, 1) := by decide +kernel
theorem d_A_fastRemove_43 : decode prog_21_method_39_code 43 = .ok (.return_, 1) := by decide +kernel
theorem d_W_retain_0 : decode method_6_code 0 = .ok (.aload_n 0, 1) := by decide +kernel
theorem d_W_retain_1 : decode method_6_code 1 = .ok (.iload_n 1, 1) := by decide +kernel
theorem d_W_retain_2 : decode method_6_code 2 = .ok (.iload_n 2, 1) := by decide +kernel
theorem d_W_retain_3 : decode method_6_code 3 = .ok (.iload_n 3, 1) := by decide +kernel
theorem d_W_retain_4 : decode method_6_code 4 = .ok (.invokevirtual 27, 3) := by decide +kernel
theorem d_W_retain_7 : decode method_6_code 7 = .ok (.goto 15, 3) := by decide +kernel
theorem d_W_retain_10 : decode method_6_code 10 = .ok (.astore 4, 2) := by decide +kernel
theorem d_W_retain_12 : decode method_6_code 12 = .ok (.iconst 1, 1) := by decide +kernel
theorem d_W_retain_13 : decode method_6_code 13 = .ok (.ireturn, 1) := by decide +kernel
theorem d_W_retain_14 : decode method_6_code 14 = .ok (.astore 4, 2) := by decide +kernel
theorem d_W_retain_16 : decode method_6_code 16 = .ok (.iconst 2, 1) := by decide +kernel
theorem d_W_retain_17 : decode method_6_code 17 = .ok (.ireturn, 1) := by decide +kernel
theorem d_W_retain_18 : decode method_6_code 18 = .ok (.astore 4, 2) := by decide +kernel
theorem d_W_retain_20 : decode method_6_code 20 = .ok (.iconst 3, 1) := by decide +kernel
theorem d_W_retain_21 : decode method_6_code 21 = .ok (.ireturn, 1) := by decide +kernel
theorem d_W_retain_22 : decode method_6_code 22 = .ok (.iconst 0, 1) := by decide +kernel
theorem d_W_retain_23 : decode method_6_code 23 = .ok (.ireturn, 1) := by decide +kernel
theorem d_V_retain_0 : decode prog_1_method_5_code 0 = .ok (.aload_n 0, 1) := by decide +kernel
theorem d_V_retain_1 : decode prog_1_method_5_code 1 = .ok (.iload_n 1, 1) := by decide +kernel
theorem d_V_retain_2 : decode prog_1_method_5_code 2 = .ok (.invokevirtual 94, 3) := by decide +kernel
theorem d_V_retain_5 : decode prog_1_method_5_code 5 = .ok (.astore 4, 2) := by decide +kernel
theorem d_V_retain_7 : decode prog_1_method_5_code 7 = .ok (.iload_n 2, 1) := by decide +kernel
theorem d_V_retain_8 : decode prog_1_method_5_code 8 = .ok (.iconst 0, 1) := by decide +kernel
theorem d_V_retain_9 : decode prog_1_method_5_code 9 = .ok (.sipush 10000, 3) := by decide +kernel
theorem d_V_retain_12 : decode prog_1_method_5_code 12 = .ok (.invokestatic 31, 3) := by decide +kernel
theorem d_V_retain_15 : decode prog_1_method_5_code 15 = .ok (.invokestatic 35, 3) := by decide +kernel
theorem d_V_retain_18 : decode prog_1_method_5_code 18 = .ok (.aload_n 0, 1) := by decide +kernel
theorem d_V_retain_19 : decode prog_1_method_5_code 19 = .ok (.getfield 48, 3) := by decide +kernel
theorem d_V_retain_22 : decode prog_1_method_5_code 22 = .ok (.iload_n 2, 1) := by decide +kernel
theorem d_V_retain_23 : decode prog_1_method_5_code 23 = .ok (.iadd, 1) := by decide +kernel
theorem d_V_retain_24 : decode prog_1_method_5_code 24 = .ok (.istore 5, 2) := by decide +kernel
theorem d_V_retain_26 : decode prog_1_method_5_code 26 = .ok (.aload 4, 2) := by decide +kernel
theorem d_V_retain_28 : decode prog_1_method_5_code 28 = .ok (.aload_n 0, 1) := by decide +kernel
theorem d_V_retain_29 : decode prog_1_method_5_code 29 = .ok (.getfield 48, 3) := by decide +kernel
theorem d_V_retain_32 : decode prog_1_method_5_code 32 = .ok (.invokevirtual 69, 3) := by decide +kernel
theorem d_V_retain_35 : decode prog_1_method_5_code 35 = .ok (.ifCond .eq 27, 3) := by decide +kernel
theorem d_V_retain_38 : decode prog_1_method_5_code 38 = .ok (.iload_n 3, 1) := by decide +kernel
theorem d_V_retain_39 : decode prog_1_method_5_code 39 = .ok (.ifCond .eq 13, 3) := by decide +kernel
theorem d_V_retain_42 : decode prog_1_method_5_code 42 = .ok (.iload 5, 2) := by decide +kernel
theorem d_V_retain_44 : decode prog_1_method_5_code 44 = .ok (.aload 4, 2) := by decide +kernel
theorem d_V_retain_46 : decode prog_1_method_5_code 46 = .ok (.getfield 97, 3) := by decide +kernel
theorem d_V_retain_49 : decode prog_1_method_5_code 49 = .ok (.if_icmp .ge 13, 3) := by decide +kernel
theorem d_V_retain_52 : decode prog_1_method_5_code 52 = .ok (.new 80, 3) := by decide +kernel
theorem d_V_retain_55 : decode prog_1_method_5_code 55 = .ok (.dup, 1) := by decide +kernel
theorem d_V_retain_56 : decode prog_1_method_5_code 56 = .ok (.ldc 100, 2) := by decide +kernel
theorem d_V_retain_58 : decode prog_1_method_5_code 58 = .ok (.invokespecial 84, 3) := by decide +kernel
theorem d_V_retain_61 : decode prog_1_method_5_code 61 = .ok (.athrow, 1) := by decide +kernel
theorem d_V_retain_62 : decode prog_1_method_5_code 62 = .ok (.aload 4, 2) := by decide +kernel
theorem d_V_retain_64 : decode prog_1_method_5_code 64 = .ok (.iload 5, 2) := by decide +kernel
theorem d_V_retain_66 : decode prog_1_method_5_code 66 = .ok (.putfield 97, 3) := by decide +kernel
theorem d_V_retain_69 : decode prog_1_method_5_code 69 = .ok (.aload 4, 2) := by decide +kernel
theorem d_V_retain_71 : decode prog_1_method_5_code 71 = .ok (.iload_n 3, 1) := by decide +kernel
theorem d_V_retain_72 : decode prog_1_method_5_code 72 = .ok (.putfield 102, 3) := by decide +kernel
theorem d_V_retain_75 : decode prog_1_method_5_code 75 = .ok (.aload_n 0, 1) := by decide +kernel
theorem d_V_retain_76 : decode prog_1_method_5_code 76 = .ok (.getfield 26, 3) := by decide +kernel
theorem d_V_retain_79 : decode prog_1_method_5_code 79 = .ok (.aload_n 0, 1) := by decide +kernel
theorem d_V_retain_80 : decode prog_1_method_5_code 80 = .ok (.getfield 48, 3) := by decide +kernel
theorem d_V_retain_83 : decode prog_1_method_5_code 83 = .ok (.iconst 5, 1) := by decide +kernel
theorem d_V_retain_84 : decode prog_1_method_5_code 84 = .ok (.aload 4, 2) := by decide +kernel
theorem d_V_retain_86 : decode prog_1_method_5_code 86 = .ok (.getfield 106, 3) := by decide +kernel
theorem d_V_retain_89 : decode prog_1_method_5_code 89 = .ok (.iload 5, 2) := by decide +kernel
theorem d_V_retain_91 : decode prog_1_method_5_code 91 = .ok (.invokevirtual 109, 3) := by decide +kernel
theorem d_V_retain_94 : decode prog_1_method_5_code 94 = .ok (.return_, 1) := by decide +kernel
end
section
theorem d_V_objectNumbered_0 : decode prog_1_method_22_code 0 = .ok (.aload_n 0, 1) := by decide +kernel
theorem d_V_objectNumbered_1 : decode prog_1_method_22_code 1 = .ok (.iload_n 1, 1) := by decide +kernel
theorem d_V_objectNumbered_2 : decode prog_1_method_22_code 2 = .ok (.invokevirtual 66, 3) := by decide +kernel
theorem d_V_objectNumbered_5 : decode prog_1_method_22_code 5 = .ok (.astore_n 2, 1) := by decide +kernel
theorem d_V_objectNumbered_6 : decode prog_1_method_22_code 6 = .ok (.aload_n 2, 1) := by decide +kernel
theorem d_V_objectNumbered_7 : decode prog_1_method_22_code 7 = .ok (.invokevirtual 214, 3) := by decide +kernel
theorem d_V_objectNumbered_10 : decode prog_1_method_22_code 10 = .ok (.ifCond .eq 13, 3) := by decide +kernel
theorem d_V_objectNumbered_13 : decode prog_1_method_22_code 13 = .ok (.new 209, 3) := by decide +kernel
theorem d_V_objectNumbered_16 : decode prog_1_method_22_code 16 = .ok (.dup, 1) := by decide +kernel
theorem d_V_objectNumbered_17 : decode prog_1_method_22_code 17 = .ok (.ldc 217, 2) := by decide +kernel
theorem d_V_objectNumbered_19 : decode prog_1_method_22_code 19 = .ok (.invokespecial 213, 3) := by decide +kernel
theorem d_V_objectNumbered_22 : decode prog_1_method_22_code 22 = .ok (.athrow, 1) := by decide +kernel
theorem d_V_objectNumbered_23 : decode prog_1_method_22_code 23 = .ok (.aload_n 2, 1) := by decide +kernel
theorem d_V_objectNumbered_24 : decode prog_1_method_22_code 24 = .ok (.areturn, 1) := by decide +kernel
theorem d_W_hold_0 : decode method_7_code 0 = .ok (.aload 4, 2) := by decide +kernel
theorem d_W_hold_2 : decode method_7_code 2 = .ok (.iconst 0, 1) := by decide +kernel
theorem d_W_hold_3 : decode method_7_code 3 = .ok (.aload_n 0, 1) := by decide +kernel
theorem d_W_hold_4 : decode method_7_code 4 = .ok (.iload_n 1, 1) := by decide +kernel
theorem d_W_hold_5 : decode method_7_code 5 = .ok (.iload_n 2, 1) := by decide +kernel
theorem d_W_hold_6 : decode method_7_code 6 = .ok (.iload_n 3, 1) := by decide +kernel
theorem d_W_hold_7 : decode method_7_code 7 = .ok (.invokevirtual 31, 3) := by decide +kernel
theorem d_W_hold_10 : decode method_7_code 10 = .ok (.ifCond .eq 7, 3) := by decide +kernel
theorem d_W_hold_13 : decode method_7_code 13 = .ok (.lconst 1, 1) := by decide +kernel
theorem d_W_hold_14 : decode method_7_code 14 = .ok (.goto 4, 3) := by decide +kernel
theorem d_W_hold_17 : decode method_7_code 17 = .ok (.lconst 0, 1) := by decide +kernel
theorem d_W_hold_18 : decode method_7_code 18 = .ok (.lastore, 1) := by decide +kernel
theorem d_W_hold_19 : decode method_7_code 19 = .ok (.goto 11, 3) := by decide +kernel
theorem d_W_hold_22 : decode method_7_code 22 = .ok (.astore 5, 2) := by decide +kernel
theorem d_W_hold_24 : decode method_7_code 24 = .ok (.iconst 1, 1) := by decide +kernel
theorem d_W_hold_25 : decode method_7_code 25 = .ok (.ireturn, 1) := by decide +kernel
theorem d_W_hold_26 : decode method_7_code 26 = .ok (.astore 5, 2) := by decide +kernel
theorem d_W_hold_28 : decode method_7_code 28 = .ok (.iconst 2, 1) := by decide +kernel
theorem d_W_hold_29 : decode method_7_code 29 = .ok (.ireturn, 1) := by decide +kernel
theorem d_W_hold_30 : decode method_7_code 30 = .ok (.iconst 0, 1) := by decide +kernel
theorem d_W_hold_31 : decode method_7_code 31 = .ok (.ireturn, 1) := by decide +kernel
theorem d_V_hold_0 : decode prog_1_method_6_code 0 = .ok (.aload_n 0, 1) := by decide +kernel
theorem d_V_hold_1 : decode prog_1_method_6_code 1 = .ok (.iload_n 1, 1) := by decide +kernel
theorem d_V_hold_2 : decode prog_1_method_6_code 2 = .ok (.invokevirtual 94, 3) := by decide +kernel
theorem d_V_hold_5 : decode prog_1_method_6_code 5 = .ok (.astore 4, 2) := by decide +kernel
theorem d_V_hold_7 : decode prog_1_method_6_code 7 = .ok (.iload_n 2, 1) := by decide +kernel
theorem d_V_hold_8 : decode prog_1_method_6_code 8 = .ok (.iconst 0, 1) := by decide +kernel
theorem d_V_hold_9 : decode prog_1_method_6_code 9 = .ok (.bipush 7, 2) := by decide +kernel
theorem d_V_hold_11 : decode prog_1_method_6_code 11 = .ok (.invokestatic 31, 3) := by decide +kernel
theorem d_V_hold_14 : decode prog_1_method_6_code 14 = .ok (.invokestatic 35, 3) := by decide +kernel
theorem d_V_hold_17 : decode prog_1_method_6_code 17 = .ok (.iconst 1, 1) := by decide +kernel
theorem d_V_hold_18 : decode prog_1_method_6_code 18 = .ok (.iload_n 2, 1) := by decide +kernel
theorem d_V_hold_19 : decode prog_1_method_6_code 19 = .ok (.ishl, 1) := by decide +kernel
theorem d_V_hold_20 : decode prog_1_method_6_code 20 = .ok (.istore 5, 2) := by decide +kernel
theorem d_V_hold_22 : decode prog_1_method_6_code 22 = .ok (.aload 4, 2) := by decide +kernel
theorem d_V_hold_24 : decode prog_1_method_6_code 24 = .ok (.getfield 113, 3) := by decide +kernel
theorem d_V_hold_27 : decode prog_1_method_6_code 27 = .ok (.iload 5, 2) := by decide +kernel
theorem d_V_hold_29 : decode prog_1_method_6_code 29 = .ok (.iand, 1) := by decide +kernel
theorem d_V_hold_30 : decode prog_1_method_6_code 30 = .ok (.ifCond .eq 7, 3) := by decide +kernel
theorem d_V_hold_33 : decode prog_1_method_6_code 33 = .ok (.iconst 1, 1) := by decide +kernel
theorem d_V_hold_34 : decode prog_1_method_6_code 34 = .ok (.goto 4, 3) := by decide +kernel
theorem d_V_hold_37 : decode prog_1_method_6_code 37 = .ok (.iconst 0, 1) := by decide +kernel
theorem d_V_hold_38 : decode prog_1_method_6_code 38 = .ok (.istore 6, 2) := by decide +kernel
theorem d_V_hold_40 : decode prog_1_method_6_code 40 = .ok (.iload 6, 2) := by decide +kernel
theorem d_V_hold_42 : decode prog_1_method_6_code 42 = .ok (.iload_n 3, 1) := by decide +kernel
theorem d_V_hold_43 : decode prog_1_method_6_code 43 = .ok (.if_icmp .ne 5, 3) := by decide +kernel
theorem d_V_hold_46 : decode prog_1_method_6_code 46 = .ok (.iconst 0, 1) := by decide +kernel
theorem d_V_hold_47 : decode prog_1_method_6_code 47 = .ok (.ireturn, 1) := by decide +kernel
theorem d_V_hold_48 : decode prog_1_method_6_code 48 = .ok (.aload 4, 2) := by decide +kernel
theorem d_V_hold_50 : decode prog_1_method_6_code 50 = .ok (.dup, 1) := by decide +kernel
theorem d_V_hold_51 : decode prog_1_method_6_code 51 = .ok (.getfield 113, 3) := by decide +kernel
theorem d_V_hold_54 : decode prog_1_method_6_code 54 = .ok (.iload 5, 2) := by decide +kernel
theorem d_V_hold_56 : decode prog_1_method_6_code 56 = .ok (.ixor, 1) := by decide +kernel
theorem d_V_hold_57 : decode prog_1_method_6_code 57 = .ok (.putfield 113, 3) := by decide +kernel
theorem d_V_hold_60 : decode prog_1_method_6_code 60 = .ok (.aload_n 0, 1) := by decide +kernel
theorem d_V_hold_61 : decode prog_1_method_6_code 61 = .ok (.getfield 26, 3) := by decide +kernel
theorem d_V_hold_64 : decode prog_1_method_6_code 64 = .ok (.aload_n 0, 1) := by decide +kernel
theorem d_V_hold_65 : decode prog_1_method_6_code 65 = .ok (.getfield 48, 3) := by decide +kernel
theorem d_V_hold_68 : decode prog_1_method_6_code 68 = .ok (.iload_n 3, 1) := by decide +kernel
theorem d_V_hold_69 : decode prog_1_method_6_code 69 = .ok (.ifCond .eq 8, 3) := by decide +kernel
theorem d_V_hold_72 : decode prog_1_method_6_code 72 = .ok (.bipush 6, 2) := by decide +kernel
theorem d_V_hold_74 : decode prog_1_method_6_code 74 = .ok (.goto 5, 3) := by decide +kernel
theorem d_V_hold_77 : decode prog_1_method_6_code 77 = .ok (.bipush 7, 2) := by decide +kernel
theorem d_V_hold_79 : decode prog_1_method_6_code 79 = .ok (.aload 4, 2) := by decide +kernel
theorem d_V_hold_81 : decode prog_1_method_6_code 81 = .ok (.getfield 106, 3) := by decide +kernel
theorem d_V_hold_84 : decode prog_1_method_6_code 84 = .ok (.iload_n 2, 1) := by decide +kernel
theorem d_V_hold_85 : decode prog_1_method_6_code 85 = .ok (.invokevirtual 109, 3) := by decide +kernel
theorem d_V_hold_88 : decode prog_1_method_6_code 88 = .ok (.iconst 1, 1) := by decide +kernel
theorem d_V_hold_89 : decode prog_1_method_6_code 89 = .ok (.ireturn, 1) := by decide +kernel
theorem d_W_rule_0 : decode method_8_code 0 = .ok (.aload_n 0, 1) := by decide +kernel
theorem d_W_rule_1 : decode method_8_code 1 = .ok (.iload_n 1, 1) := by decide +kernel
theorem d_W_rule_2 : decode method_8_code 2 = .ok (.iload_n 2, 1) := by decide +kernel
theorem d_W_rule_3 : decode method_8_code 3 = .ok (.iload_n 3, 1) := by decide +kernel
theorem d_W_rule_4 : decode method_8_code 4 = .ok (.iload 4, 2) := by decide +kernel
theorem d_W_rule_6 : decode method_8_code 6 = .ok (.iload 5, 2) := by decide +kernel
theorem d_W_rule_8 : decode method_8_code 8 = .ok (.invokevirtual 35, 3) := by decide +kernel
theorem d_W_rule_11 : decode method_8_code 11 = .ok (.goto 7, 3) := by decide +kernel
theorem d_W_rule_14 : decode method_8_code 14 = .ok (.astore 6, 2) := by decide +kernel
theorem d_W_rule_16 : decode method_8_code 16 = .ok (.iconst 1, 1) := by decide +kernel
theorem d_W_rule_17 : decode method_8_code 17 = .ok (.ireturn, 1) := by decide +kernel
theorem d_W_rule_18 : decode method_8_code 18 = .ok (.iconst 0, 1) := by decide +kernel
theorem d_W_rule_19 : decode method_8_code 19 = .ok (.ireturn, 1) := by decide +kernel
theorem d_V_rule_0 : decode prog_1_method_7_code 0 = .ok (.iload_n 1, 1) := by decide +kernel
theorem d_V_rule_1 : decode prog_1_method_7_code 1 = .ok (.iconst 0, 1) := by decide +kernel
theorem d_V_rule_2 : decode prog_1_method_7_code 2 = .ok (.iconst 5, 1) := by decide +kernel
theorem d_V_rule_3 : decode prog_1_method_7_code 3 = .ok (.invokestatic 31, 3) := by decide +kernel
theorem d_V_rule_6 : decode prog_1_method_7_code 6 = .ok (.ifCond .eq 16, 3) := by decide +kernel
theorem d_V_rule_9 : decode prog_1_method_7_code 9 = .ok (.iload_n 2, 1) := by decide +kernel
theorem d_V_rule_10 : decode prog_1_method_7_code 10 = .ok (.iconst (-1), 1) := by decide +kernel
theorem d_V_rule_11 : decode prog_1_method_7_code 11 = .ok (.iconst 3, 1) := by decide +kernel
theorem d_V_rule_12 : decode prog_1_method_7_code 12 = .ok (.invokestatic 31, 3) := by decide +kernel
theorem d_V_rule_15 : decode prog_1_method_7_code 15 = .ok (.ifCond .eq 7, 3) := by decide +kernel
theorem d_V_rule_18 : decode prog_1_method_7_code 18 = .ok (.iconst 1, 1) := by decide +kernel
theorem d_V_rule_19 : decode prog_1_method_7_code 19 = .ok (.goto 4, 3) := by decide +kernel
theorem d_V_rule_22 : decode prog_1_method_7_code 22 = .ok (.iconst 0, 1) := by decide +kernel
theorem d_V_rule_23 : decode prog_1_method_7_code 23 = .ok (.invokestatic 35, 3) := by decide +kernel
theorem d_V_rule_26 : decode prog_1_method_7_code 26 = .ok (.iload 4, 2) := by decide +kernel
theorem d_V_rule_28 : decode prog_1_method_7_code 28 = .ok (.iconst 0, 1) := by decide +kernel
theorem d_V_rule_29 : decode prog_1_method_7_code 29 = .ok (.sipush 10000, 3) := by decide +kernel
theorem d_V_rule_32 : decode prog_1_method_7_code 32 = .ok (.invokestatic 31, 3) := by decide +kernel
theorem d_V_rule_35 : decode prog_1_method_7_code 35 = .ok (.ifCond .eq 17, 3) := by decide +kernel
theorem d_V_rule_38 : decode prog_1_method_7_code 38 = .ok (.iload 5, 2) := by decide +kernel
theorem d_V_rule_40 : decode prog_1_method_7_code 40 = .ok (.iconst 1, 1) := by decide +kernel
theorem d_V_rule_41 : decode prog_1_method_7_code 41 = .ok (.iconst 4, 1) := by decide +kernel
theorem d_V_rule_42 : decode prog_1_method_7_code 42 = .ok (.invokestatic 31, 3) := by decide +kernel
theorem d_V_rule_45 : decode prog_1_method_7_code 45 = .ok (.ifCond .eq 7, 3) := by decide +kernel
theorem d_V_rule_48 : decode prog_1_method_7_code 48 = .ok (.iconst 1, 1) := by decide +kernel
theorem d_V_rule_49 : decode prog_1_method_7_code 49 = .ok (.goto 4, 3) := by decide +kernel
theorem d_V_rule_52 : decode prog_1_method_7_code 52 = .ok (.iconst 0, 1) := by decide +kernel
theorem d_V_rule_53 : decode prog_1_method_7_code 53 = .ok (.invokestatic 35, 3) := by decide +kernel
theorem d_V_rule_56 : decode prog_1_method_7_code 56 = .ok (.aload_n 0, 1) := by decide +kernel
theorem d_V_rule_57 : decode prog_1_method_7_code 57 = .ok (.getfield 18, 3) := by decide +kernel
theorem d_V_rule_60 : decode prog_1_method_7_code 60 = .ok (.iload_n 1, 1) := by decide +kernel
theorem d_V_rule_61 : decode prog_1_method_7_code 61 = .ok (.aaload, 1) := by decide +kernel
theorem d_V_rule_62 : decode prog_1_method_7_code 62 = .ok (.iload_n 2, 1) := by decide +kernel
theorem d_V_rule_63 : decode prog_1_method_7_code 63 = .ok (.iload_n 3, 1) := by decide +kernel
theorem d_V_rule_64 : decode prog_1_method_7_code 64 = .ok (.iload 4, 2) := by decide +kernel
theorem d_V_rule_66 : decode prog_1_method_7_code 66 = .ok (.iload 5, 2) := by decide +kernel
theorem d_V_rule_68 : decode prog_1_method_7_code 68 = .ok (.invokevirtual 116, 3) := by decide +kernel
theorem d_V_rule_71 : decode prog_1_method_7_code 71 = .ok (.aload_n 0, 1) := by decide +kernel
theorem d_V_rule_72 : decode prog_1_method_7_code 72 = .ok (.getfield 26, 3) := by decide +kernel
theorem d_V_rule_75 : decode prog_1_method_7_code 75 = .ok (.aload_n 0, 1) := by decide +kernel
theorem d_V_rule_76 : decode prog_1_method_7_code 76 = .ok (.getfield 48, 3) := by decide +kernel
theorem d_V_rule_79 : decode prog_1_method_7_code 79 = .ok (.bipush 9, 2) := by decide +kernel
theorem d_V_rule_81 : decode prog_1_method_7_code 81 = .ok (.iload_n 1, 1) := by decide +kernel
theorem d_V_rule_82 : decode prog_1_method_7_code 82 = .ok (.iload 5, 2) := by decide +kernel
theorem d_V_rule_84 : decode prog_1_method_7_code 84 = .ok (.invokevirtual 109, 3) := by decide +kernel
theorem d_V_rule_87 : decode prog_1_method_7_code 87 = .ok (.return_, 1) := by decide +kernel
theorem d_U_become_0 : decode prog_3_method_2_code 0 = .ok (.aload_n 0, 1) := by decide +kernel
theorem d_U_become_1 : decode prog_3_method_2_code 1 = .ok (.iload_n 1, 1) := by decide +kernel
theorem d_U_become_2 : decode prog_3_method_2_code 2 = .ok (.putfield 9, 3) := by decide +kernel
theorem d_U_become_5 : decode prog_3_method_2_code 5 = .ok (.aload_n 0, 1) := by decide +kernel
theorem d_U_become_6 : decode prog_3_method_2_code 6 = .ok (.iload_n 2, 1) := by decide +kernel
theorem d_U_become_7 : decode prog_3_method_2_code 7 = .ok (.putfield 15, 3) := by decide +kernel
theorem d_U_become_10 : decode prog_3_method_2_code 10 = .ok (.aload_n 0, 1) := by decide +kernel
theorem d_U_become_11 : decode prog_3_method_2_code 11 = .ok (.iload_n 3, 1) := by decide +kernel
theorem d_U_become_12 : decode prog_3_method_2_code 12 = .ok (.putfield 19, 3) := by decide +kernel
theorem d_U_become_15 : decode prog_3_method_2_code 15 = .ok (.aload_n 0, 1) := by decide +kernel
theorem d_U_become_16 : decode prog_3_method_2_code 16 = .ok (.iload 4, 2) := by decide +kernel
theorem d_U_become_18 : decode prog_3_method_2_code 18 = .ok (.putfield 22, 3) := by decide +kernel
theorem d_U_become_21 : decode prog_3_method_2_code 21 = .ok (.return_, 1) := by decide +kernel
theorem d_W_unrule_0 : decode method_9_code 0 = .ok (.aload_n 2, 1) := by decide +kernel
theorem d_W_unrule_1 : decode method_9_code 1 = .ok (.iconst 0, 1) := by decide +kernel
theorem d_W_unrule_2 : decode method_9_code 2 = .ok (.aload_n 0, 1) := by decide +kernel
theorem d_W_unrule_3 : decode method_9_code 3 = .ok (.iload_n 1, 1) := by decide +kernel
theorem d_W_unrule_4 : decode method_9_code 4 = .ok (.invokevirtual 39, 3) := by decide +kernel
theorem d_W_unrule_7 : decode method_9_code 7 = .ok (.ifCond .eq 7, 3) := by decide +kernel
theorem d_W_unrule_10 : decode method_9_code 10 = .ok (.lconst 1, 1) := by decide +kernel
theorem d_W_unrule_11 : decode method_9_code 11 = .ok (.goto 4, 3) := by decide +kernel
theorem d_W_unrule_14 : decode method_9_code 14 = .ok (.lconst 0, 1) := by decide +kernel
theorem d_W_unrule_15 : decode method_9_code 15 = .ok (.lastore, 1) := by decide +kernel
theorem d_W_unrule_16 : decode method_9_code 16 = .ok (.goto 6, 3) := by decide +kernel
theorem d_W_unrule_19 : decode method_9_code 19 = .ok (.astore_n 3, 1) := by decide +kernel
theorem d_W_unrule_20 : decode method_9_code 20 = .ok (.iconst 1, 1) := by decide +kernel
theorem d_W_unrule_21 : decode method_9_code 21 = .ok (.ireturn, 1) := by decide +kernel
theorem d_W_unrule_22 : decode method_9_code 22 = .ok (.iconst 0, 1) := by decide +kernel
theorem d_W_unrule_23 : decode method_9_code 23 = .ok (.ireturn, 1) := by decide +kernel
theorem d_V_unrule_0 : decode prog_1_method_8_code 0 = .ok (.iload_n 1, 1) := by decide +kernel
theorem d_V_unrule_1 : decode prog_1_method_8_code 1 = .ok (.iconst 0, 1) := by decide +kernel
theorem d_V_unrule_2 : decode prog_1_method_8_code 2 = .ok (.iconst 5, 1) := by decide +kernel
theorem d_V_unrule_3 : decode prog_1_method_8_code 3 = .ok (.invokestatic 31, 3) := by decide +kernel
theorem d_V_unrule_6 : decode prog_1_method_8_code 6 = .ok (.invokestatic 35, 3) := by decide +kernel
theorem d_V_unrule_9 : decode prog_1_method_8_code 9 = .ok (.aload_n 0, 1) := by decide +kernel
theorem d_V_unrule_10 : decode prog_1_method_8_code 10 = .ok (.getfield 18, 3) := by decide +kernel
theorem d_V_unrule_13 : decode prog_1_method_8_code 13 = .ok (.iload_n 1, 1) := by decide +kernel
theorem d_V_unrule_14 : decode prog_1_method_8_code 14 = .ok (.aaload, 1) := by decide +kernel
theorem d_V_unrule_15 : decode prog_1_method_8_code 15 = .ok (.astore_n 2, 1) := by decide +kernel
theorem d_V_unrule_16 : decode prog_1_method_8_code 16 = .ok (.aload_n 2, 1) := by decide +kernel
theorem d_V_unrule_17 : decode prog_1_method_8_code 17 = .ok (.invokevirtual 120, 3) := by decide +kernel
theorem d_V_unrule_20 : decode prog_1_method_8_code 20 = .ok (.ifCond .eq 5, 3) := by decide +kernel
theorem d_V_unrule_23 : decode prog_1_method_8_code 23 = .ok (.iconst 0, 1) := by decide +kernel
theorem d_V_unrule_24 : decode prog_1_method_8_code 24 = .ok (.ireturn, 1) := by decide +kernel
theorem d_V_unrule_25 : decode prog_1_method_8_code 25 = .ok (.aload_n 2, 1) := by decide +kernel
theorem d_V_unrule_26 : decode prog_1_method_8_code 26 = .ok (.iconst 0, 1) := by decide +kernel
theorem d_V_unrule_27 : decode prog_1_method_8_code 27 = .ok (.putfield 123, 3) := by decide +kernel
theorem d_V_unrule_30 : decode prog_1_method_8_code 30 = .ok (.aload_n 0, 1) := by decide +kernel
theorem d_V_unrule_31 : decode prog_1_method_8_code 31 = .ok (.getfield 26, 3) := by decide +kernel
theorem d_V_unrule_34 : decode prog_1_method_8_code 34 = .ok (.aload_n 0, 1) := by decide +kernel
theorem d_V_unrule_35 : decode prog_1_method_8_code 35 = .ok (.getfield 48, 3) := by decide +kernel
theorem d_V_unrule_38 : decode prog_1_method_8_code 38 = .ok (.bipush 10, 2) := by decide +kernel
theorem d_V_unrule_40 : decode prog_1_method_8_code 40 = .ok (.iload_n 1, 1) := by decide +kernel
theorem d_V_unrule_41 : decode prog_1_method_8_code 41 = .ok (.iconst 0, 1) := by decide +kernel
theorem d_V_unrule_42 : decode prog_1_method_8_code 42 = .ok (.invokevirtual 109, 3) := by decide +kernel
theorem d_V_unrule_45 : decode prog_1_method_8_code 45 = .ok (.iconst 1, 1) := by decide +kernel
theorem d_V_unrule_46 : decode prog_1_method_8_code 46 = .ok (.ireturn, 1) := by decide +kernel
theorem d_U_isEmpty_0 : decode prog_3_method_3_code 0 = .ok (.aload_n 0, 1) := by decide +kernel
theorem d_U_isEmpty_1 : decode prog_3_method_3_code 1 = .ok (.getfield 22, 3) := by decide +kernel
theorem d_U_isEmpty_4 : decode prog_3_method_3_code 4 = .ok (.ifCond .ne 7, 3) := by decide +kernel
theorem d_U_isEmpty_7 : decode prog_3_method_3_code 7 = .ok (.iconst 1, 1) := by decide +kernel
theorem d_U_isEmpty_8 : decode prog_3_method_3_code 8 = .ok (.goto 4, 3) := by decide +kernel
theorem d_U_isEmpty_11 : decode prog_3_method_3_code 11 = .ok (.iconst 0, 1) := by decide +kernel
theorem d_U_isEmpty_12 : decode prog_3_method_3_code 12 = .ok (.ireturn, 1) := by decide +kernel
theorem d_W_fetch_0 : decode method_10_code 0 = .ok (.aload_n 3, 1) := by decide +kernel
theorem d_W_fetch_1 : decode method_10_code 1 = .ok (.iconst 0, 1) := by decide +kernel
theorem d_W_fetch_2 : decode method_10_code 2 = .ok (.aload_n 0, 1) := by decide +kernel
theorem d_W_fetch_3 : decode method_10_code 3 = .ok (.iload_n 1, 1) := by decide +kernel
theorem d_W_fetch_4 : decode method_10_code 4 = .ok (.iload_n 2, 1) := by decide +kernel
theorem d_W_fetch_5 : decode method_10_code 5 = .ok (.invokevirtual 43, 3) := by decide +kernel
theorem d_W_fetch_8 : decode method_10_code 8 = .ok (.i2l, 1) := by decide +kernel
theorem d_W_fetch_9 : decode method_10_code 9 = .ok (.lastore, 1) := by decide +kernel
theorem d_W_fetch_10 : decode method_10_code 10 = .ok (.goto 15, 3) := by decide +kernel
theorem d_W_fetch_13 : decode method_10_code 13 = .ok (.astore 4, 2) := by decide +kernel
theorem d_W_fetch_15 : decode method_10_code 15 = .ok (.iconst 1, 1) := by decide +kernel
theorem d_W_fetch_16 : decode method_10_code 16 = .ok (.ireturn, 1) := by decide +kernel
theorem d_W_fetch_17 : decode method_10_code 17 = .ok (.astore 4, 2) := by decide +kernel
theorem d_W_fetch_19 : decode method_10_code 19 = .ok (.iconst 2, 1) := by decide +kernel
theorem d_W_fetch_20 : decode method_10_code 20 = .ok (.ireturn, 1) := by decide +kernel
theorem d_W_fetch_21 : decode method_10_code 21 = .ok (.astore 4, 2) := by decide +kernel
theorem d_W_fetch_23 : decode method_10_code 23 = .ok (.iconst 3, 1) := by decide +kernel
theorem d_W_fetch_24 : decode method_10_code 24 = .ok (.ireturn, 1) := by decide +kernel
theorem d_W_fetch_25 : decode method_10_code 25 = .ok (.iconst 0, 1) := by decide +kernel
theorem d_W_fetch_26 : decode method_10_code 26 = .ok (.ireturn, 1) := by decide +kernel
theorem d_V_fetch_0 : decode prog_1_method_9_code 0 = .ok (.aload_n 0, 1) := by decide +kernel
theorem d_V_fetch_1 : decode prog_1_method_9_code 1 = .ok (.iload_n 1, 1) := by decide +kernel
theorem d_V_fetch_2 : decode prog_1_method_9_code 2 = .ok (.invokevirtual 94, 3) := by decide +kernel
theorem d_V_fetch_5 : decode prog_1_method_9_code 5 = .ok (.astore_n 3, 1) := by decide +kernel
theorem d_V_fetch_6 : decode prog_1_method_9_code 6 = .ok (.iload_n 2, 1) := by decide +kernel
theorem d_V_fetch_7 : decode prog_1_method_9_code 7 = .ok (.iconst 1, 1) := by decide +kernel
theorem d_V_fetch_8 : decode prog_1_method_9_code 8 = .ok (.bipush 100, 2) := by decide +kernel
theorem d_V_fetch_10 : decode prog_1_method_9_code 10 = .ok (.invokestatic 31, 3) := by decide +kernel
theorem d_V_fetch_13 : decode prog_1_method_9_code 13 = .ok (.invokestatic 35, 3) := by decide +kernel
theorem d_V_fetch_16 : decode prog_1_method_9_code 16 = .ok (.aload_n 3, 1) := by decide +kernel
theorem d_V_fetch_17 : decode prog_1_method_9_code 17 = .ok (.invokevirtual 126, 3) := by decide +kernel
theorem d_V_fetch_20 : decode prog_1_method_9_code 20 = .ok (.ifCond .ne 13, 3) := by decide +kernel
theorem d_V_fetch_23 : decode prog_1_method_9_code 23 = .ok (.new 80, 3) := by decide +kernel
theorem d_V_fetch_26 : decode prog_1_method_9_code 26 = .ok (.dup, 1) := by decide +kernel
theorem d_V_fetch_27 : decode prog_1_method_9_code 27 = .ok (.ldc 129, 2) := by decide +kernel
theorem d_V_fetch_29 : decode prog_1_method_9_code 29 = .ok (.invokespecial 84, 3) := by decide +kernel
theorem d_V_fetch_32 : decode prog_1_method_9_code 32 = .ok (.athrow, 1) := by decide +kernel
theorem d_V_fetch_33 : decode prog_1_method_9_code 33 = .ok (.aload_n 3, 1) := by decide +kernel
theorem d_V_fetch_34 : decode prog_1_method_9_code 34 = .ok (.aload_n 0, 1) := by decide +kernel
theorem d_V_fetch_35 : decode prog_1_method_9_code 35 = .ok (.getfield 48, 3) := by decide +kernel
theorem d_V_fetch_38 : decode prog_1_method_9_code 38 = .ok (.aload_n 3, 1) := by decide +kernel
theorem d_V_fetch_39 : decode prog_1_method_9_code 39 = .ok (.getfield 131, 3) := by decide +kernel
theorem d_V_fetch_42 : decode prog_1_method_9_code 42 = .ok (.iconst 3, 1) := by decide +kernel
theorem d_V_fetch_43 : decode prog_1_method_9_code 43 = .ok (.if_icmp .ne 7, 3) := by decide +kernel
theorem d_V_fetch_46 : decode prog_1_method_9_code 46 = .ok (.iconst 3, 1) := by decide +kernel
theorem d_V_fetch_47 : decode prog_1_method_9_code 47 = .ok (.goto 4, 3) := by decide +kernel
theorem d_V_fetch_50 : decode prog_1_method_9_code 50 = .ok (.iconst 1, 1) := by decide +kernel
theorem d_V_fetch_51 : decode prog_1_method_9_code 51 = .ok (.iadd, 1) := by decide +kernel
theorem d_V_fetch_52 : decode prog_1_method_9_code 52 = .ok (.putfield 134, 3) := by decide +kernel
theorem d_V_fetch_55 : decode prog_1_method_9_code 55 = .ok (.aload_n 3, 1) := by decide +kernel
theorem d_V_fetch_56 : decode prog_1_method_9_code 56 = .ok (.aload_n 3, 1) := by decide +kernel
theorem d_V_fetch_57 : decode prog_1_method_9_code 57 = .ok (.getfield 134, 3) := by decide +kernel
theorem d_V_fetch_60 : decode prog_1_method_9_code 60 = .ok (.iload_n 2, 1) := by decide +kernel
theorem d_V_fetch_61 : decode prog_1_method_9_code 61 = .ok (.iadd, 1) := by decide +kernel
theorem d_V_fetch_62 : decode prog_1_method_9_code 62 = .ok (.putfield 137, 3) := by decide +kernel
theorem d_V_fetch_65 : decode prog_1_method_9_code 65 = .ok (.aload_n 0, 1) := by decide +kernel
theorem d_V_fetch_66 : decode prog_1_method_9_code 66 = .ok (.getfield 26, 3) := by decide +kernel
theorem d_V_fetch_69 : decode prog_1_method_9_code 69 = .ok (.aload_n 0, 1) := by decide +kernel
theorem d_V_fetch_70 : decode prog_1_method_9_code 70 = .ok (.getfield 48, 3) := by decide +kernel
theorem d_V_fetch_73 : decode prog_1_method_9_code 73 = .ok (.bipush 8, 2) := by decide +kernel
theorem d_V_fetch_75 : decode prog_1_method_9_code 75 = .ok (.aload_n 3, 1) := by decide +kernel
theorem d_V_fetch_76 : decode prog_1_method_9_code 76 = .ok (.getfield 106, 3) := by decide +kernel
theorem d_V_fetch_79 : decode prog_1_method_9_code 79 = .ok (.aload_n 3, 1) := by decide +kernel
theorem d_V_fetch_80 : decode prog_1_method_9_code 80 = .ok (.getfield 134, 3) := by decide +kernel
theorem d_V_fetch_83 : decode prog_1_method_9_code 83 = .ok (.invokevirtual 109, 3) := by decide +kernel
theorem d_V_fetch_86 : decode prog_1_method_9_code 86 = .ok (.aload_n 3, 1) := by decide +kernel
theorem d_V_fetch_87 : decode prog_1_method_9_code 87 = .ok (.getfield 134, 3) := by decide +kernel
theorem d_V_fetch_90 : decode prog_1_method_9_code 90 = .ok (.ireturn, 1) := by decide +kernel
theorem d_N_isCold_0 : decode prog_4_method_4_code 0 = .ok (.aload_n 0, 1) := by decide +kernel
theorem d_N_isCold_1 : decode prog_4_method_4_code 1 = .ok (.getfield 21, 3) := by decide +kernel
theorem d_N_isCold_4 : decode prog_4_method_4_code 4 = .ok (.iconst 2, 1) := by decide +kernel
theorem d_N_isCold_5 : decode prog_4_method_4_code 5 = .ok (.if_icmp .lt 7, 3) := by decide +kernel
theorem d_N_isCold_8 : decode prog_4_method_4_code 8 = .ok (.iconst 1, 1) := by decide +kernel
theorem d_N_isCold_9 : decode prog_4_method_4_code 9 = .ok (.goto 4, 3) := by decide +kernel
theorem d_N_isCold_12 : decode prog_4_method_4_code 12 = .ok (.iconst 0, 1) := by decide +kernel
theorem d_N_isCold_13 : decode prog_4_method_4_code 13 = .ok (.ireturn, 1) := by decide +kernel
theorem d_W_read_0 : decode method_11_code 0 = .ok (.aload_n 2, 1) := by decide +kernel
theorem d_W_read_1 : decode method_11_code 1 = .ok (.iconst 0, 1) := by decide +kernel
theorem d_W_read_2 : decode method_11_code 2 = .ok (.aload_n 0, 1) := by decide +kernel
theorem d_W_read_3 : decode method_11_code 3 = .ok (.iload_n 1, 1) := by decide +kernel
theorem d_W_read_4 : decode method_11_code 4 = .ok (.invokevirtual 47, 3) := by decide +kernel
theorem d_W_read_7 : decode method_11_code 7 = .ok (.i2l, 1) := by decide +kernel
theorem d_W_read_8 : decode method_11_code 8 = .ok (.lastore, 1) := by decide +kernel
theorem d_W_read_9 : decode method_11_code 9 = .ok (.goto 9, 3) := by decide +kernel
theorem d_W_read_12 : decode method_11_code 12 = .ok (.astore_n 3, 1) := by decide +kernel
theorem d_W_read_13 : decode method_11_code 13 = .ok (.iconst 1, 1) := by decide +kernel
theorem d_W_read_14 : decode method_11_code 14 = .ok (.ireturn, 1) := by decide +kernel
theorem d_W_read_15 : decode method_11_code 15 = .ok (.astore_n 3, 1) := by decide +kernel
theorem d_W_read_16 : decode method_11_code 16 = .ok (.iconst 2, 1) := by decide +kernel
theorem d_W_read_17 : decode method_11_code 17 = .ok (.ireturn, 1) := by decide +kernel
theorem d_W_read_18 : decode method_11_code 18 = .ok (.iconst 0, 1) := by decide +kernel
theorem d_W_read_19 : decode method_11_code 19 = .ok (.ireturn, 1) := by decide +kernel
theorem d_V_read_0 : decode prog_1_method_10_code 0 = .ok (.aload_n 0, 1) := by decide +kernel
theorem d_V_read_1 : decode prog_1_method_10_code 1 = .ok (.iload_n 1, 1) := by decide +kernel
theorem d_V_read_2 : decode prog_1_method_10_code 2 = .ok (.invokevirtual 94, 3) := by decide +kernel
theorem d_V_read_5 : decode prog_1_method_10_code 5 = .ok (.astore_n 2, 1) := by decide +kernel
theorem d_V_read_6 : decode prog_1_method_10_code 6 = .ok (.aload_n 2, 1) := by decide +kernel
theorem d_V_read_7 : decode prog_1_method_10_code 7 = .ok (.invokevirtual 126, 3) := by decide +kernel
theorem d_V_read_10 : decode prog_1_method_10_code 10 = .ok (.ifCond .eq 24, 3) := by decide +kernel
theorem d_V_read_13 : decode prog_1_method_10_code 13 = .ok (.aload_n 2, 1) := by decide +kernel
theorem d_V_read_14 : decode prog_1_method_10_code 14 = .ok (.aload_n 0, 1) := by decide +kernel
theorem d_V_read_15 : decode prog_1_method_10_code 15 = .ok (.getfield 48, 3) := by decide +kernel
theorem d_V_read_18 : decode prog_1_method_10_code 18 = .ok (.invokevirtual 140, 3) := by decide +kernel
theorem d_V_read_21 : decode prog_1_method_10_code 21 = .ok (.ifCond .ne 13, 3) := by decide +kernel
theorem d_V_read_24 : decode prog_1_method_10_code 24 = .ok (.new 80, 3) := by decide +kernel
theorem d_V_read_27 : decode prog_1_method_10_code 27 = .ok (.dup, 1) := by decide +kernel
theorem d_V_read_28 : decode prog_1_method_10_code 28 = .ok (.ldc 143, 2) := by decide +kernel
theorem d_V_read_30 : decode prog_1_method_10_code 30 = .ok (.invokespecial 84, 3) := by decide +kernel
theorem d_V_read_33 : decode prog_1_method_10_code 33 = .ok (.athrow, 1) := by decide +kernel
theorem d_V_read_34 : decode prog_1_method_10_code 34 = .ok (.aload_n 2, 1) := by decide +kernel
theorem d_V_read_35 : decode prog_1_method_10_code 35 = .ok (.getfield 145, 3) := by decide +kernel
theorem d_V_read_38 : decode prog_1_method_10_code 38 = .ok (.ireturn, 1) := by decide +kernel
theorem d_N_isFetchedFor_0 : decode prog_4_method_10_code 0 = .ok (.aload_n 0, 1) := by decide +kernel
theorem d_N_isFetchedFor_1 : decode prog_4_method_10_code 1 = .ok (.getfield 54, 3) := by decide +kernel
theorem d_N_isFetchedFor_4 : decode prog_4_method_10_code 4 = .ok (.iload_n 1, 1) := by decide +kernel
theorem d_N_isFetchedFor_5 : decode prog_4_method_10_code 5 = .ok (.if_icmp .gt 15, 3) := by decide +kernel
theorem d_N_isFetchedFor_8 : decode prog_4_method_10_code 8 = .ok (.iload_n 1, 1) := by decide +kernel
theorem d_N_isFetchedFor_9 : decode prog_4_method_10_code 9 = .ok (.aload_n 0, 1) := by decide +kernel
theorem d_N_isFetchedFor_10 : decode prog_4_method_10_code 10 = .ok (.getfield 57, 3) := by decide +kernel
theorem d_N_isFetchedFor_13 : decode prog_4_method_10_code 13 = .ok (.if_icmp .ge 7, 3) := by decide +kernel
theorem d_N_isFetchedFor_16 : decode prog_4_method_10_code 16 = .ok (.iconst 1, 1) := by decide +kernel
theorem d_N_isFetchedFor_17 : decode prog_4_method_10_code 17 = .ok (.goto 4, 3) := by decide +kernel
theorem d_N_isFetchedFor_20 : decode prog_4_method_10_code 20 = .ok (.iconst 0, 1) := by decide +kernel
theorem d_N_isFetchedFor_21 : decode prog_4_method_10_code 21 = .ok (.ireturn, 1) := by decide +kernel
theorem d_W_tick_0 : decode method_12_code 0 = .ok (.aload_n 2, 1) := by decide +kernel
theorem d_W_tick_1 : decode method_12_code 1 = .ok (.iconst 0, 1) := by decide +kernel
theorem d_W_tick_2 : decode method_12_code 2 = .ok (.aload_n 0, 1) := by decide +kernel
theorem d_W_tick_3 : decode method_12_code 3 = .ok (.iload_n 1, 1) := by decide +kernel
theorem d_W_tick_4 : decode method_12_code 4 = .ok (.invokevirtual 50, 3) := by decide +kernel
theorem d_W_tick_7 : decode method_12_code 7 = .ok (.i2l, 1) := by decide +kernel
theorem d_W_tick_8 : decode method_12_code 8 = .ok (.lastore, 1) := by decide +kernel
theorem d_W_tick_9 : decode method_12_code 9 = .ok (.goto 6, 3) := by decide +kernel
theorem d_W_tick_12 : decode method_12_code 12 = .ok (.astore_n 3, 1) := by decide +kernel
theorem d_W_tick_13 : decode method_12_code 13 = .ok (.iconst 1, 1) := by decide +kernel
theorem d_W_tick_14 : decode method_12_code 14 = .ok (.ireturn, 1) := by decide +kernel
theorem d_W_tick_15 : decode method_12_code 15 = .ok (.iconst 0, 1) := by decide +kernel
theorem d_W_tick_16 : decode method_12_code 16 = .ok (.ireturn, 1) := by decide +kernel
theorem d_V_tick_0 : decode prog_1_method_11_code 0 = .ok (.iload_n 1, 1) := by decide +kernel
theorem d_V_tick_1 : decode prog_1_method_11_code 1 = .ok (.iconst 0, 1) := by decide +kernel
theorem d_V_tick_2 : decode prog_1_method_11_code 2 = .ok (.sipush 1000, 3) := by decide +kernel
theorem d_V_tick_5 : decode prog_1_method_11_code 5 = .ok (.invokestatic 31, 3) := by decide +kernel
theorem d_V_tick_8 : decode prog_1_method_11_code 8 = .ok (.invokestatic 35, 3) := by decide +kernel
theorem d_V_tick_11 : decode prog_1_method_11_code 11 = .ok (.aload_n 0, 1) := by decide +kernel
theorem d_V_tick_12 : decode prog_1_method_11_code 12 = .ok (.getfield 26, 3) := by decide +kernel
theorem d_V_tick_15 : decode prog_1_method_11_code 15 = .ok (.getfield 148, 3) := by decide +kernel
theorem d_V_tick_18 : decode prog_1_method_11_code 18 = .ok (.istore_n 2, 1) := by decide +kernel
theorem d_V_tick_19 : decode prog_1_method_11_code 19 = .ok (.iconst 0, 1) := by decide +kernel
theorem d_V_tick_20 : decode prog_1_method_11_code 20 = .ok (.istore_n 3, 1) := by decide +kernel
theorem d_V_tick_21 : decode prog_1_method_11_code 21 = .ok (.iload_n 3, 1) := by decide +kernel
theorem d_V_tick_22 : decode prog_1_method_11_code 22 = .ok (.iload_n 1, 1) := by decide +kernel
theorem d_V_tick_23 : decode prog_1_method_11_code 23 = .ok (.if_icmp .ge 27, 3) := by decide +kernel
theorem d_V_tick_26 : decode prog_1_method_11_code 26 = .ok (.aload_n 0, 1) := by decide +kernel
theorem d_V_tick_27 : decode prog_1_method_11_code 27 = .ok (.dup, 1) := by decide +kernel
theorem d_V_tick_28 : decode prog_1_method_11_code 28 = .ok (.getfield 48, 3) := by decide +kernel
theorem d_V_tick_31 : decode prog_1_method_11_code 31 = .ok (.iconst 1, 1) := by decide +kernel
theorem d_V_tick_32 : decode prog_1_method_11_code 32 = .ok (.iadd, 1) := by decide +kernel
theorem d_V_tick_33 : decode prog_1_method_11_code 33 = .ok (.putfield 48, 3) := by decide +kernel
theorem d_V_tick_36 : decode prog_1_method_11_code 36 = .ok (.aload_n 0, 1) := by decide +kernel
theorem d_V_tick_37 : decode prog_1_method_11_code 37 = .ok (.invokevirtual 151, 3) := by decide +kernel
theorem d_V_tick_40 : decode prog_1_method_11_code 40 = .ok (.aload_n 0, 1) := by decide +kernel
theorem d_V_tick_41 : decode prog_1_method_11_code 41 = .ok (.invokevirtual 154, 3) := by decide +kernel
theorem d_V_tick_44 : decode prog_1_method_11_code 44 = .ok (.iinc 3 1, 3) := by decide +kernel
theorem d_V_tick_47 : decode prog_1_method_11_code 47 = .ok (.goto (-26), 3) := by decide +kernel
theorem d_V_tick_50 : decode prog_1_method_11_code 50 = .ok (.aload_n 0, 1) := by decide +kernel
theorem d_V_tick_51 : decode prog_1_method_11_code 51 = .ok (.getfield 26, 3) := by decide +kernel
theorem d_V_tick_54 : decode prog_1_method_11_code 54 = .ok (.getfield 148, 3) := by decide +kernel
theorem d_V_tick_57 : decode prog_1_method_11_code 57 = .ok (.iload_n 2, 1) := by decide +kernel
theorem d_V_tick_58 : decode prog_1_method_11_code 58 = .ok (.isub, 1) := by decide +kernel
theorem d_V_tick_59 : decode prog_1_method_11_code 59 = .ok (.ireturn, 1) := by decide +kernel
theorem d_V_goThroughVersions_0 : decode prog_1_method_27_code 0 = .ok (.iconst 0, 1) := by decide +kernel
theorem d_V_goThroughVersions_1 : decode prog_1_method_27_code 1 = .ok (.istore_n 1, 1) := by decide +kernel
theorem d_V_goThroughVersions_2 : decode prog_1_method_27_code 2 = .ok (.aload_n 0, 1) := by decide +kernel
theorem d_V_goThroughVersions_3 : decode prog_1_method_27_code 3 = .ok (.getfield 10, 3) := by decide +kernel
theorem d_V_goThroughVersions_6 : decode prog_1_method_27_code 6 = .ok (.invokevirtual 188, 3) := by decide +kernel
theorem d_V_goThroughVersions_9 : decode prog_1_method_27_code 9 = .ok (.istore_n 2, 1) := by decide +kernel
theorem d_V_goThroughVersions_10 : decode prog_1_method_27_code 10 = .ok (.iload_n 2, 1) := by decide +kernel
theorem d_V_goThroughVersions_11 : decode prog_1_method_27_code 11 = .ok (.ifCond .le 70, 3) := by decide +kernel
theorem d_V_goThroughVersions_14 : decode prog_1_method_27_code 14 = .ok (.iload_n 1, 1) := by decide +kernel
theorem d_V_goThroughVersions_15 : decode prog_1_method_27_code 15 = .ok (.aload_n 0, 1) := by decide +kernel
theorem d_V_goThroughVersions_16 : decode prog_1_method_27_code 16 = .ok (.getfield 10, 3) := by decide +kernel
theorem d_V_goThroughVersions_19 : decode prog_1_method_27_code 19 = .ok (.invokevirtual 188, 3) := by decide +kernel
theorem d_V_goThroughVersions_22 : decode prog_1_method_27_code 22 = .ok (.if_icmp .ge 59, 3) := by decide +kernel
theorem d_V_goThroughVersions_25 : decode prog_1_method_27_code 25 = .ok (.aload_n 0, 1) := by decide +kernel
theorem d_V_goThroughVersions_26 : decode prog_1_method_27_code 26 = .ok (.getfield 10, 3) := by decide +kernel
theorem d_V_goThroughVersions_29 : decode prog_1_method_27_code 29 = .ok (.iload_n 1, 1) := by decide +kernel
theorem d_V_goThroughVersions_30 : decode prog_1_method_27_code 30 = .ok (.invokevirtual 205, 3) := by decide +kernel
theorem d_V_goThroughVersions_33 : decode prog_1_method_27_code 33 = .ok (.checkcast 42, 3) := by decide +kernel
theorem d_V_goThroughVersions_36 : decode prog_1_method_27_code 36 = .ok (.astore_n 3, 1) := by decide +kernel
theorem d_V_goThroughVersions_37 : decode prog_1_method_27_code 37 = .ok (.aload_n 3, 1) := by decide +kernel
theorem d_V_goThroughVersions_38 : decode prog_1_method_27_code 38 = .ok (.invokevirtual 214, 3) := by decide +kernel
theorem d_V_goThroughVersions_41 : decode prog_1_method_27_code 41 = .ok (.ifCond .ne 8, 3) := by decide +kernel
theorem d_V_goThroughVersions_44 : decode prog_1_method_27_code 44 = .ok (.aload_n 0, 1) := by decide +kernel
theorem d_V_goThroughVersions_45 : decode prog_1_method_27_code 45 = .ok (.aload_n 3, 1) := by decide +kernel
theorem d_V_goThroughVersions_46 : decode prog_1_method_27_code 46 = .ok (.invokevirtual 233, 3) := by decide +kernel
theorem d_V_goThroughVersions_49 : decode prog_1_method_27_code 49 = .ok (.iload_n 1, 1) := by decide +kernel
theorem d_V_goThroughVersions_50 : decode prog_1_method_27_code 50 = .ok (.aload_n 0, 1) := by decide +kernel
theorem d_V_goThroughVersions_51 : decode prog_1_method_27_code 51 = .ok (.getfield 10, 3) := by decide +kernel
theorem d_V_goThroughVersions_54 : decode prog_1_method_27_code 54 = .ok (.invokevirtual 188, 3) := by decide +kernel
theorem d_V_goThroughVersions_57 : decode prog_1_method_27_code 57 = .ok (.if_icmp .ge 18, 3) := by decide +kernel
theorem d_V_goThroughVersions_60 : decode prog_1_method_27_code 60 = .ok (.aload_n 0, 1) := by decide +kernel
theorem d_V_goThroughVersions_61 : decode prog_1_method_27_code 61 = .ok (.getfield 10, 3) := by decide +kernel
theorem d_V_goThroughVersions_64 : decode prog_1_method_27_code 64 = .ok (.iload_n 1, 1) := by decide +kernel
theorem d_V_goThroughVersions_65 : decode prog_1_method_27_code 65 = .ok (.invokevirtual 205, 3) := by decide +kernel
theorem d_V_goThroughVersions_68 : decode prog_1_method_27_code 68 = .ok (.aload_n 3, 1) := by decide +kernel
theorem d_V_goThroughVersions_69 : decode prog_1_method_27_code 69 = .ok (.if_acmp .ne 6, 3) := by decide +kernel
theorem d_V_goThroughVersions_72 : decode prog_1_method_27_code 72 = .ok (.iinc 1 1, 3) := by decide +kernel
theorem d_V_goThroughVersions_75 : decode prog_1_method_27_code 75 = .ok (.iinc 2 (-1), 3) := by decide +kernel
theorem d_V_goThroughVersions_78 : decode prog_1_method_27_code 78 = .ok (.goto (-68), 3) := by decide +kernel
theorem d_V_goThroughVersions_81 : decode prog_1_method_27_code 81 = .ok (.return_, 1) := by decide +kernel
end
section
theorem d_V_goThroughRules_0 : decode prog_1_method_28_code 0 = .ok (.iconst 0, 1) := by decide +kernel
theorem d_V_goThroughRules_1 : decode prog_1_method_28_code 1 = .ok (.istore_n 2, 1) := by decide +kernel
theorem d_V_goThroughRules_2 : decode prog_1_method_28_code 2 = .ok (.iload_n 2, 1) := by decide +kernel
theorem d_V_goThroughRules_3 : decode prog_1_method_28_code 3 = .ok (.aload_n 0, 1) := by decide +kernel
theorem d_V_goThroughRules_4 : decode prog_1_method_28_code 4 = .ok (.getfield 18, 3) := by decide +kernel
theorem d_V_goThroughRules_7 : decode prog_1_method_28_code 7 = .ok (.arraylength, 1) := by decide +kernel
theorem d_V_goThroughRules_8 : decode prog_1_method_28_code 8 = .ok (.if_icmp .ge 60, 3) := by decide +kernel
theorem d_V_goThroughRules_11 : decode prog_1_method_28_code 11 = .ok (.aload_n 0, 1) := by decide +kernel
theorem d_V_goThroughRules_12 : decode prog_1_method_28_code 12 = .ok (.getfield 18, 3) := by decide +kernel
theorem d_V_goThroughRules_15 : decode prog_1_method_28_code 15 = .ok (.iload_n 2, 1) := by decide +kernel
theorem d_V_goThroughRules_16 : decode prog_1_method_28_code 16 = .ok (.aaload, 1) := by decide +kernel
theorem d_V_goThroughRules_17 : decode prog_1_method_28_code 17 = .ok (.astore_n 3, 1) := by decide +kernel
theorem d_V_goThroughRules_18 : decode prog_1_method_28_code 18 = .ok (.aload_n 3, 1) := by decide +kernel
theorem d_V_goThroughRules_19 : decode prog_1_method_28_code 19 = .ok (.aload_n 1, 1) := by decide +kernel
theorem d_V_goThroughRules_20 : decode prog_1_method_28_code 20 = .ok (.aload_n 0, 1) := by decide +kernel
theorem d_V_goThroughRules_21 : decode prog_1_method_28_code 21 = .ok (.getfield 48, 3) := by decide +kernel
theorem d_V_goThroughRules_24 : decode prog_1_method_28_code 24 = .ok (.invokevirtual 236, 3) := by decide +kernel
theorem d_V_goThroughRules_27 : decode prog_1_method_28_code 27 = .ok (.ifCond .ne 6, 3) := by decide +kernel
theorem d_V_goThroughRules_30 : decode prog_1_method_28_code 30 = .ok (.goto 32, 3) := by decide +kernel
theorem d_V_goThroughRules_33 : decode prog_1_method_28_code 33 = .ok (.aload_n 3, 1) := by decide +kernel
theorem d_V_goThroughRules_34 : decode prog_1_method_28_code 34 = .ok (.getfield 123, 3) := by decide +kernel
theorem d_V_goThroughRules_37 : decode prog_1_method_28_code 37 = .ok (.iconst 4, 1) := by decide +kernel
theorem d_V_goThroughRules_38 : decode prog_1_method_28_code 38 = .ok (.if_icmp .eq 15, 3) := by decide +kernel
theorem d_V_goThroughRules_41 : decode prog_1_method_28_code 41 = .ok (.aload_n 0, 1) := by decide +kernel
theorem d_V_goThroughRules_42 : decode prog_1_method_28_code 42 = .ok (.aload_n 1, 1) := by decide +kernel
theorem d_V_goThroughRules_43 : decode prog_1_method_28_code 43 = .ok (.aload_n 3, 1) := by decide +kernel
theorem d_V_goThroughRules_44 : decode prog_1_method_28_code 44 = .ok (.getfield 123, 3) := by decide +kernel
theorem d_V_goThroughRules_47 : decode prog_1_method_28_code 47 = .ok (.invokevirtual 240, 3) := by decide +kernel
theorem d_V_goThroughRules_50 : decode prog_1_method_28_code 50 = .ok (.goto 12, 3) := by decide +kernel
theorem d_V_goThroughRules_53 : decode prog_1_method_28_code 53 = .ok (.aload_n 0, 1) := by decide +kernel
theorem d_V_goThroughRules_54 : decode prog_1_method_28_code 54 = .ok (.aload_n 1, 1) := by decide +kernel
theorem d_V_goThroughRules_55 : decode prog_1_method_28_code 55 = .ok (.invokevirtual 244, 3) := by decide +kernel
theorem d_V_goThroughRules_58 : decode prog_1_method_28_code 58 = .ok (.ifCond .eq 4, 3) := by decide +kernel
theorem d_V_goThroughRules_61 : decode prog_1_method_28_code 61 = .ok (.return_, 1) := by decide +kernel
theorem d_V_goThroughRules_62 : decode prog_1_method_28_code 62 = .ok (.iinc 2 1, 3) := by decide +kernel
theorem d_V_goThroughRules_65 : decode prog_1_method_28_code 65 = .ok (.goto (-63), 3) := by decide +kernel
theorem d_V_goThroughRules_68 : decode prog_1_method_28_code 68 = .ok (.return_, 1) := by decide +kernel
theorem d_U_isDue_0 : decode prog_3_method_4_code 0 = .ok (.aload_n 0, 1) := by decide +kernel
theorem d_U_isDue_1 : decode prog_3_method_4_code 1 = .ok (.invokevirtual 25, 3) := by decide +kernel
theorem d_U_isDue_4 : decode prog_3_method_4_code 4 = .ok (.ifCond .ne 50, 3) := by decide +kernel
theorem d_U_isDue_7 : decode prog_3_method_4_code 7 = .ok (.aload_n 0, 1) := by decide +kernel
theorem d_U_isDue_8 : decode prog_3_method_4_code 8 = .ok (.getfield 9, 3) := by decide +kernel
theorem d_U_isDue_11 : decode prog_3_method_4_code 11 = .ok (.iconst (-1), 1) := by decide +kernel
theorem d_U_isDue_12 : decode prog_3_method_4_code 12 = .ok (.if_icmp .eq 14, 3) := by decide +kernel
theorem d_U_isDue_15 : decode prog_3_method_4_code 15 = .ok (.aload_n 0, 1) := by decide +kernel
theorem d_U_isDue_16 : decode prog_3_method_4_code 16 = .ok (.getfield 9, 3) := by decide +kernel
theorem d_U_isDue_19 : decode prog_3_method_4_code 19 = .ok (.aload_n 1, 1) := by decide +kernel
theorem d_U_isDue_20 : decode prog_3_method_4_code 20 = .ok (.getfield 29, 3) := by decide +kernel
theorem d_U_isDue_23 : decode prog_3_method_4_code 23 = .ok (.if_icmp .ne 31, 3) := by decide +kernel
theorem d_U_isDue_26 : decode prog_3_method_4_code 26 = .ok (.aload_n 0, 1) := by decide +kernel
theorem d_U_isDue_27 : decode prog_3_method_4_code 27 = .ok (.getfield 15, 3) := by decide +kernel
theorem d_U_isDue_30 : decode prog_3_method_4_code 30 = .ok (.aload_n 1, 1) := by decide +kernel
theorem d_U_isDue_31 : decode prog_3_method_4_code 31 = .ok (.getfield 32, 3) := by decide +kernel
theorem d_U_isDue_34 : decode prog_3_method_4_code 34 = .ok (.if_icmp .ne 20, 3) := by decide +kernel
theorem d_U_isDue_37 : decode prog_3_method_4_code 37 = .ok (.iload_n 2, 1) := by decide +kernel
theorem d_U_isDue_38 : decode prog_3_method_4_code 38 = .ok (.aload_n 1, 1) := by decide +kernel
theorem d_U_isDue_39 : decode prog_3_method_4_code 39 = .ok (.invokevirtual 35, 3) := by decide +kernel
theorem d_U_isDue_42 : decode prog_3_method_4_code 42 = .ok (.aload_n 0, 1) := by decide +kernel
theorem d_U_isDue_43 : decode prog_3_method_4_code 43 = .ok (.getfield 19, 3) := by decide +kernel
theorem d_U_isDue_46 : decode prog_3_method_4_code 46 = .ok (.iadd, 1) := by decide +kernel
theorem d_U_isDue_47 : decode prog_3_method_4_code 47 = .ok (.if_icmp .lt 7, 3) := by decide +kernel
theorem d_U_isDue_50 : decode prog_3_method_4_code 50 = .ok (.iconst 1, 1) := by decide +kernel
theorem d_U_isDue_51 : decode prog_3_method_4_code 51 = .ok (.goto 4, 3) := by decide +kernel
theorem d_U_isDue_54 : decode prog_3_method_4_code 54 = .ok (.iconst 0, 1) := by decide +kernel
theorem d_U_isDue_55 : decode prog_3_method_4_code 55 = .ok (.ireturn, 1) := by decide +kernel
theorem d_N_since_0 : decode prog_4_method_5_code 0 = .ok (.aload_n 0, 1) := by decide +kernel
theorem d_N_since_1 : decode prog_4_method_5_code 1 = .ok (.getfield 24, 3) := by decide +kernel
theorem d_N_since_4 : decode prog_4_method_5_code 4 = .ok (.ifCond .eq 10, 3) := by decide +kernel
theorem d_N_since_7 : decode prog_4_method_5_code 7 = .ok (.aload_n 0, 1) := by decide +kernel
theorem d_N_since_8 : decode prog_4_method_5_code 8 = .ok (.getfield 18, 3) := by decide +kernel
theorem d_N_since_11 : decode prog_4_method_5_code 11 = .ok (.goto 7, 3) := by decide +kernel
theorem d_N_since_14 : decode prog_4_method_5_code 14 = .ok (.aload_n 0, 1) := by decide +kernel
theorem d_N_since_15 : decode prog_4_method_5_code 15 = .ok (.getfield 34, 3) := by decide +kernel
theorem d_N_since_18 : decode prog_4_method_5_code 18 = .ok (.ireturn, 1) := by decide +kernel
theorem d_V_cool_0 : decode prog_1_method_29_code 0 = .ok (.iload_n 2, 1) := by decide +kernel
theorem d_V_cool_1 : decode prog_1_method_29_code 1 = .ok (.aload_n 1, 1) := by decide +kernel
theorem d_V_cool_2 : decode prog_1_method_29_code 2 = .ok (.getfield 131, 3) := by decide +kernel
theorem d_V_cool_5 : decode prog_1_method_29_code 5 = .ok (.if_icmp .le 25, 3) := by decide +kernel
theorem d_V_cool_8 : decode prog_1_method_29_code 8 = .ok (.aload_n 1, 1) := by decide +kernel
theorem d_V_cool_9 : decode prog_1_method_29_code 9 = .ok (.iload_n 2, 1) := by decide +kernel
theorem d_V_cool_10 : decode prog_1_method_29_code 10 = .ok (.putfield 131, 3) := by decide +kernel
theorem d_V_cool_13 : decode prog_1_method_29_code 13 = .ok (.aload_n 0, 1) := by decide +kernel
theorem d_V_cool_14 : decode prog_1_method_29_code 14 = .ok (.getfield 26, 3) := by decide +kernel
theorem d_V_cool_17 : decode prog_1_method_29_code 17 = .ok (.aload_n 0, 1) := by decide +kernel
theorem d_V_cool_18 : decode prog_1_method_29_code 18 = .ok (.getfield 48, 3) := by decide +kernel
theorem d_V_cool_21 : decode prog_1_method_29_code 21 = .ok (.iconst 4, 1) := by decide +kernel
theorem d_V_cool_22 : decode prog_1_method_29_code 22 = .ok (.aload_n 1, 1) := by decide +kernel
theorem d_V_cool_23 : decode prog_1_method_29_code 23 = .ok (.getfield 106, 3) := by decide +kernel
theorem d_V_cool_26 : decode prog_1_method_29_code 26 = .ok (.iload_n 2, 1) := by decide +kernel
theorem d_V_cool_27 : decode prog_1_method_29_code 27 = .ok (.invokevirtual 109, 3) := by decide +kernel
theorem d_V_cool_30 : decode prog_1_method_29_code 30 = .ok (.return_, 1) := by decide +kernel
theorem d_V_expire_0 : decode prog_1_method_30_code 0 = .ok (.aload_n 1, 1) := by decide +kernel
theorem d_V_expire_1 : decode prog_1_method_30_code 1 = .ok (.getfield 161, 3) := by decide +kernel
theorem d_V_expire_4 : decode prog_1_method_30_code 4 = .ok (.ifCond .eq 13, 3) := by decide +kernel
theorem d_V_expire_7 : decode prog_1_method_30_code 7 = .ok (.aload_n 0, 1) := by decide +kernel
theorem d_V_expire_8 : decode prog_1_method_30_code 8 = .ok (.invokevirtual 200, 3) := by decide +kernel
theorem d_V_expire_11 : decode prog_1_method_30_code 11 = .ok (.ifCond .eq 19, 3) := by decide +kernel
theorem d_V_expire_14 : decode prog_1_method_30_code 14 = .ok (.goto 14, 3) := by decide +kernel
theorem d_V_expire_17 : decode prog_1_method_30_code 17 = .ok (.aload_n 1, 1) := by decide +kernel
theorem d_V_expire_18 : decode prog_1_method_30_code 18 = .ok (.aload_n 0, 1) := by decide +kernel
theorem d_V_expire_19 : decode prog_1_method_30_code 19 = .ok (.getfield 48, 3) := by decide +kernel
theorem d_V_expire_22 : decode prog_1_method_30_code 22 = .ok (.invokevirtual 164, 3) := by decide +kernel
theorem d_V_expire_25 : decode prog_1_method_30_code 25 = .ok (.ifCond .eq 5, 3) := by decide +kernel
theorem d_V_expire_28 : decode prog_1_method_30_code 28 = .ok (.iconst 0, 1) := by decide +kernel
theorem d_V_expire_29 : decode prog_1_method_30_code 29 = .ok (.ireturn, 1) := by decide +kernel
theorem d_V_expire_30 : decode prog_1_method_30_code 30 = .ok (.aload_n 1, 1) := by decide +kernel
theorem d_V_expire_31 : decode prog_1_method_30_code 31 = .ok (.getfield 161, 3) := by decide +kernel
theorem d_V_expire_34 : decode prog_1_method_30_code 34 = .ok (.ifCond .eq 30, 3) := by decide +kernel
theorem d_V_expire_37 : decode prog_1_method_30_code 37 = .ok (.aload_n 0, 1) := by decide +kernel
theorem d_V_expire_38 : decode prog_1_method_30_code 38 = .ok (.new 42, 3) := by decide +kernel
theorem d_V_expire_41 : decode prog_1_method_30_code 41 = .ok (.dup, 1) := by decide +kernel
theorem d_V_expire_42 : decode prog_1_method_30_code 42 = .ok (.aload_n 0, 1) := by decide +kernel
theorem d_V_expire_43 : decode prog_1_method_30_code 43 = .ok (.getfield 44, 3) := by decide +kernel
theorem d_V_expire_46 : decode prog_1_method_30_code 46 = .ok (.aload_n 1, 1) := by decide +kernel
theorem d_V_expire_47 : decode prog_1_method_30_code 47 = .ok (.getfield 91, 3) := by decide +kernel
theorem d_V_expire_50 : decode prog_1_method_30_code 50 = .ok (.aload_n 0, 1) := by decide +kernel
theorem d_V_expire_51 : decode prog_1_method_30_code 51 = .ok (.getfield 48, 3) := by decide +kernel
theorem d_V_expire_54 : decode prog_1_method_30_code 54 = .ok (.invokespecial 51, 3) := by decide +kernel
theorem d_V_expire_57 : decode prog_1_method_30_code 57 = .ok (.invokevirtual 58, 3) := by decide +kernel
theorem d_V_expire_60 : decode prog_1_method_30_code 60 = .ok (.pop, 1) := by decide +kernel
theorem d_V_expire_61 : decode prog_1_method_30_code 61 = .ok (.goto 8, 3) := by decide +kernel
theorem d_V_expire_64 : decode prog_1_method_30_code 64 = .ok (.aload_n 0, 1) := by decide +kernel
theorem d_V_expire_65 : decode prog_1_method_30_code 65 = .ok (.aload_n 1, 1) := by decide +kernel
theorem d_V_expire_66 : decode prog_1_method_30_code 66 = .ok (.invokevirtual 87, 3) := by decide +kernel
theorem d_V_expire_69 : decode prog_1_method_30_code 69 = .ok (.iconst 1, 1) := by decide +kernel
theorem d_V_expire_70 : decode prog_1_method_30_code 70 = .ok (.ireturn, 1) := by decide +kernel
theorem d_N_isGuarded_0 : decode prog_4_method_9_code 0 = .ok (.aload_n 0, 1) := by decide +kernel
theorem d_N_isGuarded_1 : decode prog_4_method_9_code 1 = .ok (.invokevirtual 50, 3) := by decide +kernel
theorem d_N_isGuarded_4 : decode prog_4_method_9_code 4 = .ok (.ifCond .ne 11, 3) := by decide +kernel
theorem d_N_isGuarded_7 : decode prog_4_method_9_code 7 = .ok (.aload_n 0, 1) := by decide +kernel
theorem d_N_isGuarded_8 : decode prog_4_method_9_code 8 = .ok (.iload_n 1, 1) := by decide +kernel
theorem d_N_isGuarded_9 : decode prog_4_method_9_code 9 = .ok (.invokevirtual 46, 3) := by decide +kernel
theorem d_N_isGuarded_12 : decode prog_4_method_9_code 12 = .ok (.ifCond .eq 7, 3) := by decide +kernel
theorem d_N_isGuarded_15 : decode prog_4_method_9_code 15 = .ok (.iconst 1, 1) := by decide +kernel
theorem d_N_isGuarded_16 : decode prog_4_method_9_code 16 = .ok (.goto 4, 3) := by decide +kernel
theorem d_N_isGuarded_19 : decode prog_4_method_9_code 19 = .ok (.iconst 0, 1) := by decide +kernel
theorem d_N_isGuarded_20 : decode prog_4_method_9_code 20 = .ok (.ireturn, 1) := by decide +kernel
theorem d_V_takeLoneMarkersAway_0 : decode prog_1_method_31_code 0 = .ok (.iconst 0, 1) := by decide +kernel
theorem d_V_takeLoneMarkersAway_1 : decode prog_1_method_31_code 1 = .ok (.istore_n 1, 1) := by decide +kernel
theorem d_V_takeLoneMarkersAway_2 : decode prog_1_method_31_code 2 = .ok (.aload_n 0, 1) := by decide +kernel
theorem d_V_takeLoneMarkersAway_3 : decode prog_1_method_31_code 3 = .ok (.getfield 10, 3) := by decide +kernel
theorem d_V_takeLoneMarkersAway_6 : decode prog_1_method_31_code 6 = .ok (.invokevirtual 188, 3) := by decide +kernel
theorem d_V_takeLoneMarkersAway_9 : decode prog_1_method_31_code 9 = .ok (.istore_n 2, 1) := by decide +kernel
theorem d_V_takeLoneMarkersAway_10 : decode prog_1_method_31_code 10 = .ok (.iload_n 2, 1) := by decide +kernel
theorem d_V_takeLoneMarkersAway_11 : decode prog_1_method_31_code 11 = .ok (.ifCond .le 58, 3) := by decide +kernel
theorem d_V_takeLoneMarkersAway_14 : decode prog_1_method_31_code 14 = .ok (.iload_n 1, 1) := by decide +kernel
theorem d_V_takeLoneMarkersAway_15 : decode prog_1_method_31_code 15 = .ok (.aload_n 0, 1) := by decide +kernel
theorem d_V_takeLoneMarkersAway_16 : decode prog_1_method_31_code 16 = .ok (.getfield 10, 3) := by decide +kernel
theorem d_V_takeLoneMarkersAway_19 : decode prog_1_method_31_code 19 = .ok (.invokevirtual 188, 3) := by decide +kernel
theorem d_V_takeLoneMarkersAway_22 : decode prog_1_method_31_code 22 = .ok (.if_icmp .ge 47, 3) := by decide +kernel
theorem d_V_takeLoneMarkersAway_25 : decode prog_1_method_31_code 25 = .ok (.aload_n 0, 1) := by decide +kernel
theorem d_V_takeLoneMarkersAway_26 : decode prog_1_method_31_code 26 = .ok (.getfield 10, 3) := by decide +kernel
theorem d_V_takeLoneMarkersAway_29 : decode prog_1_method_31_code 29 = .ok (.iload_n 1, 1) := by decide +kernel
theorem d_V_takeLoneMarkersAway_30 : decode prog_1_method_31_code 30 = .ok (.invokevirtual 205, 3) := by decide +kernel
theorem d_V_takeLoneMarkersAway_33 : decode prog_1_method_31_code 33 = .ok (.checkcast 42, 3) := by decide +kernel
theorem d_V_takeLoneMarkersAway_36 : decode prog_1_method_31_code 36 = .ok (.astore_n 3, 1) := by decide +kernel
theorem d_V_takeLoneMarkersAway_37 : decode prog_1_method_31_code 37 = .ok (.aload_n 3, 1) := by decide +kernel
theorem d_V_takeLoneMarkersAway_38 : decode prog_1_method_31_code 38 = .ok (.invokevirtual 214, 3) := by decide +kernel
theorem d_V_takeLoneMarkersAway_41 : decode prog_1_method_31_code 41 = .ok (.ifCond .eq 19, 3) := by decide +kernel
theorem d_V_takeLoneMarkersAway_44 : decode prog_1_method_31_code 44 = .ok (.aload_n 0, 1) := by decide +kernel
theorem d_V_takeLoneMarkersAway_45 : decode prog_1_method_31_code 45 = .ok (.aload_n 3, 1) := by decide +kernel
theorem d_V_takeLoneMarkersAway_46 : decode prog_1_method_31_code 46 = .ok (.invokevirtual 248, 3) := by decide +kernel
theorem d_V_takeLoneMarkersAway_49 : decode prog_1_method_31_code 49 = .ok (.ifCond .eq 11, 3) := by decide +kernel
theorem d_V_takeLoneMarkersAway_52 : decode prog_1_method_31_code 52 = .ok (.aload_n 0, 1) := by decide +kernel
theorem d_V_takeLoneMarkersAway_53 : decode prog_1_method_31_code 53 = .ok (.aload_n 3, 1) := by decide +kernel
theorem d_V_takeLoneMarkersAway_54 : decode prog_1_method_31_code 54 = .ok (.invokevirtual 87, 3) := by decide +kernel
theorem d_V_takeLoneMarkersAway_57 : decode prog_1_method_31_code 57 = .ok (.goto 6, 3) := by decide +kernel
theorem d_V_takeLoneMarkersAway_60 : decode prog_1_method_31_code 60 = .ok (.iinc 1 1, 3) := by decide +kernel
theorem d_V_takeLoneMarkersAway_63 : decode prog_1_method_31_code 63 = .ok (.iinc 2 (-1), 3) := by decide +kernel
theorem d_V_takeLoneMarkersAway_66 : decode prog_1_method_31_code 66 = .ok (.goto (-56), 3) := by decide +kernel
theorem d_V_takeLoneMarkersAway_69 : decode prog_1_method_31_code 69 = .ok (.return_, 1) := by decide +kernel
theorem d_V_isAlone_0 : decode prog_1_method_32_code 0 = .ok (.iconst 0, 1) := by decide +kernel
theorem d_V_isAlone_1 : decode prog_1_method_32_code 1 = .ok (.istore_n 2, 1) := by decide +kernel
theorem d_V_isAlone_2 : decode prog_1_method_32_code 2 = .ok (.iload_n 2, 1) := by decide +kernel
theorem d_V_isAlone_3 : decode prog_1_method_32_code 3 = .ok (.aload_n 0, 1) := by decide +kernel
theorem d_V_isAlone_4 : decode prog_1_method_32_code 4 = .ok (.getfield 10, 3) := by decide +kernel
theorem d_V_isAlone_7 : decode prog_1_method_32_code 7 = .ok (.invokevirtual 188, 3) := by decide +kernel
theorem d_V_isAlone_10 : decode prog_1_method_32_code 10 = .ok (.if_icmp .ge 39, 3) := by decide +kernel
theorem d_V_isAlone_13 : decode prog_1_method_32_code 13 = .ok (.aload_n 0, 1) := by decide +kernel
theorem d_V_isAlone_14 : decode prog_1_method_32_code 14 = .ok (.getfield 10, 3) := by decide +kernel
theorem d_V_isAlone_17 : decode prog_1_method_32_code 17 = .ok (.iload_n 2, 1) := by decide +kernel
theorem d_V_isAlone_18 : decode prog_1_method_32_code 18 = .ok (.invokevirtual 205, 3) := by decide +kernel
theorem d_V_isAlone_21 : decode prog_1_method_32_code 21 = .ok (.checkcast 42, 3) := by decide +kernel
theorem d_V_isAlone_24 : decode prog_1_method_32_code 24 = .ok (.astore_n 3, 1) := by decide +kernel
theorem d_V_isAlone_25 : decode prog_1_method_32_code 25 = .ok (.aload_n 3, 1) := by decide +kernel
theorem d_V_isAlone_26 : decode prog_1_method_32_code 26 = .ok (.aload_n 1, 1) := by decide +kernel
theorem d_V_isAlone_27 : decode prog_1_method_32_code 27 = .ok (.if_acmp .eq 16, 3) := by decide +kernel
theorem d_V_isAlone_30 : decode prog_1_method_32_code 30 = .ok (.aload_n 3, 1) := by decide +kernel
theorem d_V_isAlone_31 : decode prog_1_method_32_code 31 = .ok (.getfield 91, 3) := by decide +kernel
theorem d_V_isAlone_34 : decode prog_1_method_32_code 34 = .ok (.aload_n 1, 1) := by decide +kernel
theorem d_V_isAlone_35 : decode prog_1_method_32_code 35 = .ok (.getfield 91, 3) := by decide +kernel
theorem d_V_isAlone_38 : decode prog_1_method_32_code 38 = .ok (.if_icmp .ne 5, 3) := by decide +kernel
theorem d_V_isAlone_41 : decode prog_1_method_32_code 41 = .ok (.iconst 0, 1) := by decide +kernel
theorem d_V_isAlone_42 : decode prog_1_method_32_code 42 = .ok (.ireturn, 1) := by decide +kernel
theorem d_V_isAlone_43 : decode prog_1_method_32_code 43 = .ok (.iinc 2 1, 3) := by decide +kernel
theorem d_V_isAlone_46 : decode prog_1_method_32_code 46 = .ok (.goto (-44), 3) := by decide +kernel
theorem d_V_isAlone_49 : decode prog_1_method_32_code 49 = .ok (.iconst 1, 1) := by decide +kernel
theorem d_V_isAlone_50 : decode prog_1_method_32_code 50 = .ok (.ireturn, 1) := by decide +kernel
theorem d_W_current_0 : decode method_13_code 0 = .ok (.aload_n 2, 1) := by decide +kernel
theorem d_W_current_1 : decode method_13_code 1 = .ok (.iconst 0, 1) := by decide +kernel
theorem d_W_current_2 : decode method_13_code 2 = .ok (.aload_n 0, 1) := by decide +kernel
theorem d_W_current_3 : decode method_13_code 3 = .ok (.iload_n 1, 1) := by decide +kernel
theorem d_W_current_4 : decode method_13_code 4 = .ok (.invokevirtual 53, 3) := by decide +kernel
theorem d_W_current_7 : decode method_13_code 7 = .ok (.i2l, 1) := by decide +kernel
theorem d_W_current_8 : decode method_13_code 8 = .ok (.lastore, 1) := by decide +kernel
theorem d_W_current_9 : decode method_13_code 9 = .ok (.goto 6, 3) := by decide +kernel
theorem d_W_current_12 : decode method_13_code 12 = .ok (.astore_n 3, 1) := by decide +kernel
theorem d_W_current_13 : decode method_13_code 13 = .ok (.iconst 1, 1) := by decide +kernel
theorem d_W_current_14 : decode method_13_code 14 = .ok (.ireturn, 1) := by decide +kernel
theorem d_W_current_15 : decode method_13_code 15 = .ok (.iconst 0, 1) := by decide +kernel
theorem d_W_current_16 : decode method_13_code 16 = .ok (.ireturn, 1) := by decide +kernel
theorem d_V_current_0 : decode prog_1_method_12_code 0 = .ok (.aload_n 0, 1) := by decide +kernel
theorem d_V_current_1 : decode prog_1_method_12_code 1 = .ok (.iload_n 1, 1) := by decide +kernel
theorem d_V_current_2 : decode prog_1_method_12_code 2 = .ok (.invokevirtual 62, 3) := by decide +kernel
theorem d_V_current_5 : decode prog_1_method_12_code 5 = .ok (.getfield 106, 3) := by decide +kernel
theorem d_V_current_8 : decode prog_1_method_12_code 8 = .ok (.ireturn, 1) := by decide +kernel
theorem d_W_about_0 : decode method_14_code 0 = .ok (.aload_n 3, 1) := by decide +kernel
theorem d_W_about_1 : decode method_14_code 1 = .ok (.iconst 0, 1) := by decide +kernel
theorem d_W_about_2 : decode method_14_code 2 = .ok (.aload_n 0, 1) := by decide +kernel
theorem d_W_about_3 : decode method_14_code 3 = .ok (.iload_n 1, 1) := by decide +kernel
theorem d_W_about_4 : decode method_14_code 4 = .ok (.iload_n 2, 1) := by decide +kernel
theorem d_W_about_5 : decode method_14_code 5 = .ok (.invokevirtual 56, 3) := by decide +kernel
theorem d_W_about_8 : decode method_14_code 8 = .ok (.i2l, 1) := by decide +kernel
theorem d_W_about_9 : decode method_14_code 9 = .ok (.lastore, 1) := by decide +kernel
theorem d_W_about_10 : decode method_14_code 10 = .ok (.goto 11, 3) := by decide +kernel
theorem d_W_about_13 : decode method_14_code 13 = .ok (.astore 4, 2) := by decide +kernel
theorem d_W_about_15 : decode method_14_code 15 = .ok (.iconst 1, 1) := by decide +kernel
theorem d_W_about_16 : decode method_14_code 16 = .ok (.ireturn, 1) := by decide +kernel
theorem d_W_about_17 : decode method_14_code 17 = .ok (.astore 4, 2) := by decide +kernel
theorem d_W_about_19 : decode method_14_code 19 = .ok (.iconst 2, 1) := by decide +kernel
theorem d_W_about_20 : decode method_14_code 20 = .ok (.ireturn, 1) := by decide +kernel
theorem d_W_about_21 : decode method_14_code 21 = .ok (.iconst 0, 1) := by decide +kernel
theorem d_W_about_22 : decode method_14_code 22 = .ok (.ireturn, 1) := by decide +kernel
theorem d_V_about_0 : decode prog_1_method_13_code 0 = .ok (.aload_n 0, 1) := by decide +kernel
theorem d_V_about_1 : decode prog_1_method_13_code 1 = .ok (.iload_n 1, 1) := by decide +kernel
theorem d_V_about_2 : decode prog_1_method_13_code 2 = .ok (.invokevirtual 66, 3) := by decide +kernel
theorem d_V_about_5 : decode prog_1_method_13_code 5 = .ok (.astore_n 3, 1) := by decide +kernel
theorem d_V_about_6 : decode prog_1_method_13_code 6 = .ok (.iload_n 2, 1) := by decide +kernel
theorem d_V_about_7 : decode prog_1_method_13_code 7 = .ok (.tableswitch 105 0 7 #[45, 50, 55, 60, 65, 78, 83, 88], 45) := by decide +kernel
theorem d_V_about_52 : decode prog_1_method_13_code 52 = .ok (.aload_n 3, 1) := by decide +kernel
theorem d_V_about_53 : decode prog_1_method_13_code 53 = .ok (.getfield 91, 3) := by decide +kernel
theorem d_V_about_56 : decode prog_1_method_13_code 56 = .ok (.ireturn, 1) := by decide +kernel
theorem d_V_about_57 : decode prog_1_method_13_code 57 = .ok (.aload_n 3, 1) := by decide +kernel
theorem d_V_about_58 : decode prog_1_method_13_code 58 = .ok (.getfield 145, 3) := by decide +kernel
theorem d_V_about_61 : decode prog_1_method_13_code 61 = .ok (.ireturn, 1) := by decide +kernel
theorem d_V_about_62 : decode prog_1_method_13_code 62 = .ok (.aload_n 3, 1) := by decide +kernel
theorem d_V_about_63 : decode prog_1_method_13_code 63 = .ok (.getfield 131, 3) := by decide +kernel
theorem d_V_about_66 : decode prog_1_method_13_code 66 = .ok (.ireturn, 1) := by decide +kernel
theorem d_V_about_67 : decode prog_1_method_13_code 67 = .ok (.aload_n 3, 1) := by decide +kernel
theorem d_V_about_68 : decode prog_1_method_13_code 68 = .ok (.invokevirtual 157, 3) := by decide +kernel
theorem d_V_about_71 : decode prog_1_method_13_code 71 = .ok (.ireturn, 1) := by decide +kernel
theorem d_V_about_72 : decode prog_1_method_13_code 72 = .ok (.aload_n 3, 1) := by decide +kernel
theorem d_V_about_73 : decode prog_1_method_13_code 73 = .ok (.getfield 161, 3) := by decide +kernel
theorem d_V_about_76 : decode prog_1_method_13_code 76 = .ok (.ifCond .eq 7, 3) := by decide +kernel
theorem d_V_about_79 : decode prog_1_method_13_code 79 = .ok (.iconst 1, 1) := by decide +kernel
theorem d_V_about_80 : decode prog_1_method_13_code 80 = .ok (.goto 4, 3) := by decide +kernel
theorem d_V_about_83 : decode prog_1_method_13_code 83 = .ok (.iconst 0, 1) := by decide +kernel
theorem d_V_about_84 : decode prog_1_method_13_code 84 = .ok (.ireturn, 1) := by decide +kernel
theorem d_V_about_85 : decode prog_1_method_13_code 85 = .ok (.aload_n 3, 1) := by decide +kernel
theorem d_V_about_86 : decode prog_1_method_13_code 86 = .ok (.getfield 97, 3) := by decide +kernel
theorem d_V_about_89 : decode prog_1_method_13_code 89 = .ok (.ireturn, 1) := by decide +kernel
theorem d_V_about_90 : decode prog_1_method_13_code 90 = .ok (.aload_n 3, 1) := by decide +kernel
theorem d_V_about_91 : decode prog_1_method_13_code 91 = .ok (.getfield 113, 3) := by decide +kernel
theorem d_V_about_94 : decode prog_1_method_13_code 94 = .ok (.ireturn, 1) := by decide +kernel
theorem d_V_about_95 : decode prog_1_method_13_code 95 = .ok (.aload_n 3, 1) := by decide +kernel
theorem d_V_about_96 : decode prog_1_method_13_code 96 = .ok (.aload_n 0, 1) := by decide +kernel
theorem d_V_about_97 : decode prog_1_method_13_code 97 = .ok (.getfield 48, 3) := by decide +kernel
theorem d_V_about_100 : decode prog_1_method_13_code 100 = .ok (.invokevirtual 164, 3) := by decide +kernel
theorem d_V_about_103 : decode prog_1_method_13_code 103 = .ok (.ifCond .eq 7, 3) := by decide +kernel
theorem d_V_about_106 : decode prog_1_method_13_code 106 = .ok (.iconst 1, 1) := by decide +kernel
theorem d_V_about_107 : decode prog_1_method_13_code 107 = .ok (.goto 4, 3) := by decide +kernel
theorem d_V_about_110 : decode prog_1_method_13_code 110 = .ok (.iconst 0, 1) := by decide +kernel
theorem d_V_about_111 : decode prog_1_method_13_code 111 = .ok (.ireturn, 1) := by decide +kernel
theorem d_V_about_112 : decode prog_1_method_13_code 112 = .ok (.new 167, 3) := by decide +kernel
theorem d_V_about_115 : decode prog_1_method_13_code 115 = .ok (.dup, 1) := by decide +kernel
theorem d_V_about_116 : decode prog_1_method_13_code 116 = .ok (.ldc 169, 2) := by decide +kernel
theorem d_V_about_118 : decode prog_1_method_13_code 118 = .ok (.invokespecial 171, 3) := by decide +kernel
theorem d_V_about_121 : decode prog_1_method_13_code 121 = .ok (.athrow, 1) := by decide +kernel
theorem d_W_entry_0 : decode method_15_code 0 = .ok (.aload_n 3, 1) := by decide +kernel
theorem d_W_entry_1 : decode method_15_code 1 = .ok (.iconst 0, 1) := by decide +kernel
theorem d_W_entry_2 : decode method_15_code 2 = .ok (.aload_n 0, 1) := by decide +kernel
theorem d_W_entry_3 : decode method_15_code 3 = .ok (.iload_n 1, 1) := by decide +kernel
theorem d_W_entry_4 : decode method_15_code 4 = .ok (.iload_n 2, 1) := by decide +kernel
theorem d_W_entry_5 : decode method_15_code 5 = .ok (.invokevirtual 59, 3) := by decide +kernel
theorem d_W_entry_8 : decode method_15_code 8 = .ok (.i2l, 1) := by decide +kernel
theorem d_W_entry_9 : decode method_15_code 9 = .ok (.lastore, 1) := by decide +kernel
theorem d_W_entry_10 : decode method_15_code 10 = .ok (.goto 11, 3) := by decide +kernel
theorem d_W_entry_13 : decode method_15_code 13 = .ok (.astore 4, 2) := by decide +kernel
theorem d_W_entry_15 : decode method_15_code 15 = .ok (.iconst 1, 1) := by decide +kernel
theorem d_W_entry_16 : decode method_15_code 16 = .ok (.ireturn, 1) := by decide +kernel
theorem d_W_entry_17 : decode method_15_code 17 = .ok (.astore 4, 2) := by decide +kernel
theorem d_W_entry_19 : decode method_15_code 19 = .ok (.iconst 2, 1) := by decide +kernel
theorem d_W_entry_20 : decode method_15_code 20 = .ok (.ireturn, 1) := by decide +kernel
theorem d_W_entry_21 : decode method_15_code 21 = .ok (.iconst 0, 1) := by decide +kernel
theorem d_W_entry_22 : decode method_15_code 22 = .ok (.ireturn, 1) := by decide +kernel
theorem d_V_entry_0 : decode prog_1_method_14_code 0 = .ok (.iload_n 2, 1) := by decide +kernel
theorem d_V_entry_1 : decode prog_1_method_14_code 1 = .ok (.iconst 0, 1) := by decide +kernel
theorem d_V_entry_2 : decode prog_1_method_14_code 2 = .ok (.iconst 3, 1) := by decide +kernel
theorem d_V_entry_3 : decode prog_1_method_14_code 3 = .ok (.invokestatic 31, 3) := by decide +kernel
theorem d_V_entry_6 : decode prog_1_method_14_code 6 = .ok (.invokestatic 35, 3) := by decide +kernel
theorem d_V_entry_9 : decode prog_1_method_14_code 9 = .ok (.aload_n 0, 1) := by decide +kernel
theorem d_V_entry_10 : decode prog_1_method_14_code 10 = .ok (.getfield 26, 3) := by decide +kernel
theorem d_V_entry_13 : decode prog_1_method_14_code 13 = .ok (.iload_n 1, 1) := by decide +kernel
theorem d_V_entry_14 : decode prog_1_method_14_code 14 = .ok (.invokevirtual 172, 3) := by decide +kernel
theorem d_V_entry_17 : decode prog_1_method_14_code 17 = .ok (.ifCond .ne 13, 3) := by decide +kernel
theorem d_V_entry_20 : decode prog_1_method_14_code 20 = .ok (.new 175, 3) := by decide +kernel
theorem d_V_entry_23 : decode prog_1_method_14_code 23 = .ok (.dup, 1) := by decide +kernel
theorem d_V_entry_24 : decode prog_1_method_14_code 24 = .ok (.ldc 177, 2) := by decide +kernel
theorem d_V_entry_26 : decode prog_1_method_14_code 26 = .ok (.invokespecial 179, 3) := by decide +kernel
theorem d_V_entry_29 : decode prog_1_method_14_code 29 = .ok (.athrow, 1) := by decide +kernel
theorem d_V_entry_30 : decode prog_1_method_14_code 30 = .ok (.aload_n 0, 1) := by decide +kernel
theorem d_V_entry_31 : decode prog_1_method_14_code 31 = .ok (.getfield 26, 3) := by decide +kernel
theorem d_V_entry_34 : decode prog_1_method_14_code 34 = .ok (.iload_n 1, 1) := by decide +kernel
theorem d_V_entry_35 : decode prog_1_method_14_code 35 = .ok (.iload_n 2, 1) := by decide +kernel
theorem d_V_entry_36 : decode prog_1_method_14_code 36 = .ok (.invokevirtual 180, 3) := by decide +kernel
theorem d_V_entry_39 : decode prog_1_method_14_code 39 = .ok (.ireturn, 1) := by decide +kernel
theorem d_G_keeps_0 : decode prog_2_method_3_code 0 = .ok (.iconst 0, 1) := by decide +kernel
theorem d_G_keeps_1 : decode prog_2_method_3_code 1 = .ok (.iload_n 1, 1) := by decide +kernel
theorem d_G_keeps_2 : decode prog_2_method_3_code 2 = .ok (.if_icmp .gt 21, 3) := by decide +kernel
theorem d_G_keeps_5 : decode prog_2_method_3_code 5 = .ok (.iload_n 1, 1) := by decide +kernel
theorem d_G_keeps_6 : decode prog_2_method_3_code 6 = .ok (.bipush 64, 2) := by decide +kernel
theorem d_G_keeps_8 : decode prog_2_method_3_code 8 = .ok (.if_icmp .ge 15, 3) := by decide +kernel
theorem d_G_keeps_11 : decode prog_2_method_3_code 11 = .ok (.iload_n 1, 1) := by decide +kernel
theorem d_G_keeps_12 : decode prog_2_method_3_code 12 = .ok (.aload_n 0, 1) := by decide +kernel
theorem d_G_keeps_13 : decode prog_2_method_3_code 13 = .ok (.getfield 19, 3) := by decide +kernel
theorem d_G_keeps_16 : decode prog_2_method_3_code 16 = .ok (.if_icmp .ge 7, 3) := by decide +kernel
theorem d_G_keeps_19 : decode prog_2_method_3_code 19 = .ok (.iconst 1, 1) := by decide +kernel
theorem d_G_keeps_20 : decode prog_2_method_3_code 20 = .ok (.goto 4, 3) := by decide +kernel
theorem d_G_keeps_23 : decode prog_2_method_3_code 23 = .ok (.iconst 0, 1) := by decide +kernel
theorem d_G_keeps_24 : decode prog_2_method_3_code 24 = .ok (.ireturn, 1) := by decide +kernel
theorem d_G_numberOf_0 : decode prog_2_method_4_code 0 = .ok (.aload_n 0, 1) := by decide +kernel
theorem d_G_numberOf_1 : decode prog_2_method_4_code 1 = .ok (.getfield 9, 3) := by decide +kernel
theorem d_G_numberOf_4 : decode prog_2_method_4_code 4 = .ok (.aload_n 0, 1) := by decide +kernel
theorem d_G_numberOf_5 : decode prog_2_method_4_code 5 = .ok (.getfield 19, 3) := by decide +kernel
theorem d_G_numberOf_8 : decode prog_2_method_4_code 8 = .ok (.iconst 1, 1) := by decide +kernel
theorem d_G_numberOf_9 : decode prog_2_method_4_code 9 = .ok (.isub, 1) := by decide +kernel
theorem d_G_numberOf_10 : decode prog_2_method_4_code 10 = .ok (.iload_n 1, 1) := by decide +kernel
theorem d_G_numberOf_11 : decode prog_2_method_4_code 11 = .ok (.isub, 1) := by decide +kernel
theorem d_G_numberOf_12 : decode prog_2_method_4_code 12 = .ok (.invokestatic 23, 3) := by decide +kernel
theorem d_G_numberOf_15 : decode prog_2_method_4_code 15 = .ok (.iload_n 2, 1) := by decide +kernel
theorem d_G_numberOf_16 : decode prog_2_method_4_code 16 = .ok (.iadd, 1) := by decide +kernel
theorem d_G_numberOf_17 : decode prog_2_method_4_code 17 = .ok (.iaload, 1) := by decide +kernel
theorem d_G_numberOf_18 : decode prog_2_method_4_code 18 = .ok (.ireturn, 1) := by decide +kernel
theorem d_W_figure_0 : decode method_16_code 0 = .ok (.aload_n 2, 1) := by decide +kernel
theorem d_W_figure_1 : decode method_16_code 1 = .ok (.iconst 0, 1) := by decide +kernel
theorem d_W_figure_2 : decode method_16_code 2 = .ok (.aload_n 0, 1) := by decide +kernel
theorem d_W_figure_3 : decode method_16_code 3 = .ok (.iload_n 1, 1) := by decide +kernel
theorem d_W_figure_4 : decode method_16_code 4 = .ok (.invokevirtual 64, 3) := by decide +kernel
theorem d_W_figure_7 : decode method_16_code 7 = .ok (.i2l, 1) := by decide +kernel
theorem d_W_figure_8 : decode method_16_code 8 = .ok (.lastore, 1) := by decide +kernel
theorem d_W_figure_9 : decode method_16_code 9 = .ok (.goto 6, 3) := by decide +kernel
theorem d_W_figure_12 : decode method_16_code 12 = .ok (.astore_n 3, 1) := by decide +kernel
theorem d_W_figure_13 : decode method_16_code 13 = .ok (.iconst 1, 1) := by decide +kernel
theorem d_W_figure_14 : decode method_16_code 14 = .ok (.ireturn, 1) := by decide +kernel
theorem d_W_figure_15 : decode method_16_code 15 = .ok (.iconst 0, 1) := by decide +kernel
theorem d_W_figure_16 : decode method_16_code 16 = .ok (.ireturn, 1) := by decide +kernel
theorem d_V_figure_0 : decode prog_1_method_16_code 0 = .ok (.iload_n 1, 1) := by decide +kernel
theorem d_V_figure_1 : decode prog_1_method_16_code 1 = .ok (.tableswitch 75 0 5 #[39, 44, 52, 57, 65, 70], 39) := by decide +kernel
theorem d_V_figure_40 : decode prog_1_method_16_code 40 = .ok (.aload_n 0, 1) := by decide +kernel
theorem d_V_figure_41 : decode prog_1_method_16_code 41 = .ok (.getfield 48, 3) := by decide +kernel
theorem d_V_figure_44 : decode prog_1_method_16_code 44 = .ok (.ireturn, 1) := by decide +kernel
theorem d_V_figure_45 : decode prog_1_method_16_code 45 = .ok (.aload_n 0, 1) := by decide +kernel
theorem d_V_figure_46 : decode prog_1_method_16_code 46 = .ok (.getfield 10, 3) := by decide +kernel
theorem d_V_figure_49 : decode prog_1_method_16_code 49 = .ok (.invokevirtual 188, 3) := by decide +kernel
theorem d_V_figure_52 : decode prog_1_method_16_code 52 = .ok (.ireturn, 1) := by decide +kernel
theorem d_V_figure_53 : decode prog_1_method_16_code 53 = .ok (.aload_n 0, 1) := by decide +kernel
theorem d_V_figure_54 : decode prog_1_method_16_code 54 = .ok (.getfield 44, 3) := by decide +kernel
theorem d_V_figure_57 : decode prog_1_method_16_code 57 = .ok (.ireturn, 1) := by decide +kernel
theorem d_V_figure_58 : decode prog_1_method_16_code 58 = .ok (.aload_n 0, 1) := by decide +kernel
theorem d_V_figure_59 : decode prog_1_method_16_code 59 = .ok (.getfield 26, 3) := by decide +kernel
theorem d_V_figure_62 : decode prog_1_method_16_code 62 = .ok (.getfield 148, 3) := by decide +kernel
theorem d_V_figure_65 : decode prog_1_method_16_code 65 = .ok (.ireturn, 1) := by decide +kernel
theorem d_V_figure_66 : decode prog_1_method_16_code 66 = .ok (.aload_n 0, 1) := by decide +kernel
theorem d_V_figure_67 : decode prog_1_method_16_code 67 = .ok (.invokevirtual 190, 3) := by decide +kernel
theorem d_V_figure_70 : decode prog_1_method_16_code 70 = .ok (.ireturn, 1) := by decide +kernel
theorem d_V_figure_71 : decode prog_1_method_16_code 71 = .ok (.aload_n 0, 1) := by decide +kernel
theorem d_V_figure_72 : decode prog_1_method_16_code 72 = .ok (.invokevirtual 193, 3) := by decide +kernel
theorem d_V_figure_75 : decode prog_1_method_16_code 75 = .ok (.ireturn, 1) := by decide +kernel
theorem d_V_figure_76 : decode prog_1_method_16_code 76 = .ok (.new 167, 3) := by decide +kernel
theorem d_V_figure_79 : decode prog_1_method_16_code 79 = .ok (.dup, 1) := by decide +kernel
theorem d_V_figure_80 : decode prog_1_method_16_code 80 = .ok (.ldc 196, 2) := by decide +kernel
theorem d_V_figure_82 : decode prog_1_method_16_code 82 = .ok (.invokespecial 171, 3) := by decide +kernel
theorem d_V_figure_85 : decode prog_1_method_16_code 85 = .ok (.athrow, 1) := by decide +kernel
theorem d_V_sumOfSizes_0 : decode prog_1_method_33_code 0 = .ok (.iconst 0, 1) := by decide +kernel
theorem d_V_sumOfSizes_1 : decode prog_1_method_33_code 1 = .ok (.istore_n 1, 1) := by decide +kernel
theorem d_V_sumOfSizes_2 : decode prog_1_method_33_code 2 = .ok (.iconst 0, 1) := by decide +kernel
theorem d_V_sumOfSizes_3 : decode prog_1_method_33_code 3 = .ok (.istore_n 2, 1) := by decide +kernel
theorem d_V_sumOfSizes_4 : decode prog_1_method_33_code 4 = .ok (.iload_n 2, 1) := by decide +kernel
theorem d_V_sumOfSizes_5 : decode prog_1_method_33_code 5 = .ok (.aload_n 0, 1) := by decide +kernel
theorem d_V_sumOfSizes_6 : decode prog_1_method_33_code 6 = .ok (.getfield 10, 3) := by decide +kernel
theorem d_V_sumOfSizes_9 : decode prog_1_method_33_code 9 = .ok (.invokevirtual 188, 3) := by decide +kernel
theorem d_V_sumOfSizes_12 : decode prog_1_method_33_code 12 = .ok (.if_icmp .ge 26, 3) := by decide +kernel
theorem d_V_sumOfSizes_15 : decode prog_1_method_33_code 15 = .ok (.iload_n 1, 1) := by decide +kernel
theorem d_V_sumOfSizes_16 : decode prog_1_method_33_code 16 = .ok (.aload_n 0, 1) := by decide +kernel
theorem d_V_sumOfSizes_17 : decode prog_1_method_33_code 17 = .ok (.getfield 10, 3) := by decide +kernel
theorem d_V_sumOfSizes_20 : decode prog_1_method_33_code 20 = .ok (.iload_n 2, 1) := by decide +kernel
theorem d_V_sumOfSizes_21 : decode prog_1_method_33_code 21 = .ok (.invokevirtual 205, 3) := by decide +kernel
theorem d_V_sumOfSizes_24 : decode prog_1_method_33_code 24 = .ok (.checkcast 42, 3) := by decide +kernel
theorem d_V_sumOfSizes_27 : decode prog_1_method_33_code 27 = .ok (.getfield 145, 3) := by decide +kernel
theorem d_V_sumOfSizes_30 : decode prog_1_method_33_code 30 = .ok (.iadd, 1) := by decide +kernel
theorem d_V_sumOfSizes_31 : decode prog_1_method_33_code 31 = .ok (.istore_n 1, 1) := by decide +kernel
theorem d_V_sumOfSizes_32 : decode prog_1_method_33_code 32 = .ok (.iinc 2 1, 3) := by decide +kernel
theorem d_V_sumOfSizes_35 : decode prog_1_method_33_code 35 = .ok (.goto (-31), 3) := by decide +kernel
theorem d_V_sumOfSizes_38 : decode prog_1_method_33_code 38 = .ok (.iload_n 1, 1) := by decide +kernel
theorem d_V_sumOfSizes_39 : decode prog_1_method_33_code 39 = .ok (.ireturn, 1) := by decide +kernel
end
section
theorem d_V_countOfGuarded_0 : decode prog_1_method_34_code 0 = .ok (.iconst 0, 1) := by decide +kernel
theorem d_V_countOfGuarded_1 : decode prog_1_method_34_code 1 = .ok (.istore_n 1, 1) := by decide +kernel
theorem d_V_countOfGuarded_2 : decode prog_1_method_34_code 2 = .ok (.iconst 0, 1) := by decide +kernel
theorem d_V_countOfGuarded_3 : decode prog_1_method_34_code 3 = .ok (.istore_n 2, 1) := by decide +kernel
theorem d_V_countOfGuarded_4 : decode prog_1_method_34_code 4 = .ok (.iload_n 2, 1) := by decide +kernel
theorem d_V_countOfGuarded_5 : decode prog_1_method_34_code 5 = .ok (.aload_n 0, 1) := by decide +kernel
theorem d_V_countOfGuarded_6 : decode prog_1_method_34_code 6 = .ok (.getfield 10, 3) := by decide +kernel
theorem d_V_countOfGuarded_9 : decode prog_1_method_34_code 9 = .ok (.invokevirtual 188, 3) := by decide +kernel
theorem d_V_countOfGuarded_12 : decode prog_1_method_34_code 12 = .ok (.if_icmp .ge 33, 3) := by decide +kernel
theorem d_V_countOfGuarded_15 : decode prog_1_method_34_code 15 = .ok (.aload_n 0, 1) := by decide +kernel
theorem d_V_countOfGuarded_16 : decode prog_1_method_34_code 16 = .ok (.getfield 10, 3) := by decide +kernel
theorem d_V_countOfGuarded_19 : decode prog_1_method_34_code 19 = .ok (.iload_n 2, 1) := by decide +kernel
theorem d_V_countOfGuarded_20 : decode prog_1_method_34_code 20 = .ok (.invokevirtual 205, 3) := by decide +kernel
theorem d_V_countOfGuarded_23 : decode prog_1_method_34_code 23 = .ok (.checkcast 42, 3) := by decide +kernel
theorem d_V_countOfGuarded_26 : decode prog_1_method_34_code 26 = .ok (.aload_n 0, 1) := by decide +kernel
theorem d_V_countOfGuarded_27 : decode prog_1_method_34_code 27 = .ok (.getfield 48, 3) := by decide +kernel
theorem d_V_countOfGuarded_30 : decode prog_1_method_34_code 30 = .ok (.invokevirtual 164, 3) := by decide +kernel
theorem d_V_countOfGuarded_33 : decode prog_1_method_34_code 33 = .ok (.ifCond .eq 6, 3) := by decide +kernel
theorem d_V_countOfGuarded_36 : decode prog_1_method_34_code 36 = .ok (.iinc 1 1, 3) := by decide +kernel
theorem d_V_countOfGuarded_39 : decode prog_1_method_34_code 39 = .ok (.iinc 2 1, 3) := by decide +kernel
theorem d_V_countOfGuarded_42 : decode prog_1_method_34_code 42 = .ok (.goto (-38), 3) := by decide +kernel
theorem d_V_countOfGuarded_45 : decode prog_1_method_34_code 45 = .ok (.iload_n 1, 1) := by decide +kernel
theorem d_V_countOfGuarded_46 : decode prog_1_method_34_code 46 = .ok (.ireturn, 1) := by decide +kernel
theorem d_M_init_0 : decode prog_6_method_1_code 0 = .ok (.aload_n 0, 1) := by decide +kernel
theorem d_M_init_1 : decode prog_6_method_1_code 1 = .ok (.invokespecial 1, 3) := by decide +kernel
theorem d_M_init_4 : decode prog_6_method_1_code 4 = .ok (.aload_n 0, 1) := by decide +kernel
theorem d_M_init_5 : decode prog_6_method_1_code 5 = .ok (.bipush 40, 2) := by decide +kernel
theorem d_M_init_7 : decode prog_6_method_1_code 7 = .ok (.newarray .int, 2) := by decide +kernel
theorem d_M_init_9 : decode prog_6_method_1_code 9 = .ok (.putfield 7, 3) := by decide +kernel
theorem d_M_init_12 : decode prog_6_method_1_code 12 = .ok (.aload_n 0, 1) := by decide +kernel
theorem d_M_init_13 : decode prog_6_method_1_code 13 = .ok (.bipush 40, 2) := by decide +kernel
theorem d_M_init_15 : decode prog_6_method_1_code 15 = .ok (.newarray .int, 2) := by decide +kernel
theorem d_M_init_17 : decode prog_6_method_1_code 17 = .ok (.putfield 13, 3) := by decide +kernel
theorem d_M_init_20 : decode prog_6_method_1_code 20 = .ok (.aload_n 0, 1) := by decide +kernel
theorem d_M_init_21 : decode prog_6_method_1_code 21 = .ok (.bipush 40, 2) := by decide +kernel
theorem d_M_init_23 : decode prog_6_method_1_code 23 = .ok (.newarray .int, 2) := by decide +kernel
theorem d_M_init_25 : decode prog_6_method_1_code 25 = .ok (.putfield 16, 3) := by decide +kernel
theorem d_M_init_28 : decode prog_6_method_1_code 28 = .ok (.aload_n 0, 1) := by decide +kernel
theorem d_M_init_29 : decode prog_6_method_1_code 29 = .ok (.bipush 40, 2) := by decide +kernel
theorem d_M_init_31 : decode prog_6_method_1_code 31 = .ok (.newarray .int, 2) := by decide +kernel
theorem d_M_init_33 : decode prog_6_method_1_code 33 = .ok (.putfield 19, 3) := by decide +kernel
theorem d_M_init_36 : decode prog_6_method_1_code 36 = .ok (.aload_n 0, 1) := by decide +kernel
theorem d_M_init_37 : decode prog_6_method_1_code 37 = .ok (.bipush 40, 2) := by decide +kernel
theorem d_M_init_39 : decode prog_6_method_1_code 39 = .ok (.newarray .int, 2) := by decide +kernel
theorem d_M_init_41 : decode prog_6_method_1_code 41 = .ok (.putfield 22, 3) := by decide +kernel
theorem d_M_init_44 : decode prog_6_method_1_code 44 = .ok (.aload_n 0, 1) := by decide +kernel
theorem d_M_init_45 : decode prog_6_method_1_code 45 = .ok (.bipush 40, 2) := by decide +kernel
theorem d_M_init_47 : decode prog_6_method_1_code 47 = .ok (.newarray .int, 2) := by decide +kernel
theorem d_M_init_49 : decode prog_6_method_1_code 49 = .ok (.putfield 25, 3) := by decide +kernel
theorem d_M_init_52 : decode prog_6_method_1_code 52 = .ok (.aload_n 0, 1) := by decide +kernel
theorem d_M_init_53 : decode prog_6_method_1_code 53 = .ok (.bipush 40, 2) := by decide +kernel
theorem d_M_init_55 : decode prog_6_method_1_code 55 = .ok (.newarray .int, 2) := by decide +kernel
theorem d_M_init_57 : decode prog_6_method_1_code 57 = .ok (.putfield 28, 3) := by decide +kernel
theorem d_M_init_60 : decode prog_6_method_1_code 60 = .ok (.aload_n 0, 1) := by decide +kernel
theorem d_M_init_61 : decode prog_6_method_1_code 61 = .ok (.bipush 40, 2) := by decide +kernel
theorem d_M_init_63 : decode prog_6_method_1_code 63 = .ok (.newarray .int, 2) := by decide +kernel
theorem d_M_init_65 : decode prog_6_method_1_code 65 = .ok (.putfield 31, 3) := by decide +kernel
theorem d_M_init_68 : decode prog_6_method_1_code 68 = .ok (.aload_n 0, 1) := by decide +kernel
theorem d_M_init_69 : decode prog_6_method_1_code 69 = .ok (.bipush 40, 2) := by decide +kernel
theorem d_M_init_71 : decode prog_6_method_1_code 71 = .ok (.newarray .boolean, 2) := by decide +kernel
theorem d_M_init_73 : decode prog_6_method_1_code 73 = .ok (.putfield 34, 3) := by decide +kernel
theorem d_M_init_76 : decode prog_6_method_1_code 76 = .ok (.aload_n 0, 1) := by decide +kernel
theorem d_M_init_77 : decode prog_6_method_1_code 77 = .ok (.bipush 40, 2) := by decide +kernel
theorem d_M_init_79 : decode prog_6_method_1_code 79 = .ok (.newarray .int, 2) := by decide +kernel
theorem d_M_init_81 : decode prog_6_method_1_code 81 = .ok (.putfield 38, 3) := by decide +kernel
theorem d_M_init_84 : decode prog_6_method_1_code 84 = .ok (.aload_n 0, 1) := by decide +kernel
theorem d_M_init_85 : decode prog_6_method_1_code 85 = .ok (.bipush 40, 2) := by decide +kernel
theorem d_M_init_87 : decode prog_6_method_1_code 87 = .ok (.newarray .int, 2) := by decide +kernel
theorem d_M_init_89 : decode prog_6_method_1_code 89 = .ok (.putfield 41, 3) := by decide +kernel
theorem d_M_init_92 : decode prog_6_method_1_code 92 = .ok (.aload_n 0, 1) := by decide +kernel
theorem d_M_init_93 : decode prog_6_method_1_code 93 = .ok (.bipush 40, 2) := by decide +kernel
theorem d_M_init_95 : decode prog_6_method_1_code 95 = .ok (.newarray .int, 2) := by decide +kernel
theorem d_M_init_97 : decode prog_6_method_1_code 97 = .ok (.putfield 44, 3) := by decide +kernel
theorem d_M_init_100 : decode prog_6_method_1_code 100 = .ok (.aload_n 0, 1) := by decide +kernel
theorem d_M_init_101 : decode prog_6_method_1_code 101 = .ok (.bipush 6, 2) := by decide +kernel
theorem d_M_init_103 : decode prog_6_method_1_code 103 = .ok (.newarray .int, 2) := by decide +kernel
theorem d_M_init_105 : decode prog_6_method_1_code 105 = .ok (.putfield 47, 3) := by decide +kernel
theorem d_M_init_108 : decode prog_6_method_1_code 108 = .ok (.aload_n 0, 1) := by decide +kernel
theorem d_M_init_109 : decode prog_6_method_1_code 109 = .ok (.bipush 6, 2) := by decide +kernel
theorem d_M_init_111 : decode prog_6_method_1_code 111 = .ok (.newarray .int, 2) := by decide +kernel
theorem d_M_init_113 : decode prog_6_method_1_code 113 = .ok (.putfield 50, 3) := by decide +kernel
theorem d_M_init_116 : decode prog_6_method_1_code 116 = .ok (.aload_n 0, 1) := by decide +kernel
theorem d_M_init_117 : decode prog_6_method_1_code 117 = .ok (.bipush 6, 2) := by decide +kernel
theorem d_M_init_119 : decode prog_6_method_1_code 119 = .ok (.newarray .boolean, 2) := by decide +kernel
theorem d_M_init_121 : decode prog_6_method_1_code 121 = .ok (.putfield 53, 3) := by decide +kernel
theorem d_M_init_124 : decode prog_6_method_1_code 124 = .ok (.aload_n 0, 1) := by decide +kernel
theorem d_M_init_125 : decode prog_6_method_1_code 125 = .ok (.bipush 6, 2) := by decide +kernel
theorem d_M_init_127 : decode prog_6_method_1_code 127 = .ok (.newarray .int, 2) := by decide +kernel
theorem d_M_init_129 : decode prog_6_method_1_code 129 = .ok (.putfield 56, 3) := by decide +kernel
theorem d_M_init_132 : decode prog_6_method_1_code 132 = .ok (.aload_n 0, 1) := by decide +kernel
theorem d_M_init_133 : decode prog_6_method_1_code 133 = .ok (.sipush 256, 3) := by decide +kernel
theorem d_M_init_136 : decode prog_6_method_1_code 136 = .ok (.newarray .int, 2) := by decide +kernel
theorem d_M_init_138 : decode prog_6_method_1_code 138 = .ok (.putfield 59, 3) := by decide +kernel
theorem d_M_init_141 : decode prog_6_method_1_code 141 = .ok (.aload_n 0, 1) := by decide +kernel
theorem d_M_init_142 : decode prog_6_method_1_code 142 = .ok (.ldc2_w 62, 3) := by decide +kernel
theorem d_M_init_145 : decode prog_6_method_1_code 145 = .ok (.putfield 64, 3) := by decide +kernel
theorem d_M_init_148 : decode prog_6_method_1_code 148 = .ok (.return_, 1) := by decide +kernel
theorem d_M_thrown_0 : decode prog_6_method_2_code 0 = .ok (.aload_n 0, 1) := by decide +kernel
theorem d_M_thrown_1 : decode prog_6_method_2_code 1 = .ok (.getfield 68, 3) := by decide +kernel
theorem d_M_thrown_4 : decode prog_6_method_2_code 4 = .ok (.ireturn, 1) := by decide +kernel
theorem d_M_put_0 : decode prog_6_method_13_code 0 = .ok (.aload_n 0, 1) := by decide +kernel
theorem d_M_put_1 : decode prog_6_method_13_code 1 = .ok (.iload_n 2, 1) := by decide +kernel
theorem d_M_put_2 : decode prog_6_method_13_code 2 = .ok (.iconst 1, 1) := by decide +kernel
theorem d_M_put_3 : decode prog_6_method_13_code 3 = .ok (.if_icmp .lt 18, 3) := by decide +kernel
theorem d_M_put_6 : decode prog_6_method_13_code 6 = .ok (.iload_n 2, 1) := by decide +kernel
theorem d_M_put_7 : decode prog_6_method_13_code 7 = .ok (.ldc 104, 2) := by decide +kernel
theorem d_M_put_9 : decode prog_6_method_13_code 9 = .ok (.if_icmp .gt 12, 3) := by decide +kernel
theorem d_M_put_12 : decode prog_6_method_13_code 12 = .ok (.iload_n 3, 1) := by decide +kernel
theorem d_M_put_13 : decode prog_6_method_13_code 13 = .ok (.ifCond .lt 8, 3) := by decide +kernel
theorem d_M_put_16 : decode prog_6_method_13_code 16 = .ok (.iload_n 3, 1) := by decide +kernel
theorem d_M_put_17 : decode prog_6_method_13_code 17 = .ok (.iconst 3, 1) := by decide +kernel
theorem d_M_put_18 : decode prog_6_method_13_code 18 = .ok (.if_icmp .le 7, 3) := by decide +kernel
theorem d_M_put_21 : decode prog_6_method_13_code 21 = .ok (.iconst 1, 1) := by decide +kernel
theorem d_M_put_22 : decode prog_6_method_13_code 22 = .ok (.goto 17, 3) := by decide +kernel
theorem d_M_put_25 : decode prog_6_method_13_code 25 = .ok (.aload_n 0, 1) := by decide +kernel
theorem d_M_put_26 : decode prog_6_method_13_code 26 = .ok (.getfield 80, 3) := by decide +kernel
theorem d_M_put_29 : decode prog_6_method_13_code 29 = .ok (.bipush 40, 2) := by decide +kernel
theorem d_M_put_31 : decode prog_6_method_13_code 31 = .ok (.if_icmp .ne 7, 3) := by decide +kernel
theorem d_M_put_34 : decode prog_6_method_13_code 34 = .ok (.iconst 2, 1) := by decide +kernel
theorem d_M_put_35 : decode prog_6_method_13_code 35 = .ok (.goto 4, 3) := by decide +kernel
theorem d_M_put_38 : decode prog_6_method_13_code 38 = .ok (.iconst 0, 1) := by decide +kernel
theorem d_M_put_39 : decode prog_6_method_13_code 39 = .ok (.putfield 68, 3) := by decide +kernel
theorem d_M_put_42 : decode prog_6_method_13_code 42 = .ok (.aload_n 0, 1) := by decide +kernel
theorem d_M_put_43 : decode prog_6_method_13_code 43 = .ok (.getfield 68, 3) := by decide +kernel
theorem d_M_put_46 : decode prog_6_method_13_code 46 = .ok (.ifCond .le 7, 3) := by decide +kernel
theorem d_M_put_49 : decode prog_6_method_13_code 49 = .ok (.iconst 0, 1) := by decide +kernel
theorem d_M_put_50 : decode prog_6_method_13_code 50 = .ok (.goto 10, 3) := by decide +kernel
theorem d_M_put_53 : decode prog_6_method_13_code 53 = .ok (.aload_n 0, 1) := by decide +kernel
theorem d_M_put_54 : decode prog_6_method_13_code 54 = .ok (.iload_n 1, 1) := by decide +kernel
theorem d_M_put_55 : decode prog_6_method_13_code 55 = .ok (.iload_n 2, 1) := by decide +kernel
theorem d_M_put_56 : decode prog_6_method_13_code 56 = .ok (.iload_n 3, 1) := by decide +kernel
theorem d_M_put_57 : decode prog_6_method_13_code 57 = .ok (.invokevirtual 105, 3) := by decide +kernel
theorem d_M_put_60 : decode prog_6_method_13_code 60 = .ok (.ireturn, 1) := by decide +kernel
theorem d_M_add_0 : decode prog_6_method_11_code 0 = .ok (.aload_n 0, 1) := by decide +kernel
theorem d_M_add_1 : decode prog_6_method_11_code 1 = .ok (.iload_n 1, 1) := by decide +kernel
theorem d_M_add_2 : decode prog_6_method_11_code 2 = .ok (.invokevirtual 87, 3) := by decide +kernel
theorem d_M_add_5 : decode prog_6_method_11_code 5 = .ok (.istore 4, 2) := by decide +kernel
theorem d_M_add_7 : decode prog_6_method_11_code 7 = .ok (.iload 4, 2) := by decide +kernel
theorem d_M_add_9 : decode prog_6_method_11_code 9 = .ok (.ifCond .lt 14, 3) := by decide +kernel
theorem d_M_add_12 : decode prog_6_method_11_code 12 = .ok (.aload_n 0, 1) := by decide +kernel
theorem d_M_add_13 : decode prog_6_method_11_code 13 = .ok (.getfield 25, 3) := by decide +kernel
theorem d_M_add_16 : decode prog_6_method_11_code 16 = .ok (.iload 4, 2) := by decide +kernel
theorem d_M_add_18 : decode prog_6_method_11_code 18 = .ok (.aload_n 0, 1) := by decide +kernel
theorem d_M_add_19 : decode prog_6_method_11_code 19 = .ok (.getfield 75, 3) := by decide +kernel
theorem d_M_add_22 : decode prog_6_method_11_code 22 = .ok (.iastore, 1) := by decide +kernel
theorem d_M_add_23 : decode prog_6_method_11_code 23 = .ok (.aload_n 0, 1) := by decide +kernel
theorem d_M_add_24 : decode prog_6_method_11_code 24 = .ok (.getfield 7, 3) := by decide +kernel
theorem d_M_add_27 : decode prog_6_method_11_code 27 = .ok (.aload_n 0, 1) := by decide +kernel
theorem d_M_add_28 : decode prog_6_method_11_code 28 = .ok (.getfield 80, 3) := by decide +kernel
theorem d_M_add_31 : decode prog_6_method_11_code 31 = .ok (.aload_n 0, 1) := by decide +kernel
theorem d_M_add_32 : decode prog_6_method_11_code 32 = .ok (.getfield 97, 3) := by decide +kernel
theorem d_M_add_35 : decode prog_6_method_11_code 35 = .ok (.iastore, 1) := by decide +kernel
theorem d_M_add_36 : decode prog_6_method_11_code 36 = .ok (.aload_n 0, 1) := by decide +kernel
theorem d_M_add_37 : decode prog_6_method_11_code 37 = .ok (.getfield 13, 3) := by decide +kernel
theorem d_M_add_40 : decode prog_6_method_11_code 40 = .ok (.aload_n 0, 1) := by decide +kernel
theorem d_M_add_41 : decode prog_6_method_11_code 41 = .ok (.getfield 80, 3) := by decide +kernel
theorem d_M_add_44 : decode prog_6_method_11_code 44 = .ok (.iload_n 1, 1) := by decide +kernel
theorem d_M_add_45 : decode prog_6_method_11_code 45 = .ok (.iastore, 1) := by decide +kernel
theorem d_M_add_46 : decode prog_6_method_11_code 46 = .ok (.aload_n 0, 1) := by decide +kernel
theorem d_M_add_47 : decode prog_6_method_11_code 47 = .ok (.getfield 16, 3) := by decide +kernel
theorem d_M_add_50 : decode prog_6_method_11_code 50 = .ok (.aload_n 0, 1) := by decide +kernel
theorem d_M_add_51 : decode prog_6_method_11_code 51 = .ok (.getfield 80, 3) := by decide +kernel
theorem d_M_add_54 : decode prog_6_method_11_code 54 = .ok (.iload_n 2, 1) := by decide +kernel
theorem d_M_add_55 : decode prog_6_method_11_code 55 = .ok (.iastore, 1) := by decide +kernel
theorem d_M_add_56 : decode prog_6_method_11_code 56 = .ok (.aload_n 0, 1) := by decide +kernel
theorem d_M_add_57 : decode prog_6_method_11_code 57 = .ok (.getfield 19, 3) := by decide +kernel
theorem d_M_add_60 : decode prog_6_method_11_code 60 = .ok (.aload_n 0, 1) := by decide +kernel
theorem d_M_add_61 : decode prog_6_method_11_code 61 = .ok (.getfield 80, 3) := by decide +kernel
theorem d_M_add_64 : decode prog_6_method_11_code 64 = .ok (.iload_n 3, 1) := by decide +kernel
theorem d_M_add_65 : decode prog_6_method_11_code 65 = .ok (.iastore, 1) := by decide +kernel
theorem d_M_add_66 : decode prog_6_method_11_code 66 = .ok (.aload_n 0, 1) := by decide +kernel
theorem d_M_add_67 : decode prog_6_method_11_code 67 = .ok (.getfield 22, 3) := by decide +kernel
theorem d_M_add_70 : decode prog_6_method_11_code 70 = .ok (.aload_n 0, 1) := by decide +kernel
theorem d_M_add_71 : decode prog_6_method_11_code 71 = .ok (.getfield 80, 3) := by decide +kernel
theorem d_M_add_74 : decode prog_6_method_11_code 74 = .ok (.aload_n 0, 1) := by decide +kernel
theorem d_M_add_75 : decode prog_6_method_11_code 75 = .ok (.getfield 75, 3) := by decide +kernel
theorem d_M_add_78 : decode prog_6_method_11_code 78 = .ok (.iastore, 1) := by decide +kernel
theorem d_M_add_79 : decode prog_6_method_11_code 79 = .ok (.aload_n 0, 1) := by decide +kernel
theorem d_M_add_80 : decode prog_6_method_11_code 80 = .ok (.getfield 25, 3) := by decide +kernel
theorem d_M_add_83 : decode prog_6_method_11_code 83 = .ok (.aload_n 0, 1) := by decide +kernel
theorem d_M_add_84 : decode prog_6_method_11_code 84 = .ok (.getfield 80, 3) := by decide +kernel
theorem d_M_add_87 : decode prog_6_method_11_code 87 = .ok (.iconst 0, 1) := by decide +kernel
theorem d_M_add_88 : decode prog_6_method_11_code 88 = .ok (.iastore, 1) := by decide +kernel
theorem d_M_add_89 : decode prog_6_method_11_code 89 = .ok (.aload_n 0, 1) := by decide +kernel
theorem d_M_add_90 : decode prog_6_method_11_code 90 = .ok (.getfield 28, 3) := by decide +kernel
theorem d_M_add_93 : decode prog_6_method_11_code 93 = .ok (.aload_n 0, 1) := by decide +kernel
theorem d_M_add_94 : decode prog_6_method_11_code 94 = .ok (.getfield 80, 3) := by decide +kernel
theorem d_M_add_97 : decode prog_6_method_11_code 97 = .ok (.iload_n 2, 1) := by decide +kernel
theorem d_M_add_98 : decode prog_6_method_11_code 98 = .ok (.ifCond .le 7, 3) := by decide +kernel
theorem d_M_add_101 : decode prog_6_method_11_code 101 = .ok (.iconst 0, 1) := by decide +kernel
theorem d_M_add_102 : decode prog_6_method_11_code 102 = .ok (.goto 4, 3) := by decide +kernel
theorem d_M_add_105 : decode prog_6_method_11_code 105 = .ok (.iconst (-1), 1) := by decide +kernel
theorem d_M_add_106 : decode prog_6_method_11_code 106 = .ok (.iastore, 1) := by decide +kernel
theorem d_M_add_107 : decode prog_6_method_11_code 107 = .ok (.aload_n 0, 1) := by decide +kernel
theorem d_M_add_108 : decode prog_6_method_11_code 108 = .ok (.getfield 31, 3) := by decide +kernel
theorem d_M_add_111 : decode prog_6_method_11_code 111 = .ok (.aload_n 0, 1) := by decide +kernel
theorem d_M_add_112 : decode prog_6_method_11_code 112 = .ok (.getfield 80, 3) := by decide +kernel
theorem d_M_add_115 : decode prog_6_method_11_code 115 = .ok (.iconst 0, 1) := by decide +kernel
theorem d_M_add_116 : decode prog_6_method_11_code 116 = .ok (.iastore, 1) := by decide +kernel
theorem d_M_add_117 : decode prog_6_method_11_code 117 = .ok (.aload_n 0, 1) := by decide +kernel
theorem d_M_add_118 : decode prog_6_method_11_code 118 = .ok (.getfield 34, 3) := by decide +kernel
theorem d_M_add_121 : decode prog_6_method_11_code 121 = .ok (.aload_n 0, 1) := by decide +kernel
theorem d_M_add_122 : decode prog_6_method_11_code 122 = .ok (.getfield 80, 3) := by decide +kernel
theorem d_M_add_125 : decode prog_6_method_11_code 125 = .ok (.iconst 0, 1) := by decide +kernel
theorem d_M_add_126 : decode prog_6_method_11_code 126 = .ok (.bastore, 1) := by decide +kernel
theorem d_M_add_127 : decode prog_6_method_11_code 127 = .ok (.aload_n 0, 1) := by decide +kernel
theorem d_M_add_128 : decode prog_6_method_11_code 128 = .ok (.getfield 38, 3) := by decide +kernel
theorem d_M_add_131 : decode prog_6_method_11_code 131 = .ok (.aload_n 0, 1) := by decide +kernel
theorem d_M_add_132 : decode prog_6_method_11_code 132 = .ok (.getfield 80, 3) := by decide +kernel
theorem d_M_add_135 : decode prog_6_method_11_code 135 = .ok (.iconst 0, 1) := by decide +kernel
theorem d_M_add_136 : decode prog_6_method_11_code 136 = .ok (.iastore, 1) := by decide +kernel
theorem d_M_add_137 : decode prog_6_method_11_code 137 = .ok (.aload_n 0, 1) := by decide +kernel
theorem d_M_add_138 : decode prog_6_method_11_code 138 = .ok (.getfield 41, 3) := by decide +kernel
theorem d_M_add_141 : decode prog_6_method_11_code 141 = .ok (.aload_n 0, 1) := by decide +kernel
theorem d_M_add_142 : decode prog_6_method_11_code 142 = .ok (.getfield 80, 3) := by decide +kernel
theorem d_M_add_145 : decode prog_6_method_11_code 145 = .ok (.iconst 0, 1) := by decide +kernel
theorem d_M_add_146 : decode prog_6_method_11_code 146 = .ok (.iastore, 1) := by decide +kernel
theorem d_M_add_147 : decode prog_6_method_11_code 147 = .ok (.aload_n 0, 1) := by decide +kernel
theorem d_M_add_148 : decode prog_6_method_11_code 148 = .ok (.getfield 44, 3) := by decide +kernel
theorem d_M_add_151 : decode prog_6_method_11_code 151 = .ok (.aload_n 0, 1) := by decide +kernel
theorem d_M_add_152 : decode prog_6_method_11_code 152 = .ok (.getfield 80, 3) := by decide +kernel
theorem d_M_add_155 : decode prog_6_method_11_code 155 = .ok (.iconst 0, 1) := by decide +kernel
theorem d_M_add_156 : decode prog_6_method_11_code 156 = .ok (.iastore, 1) := by decide +kernel
theorem d_M_add_157 : decode prog_6_method_11_code 157 = .ok (.aload_n 0, 1) := by decide +kernel
theorem d_M_add_158 : decode prog_6_method_11_code 158 = .ok (.dup, 1) := by decide +kernel
theorem d_M_add_159 : decode prog_6_method_11_code 159 = .ok (.getfield 80, 3) := by decide +kernel
theorem d_M_add_162 : decode prog_6_method_11_code 162 = .ok (.iconst 1, 1) := by decide +kernel
theorem d_M_add_163 : decode prog_6_method_11_code 163 = .ok (.iadd, 1) := by decide +kernel
theorem d_M_add_164 : decode prog_6_method_11_code 164 = .ok (.putfield 80, 3) := by decide +kernel
theorem d_M_add_167 : decode prog_6_method_11_code 167 = .ok (.aload_n 0, 1) := by decide +kernel
theorem d_M_add_168 : decode prog_6_method_11_code 168 = .ok (.dup, 1) := by decide +kernel
theorem d_M_add_169 : decode prog_6_method_11_code 169 = .ok (.getfield 97, 3) := by decide +kernel
theorem d_M_add_172 : decode prog_6_method_11_code 172 = .ok (.iconst 1, 1) := by decide +kernel
theorem d_M_add_173 : decode prog_6_method_11_code 173 = .ok (.iadd, 1) := by decide +kernel
theorem d_M_add_174 : decode prog_6_method_11_code 174 = .ok (.putfield 97, 3) := by decide +kernel
theorem d_M_add_177 : decode prog_6_method_11_code 177 = .ok (.aload_n 0, 1) := by decide +kernel
theorem d_M_add_178 : decode prog_6_method_11_code 178 = .ok (.iload_n 2, 1) := by decide +kernel
theorem d_M_add_179 : decode prog_6_method_11_code 179 = .ok (.ifCond .le 7, 3) := by decide +kernel
theorem d_M_add_182 : decode prog_6_method_11_code 182 = .ok (.iconst 1, 1) := by decide +kernel
theorem d_M_add_183 : decode prog_6_method_11_code 183 = .ok (.goto 4, 3) := by decide +kernel
theorem d_M_add_186 : decode prog_6_method_11_code 186 = .ok (.iconst 2, 1) := by decide +kernel
theorem d_M_add_187 : decode prog_6_method_11_code 187 = .ok (.aload_n 0, 1) := by decide +kernel
theorem d_M_add_188 : decode prog_6_method_11_code 188 = .ok (.getfield 97, 3) := by decide +kernel
theorem d_M_add_191 : decode prog_6_method_11_code 191 = .ok (.iconst 1, 1) := by decide +kernel
theorem d_M_add_192 : decode prog_6_method_11_code 192 = .ok (.isub, 1) := by decide +kernel
theorem d_M_add_193 : decode prog_6_method_11_code 193 = .ok (.iload_n 1, 1) := by decide +kernel
theorem d_M_add_194 : decode prog_6_method_11_code 194 = .ok (.invokevirtual 100, 3) := by decide +kernel
theorem d_M_add_197 : decode prog_6_method_11_code 197 = .ok (.aload_n 0, 1) := by decide +kernel
theorem d_M_add_198 : decode prog_6_method_11_code 198 = .ok (.getfield 97, 3) := by decide +kernel
theorem d_M_add_201 : decode prog_6_method_11_code 201 = .ok (.iconst 1, 1) := by decide +kernel
theorem d_M_add_202 : decode prog_6_method_11_code 202 = .ok (.isub, 1) := by decide +kernel
theorem d_M_add_203 : decode prog_6_method_11_code 203 = .ok (.ireturn, 1) := by decide +kernel
theorem d_M_currentOf_0 : decode prog_6_method_6_code 0 = .ok (.iconst (-1), 1) := by decide +kernel
theorem d_M_currentOf_1 : decode prog_6_method_6_code 1 = .ok (.istore_n 2, 1) := by decide +kernel
theorem d_M_currentOf_2 : decode prog_6_method_6_code 2 = .ok (.iconst 0, 1) := by decide +kernel
theorem d_M_currentOf_3 : decode prog_6_method_6_code 3 = .ok (.istore_n 3, 1) := by decide +kernel
theorem d_M_currentOf_4 : decode prog_6_method_6_code 4 = .ok (.iload_n 3, 1) := by decide +kernel
theorem d_M_currentOf_5 : decode prog_6_method_6_code 5 = .ok (.aload_n 0, 1) := by decide +kernel
theorem d_M_currentOf_6 : decode prog_6_method_6_code 6 = .ok (.getfield 80, 3) := by decide +kernel
theorem d_M_currentOf_9 : decode prog_6_method_6_code 9 = .ok (.if_icmp .ge 25, 3) := by decide +kernel
theorem d_M_currentOf_12 : decode prog_6_method_6_code 12 = .ok (.aload_n 0, 1) := by decide +kernel
theorem d_M_currentOf_13 : decode prog_6_method_6_code 13 = .ok (.getfield 13, 3) := by decide +kernel
theorem d_M_currentOf_16 : decode prog_6_method_6_code 16 = .ok (.iload_n 3, 1) := by decide +kernel
theorem d_M_currentOf_17 : decode prog_6_method_6_code 17 = .ok (.iaload, 1) := by decide +kernel
theorem d_M_currentOf_18 : decode prog_6_method_6_code 18 = .ok (.iload_n 1, 1) := by decide +kernel
theorem d_M_currentOf_19 : decode prog_6_method_6_code 19 = .ok (.if_icmp .ne 7, 3) := by decide +kernel
theorem d_M_currentOf_22 : decode prog_6_method_6_code 22 = .ok (.iload_n 3, 1) := by decide +kernel
theorem d_M_currentOf_23 : decode prog_6_method_6_code 23 = .ok (.goto 4, 3) := by decide +kernel
theorem d_M_currentOf_26 : decode prog_6_method_6_code 26 = .ok (.iload_n 2, 1) := by decide +kernel
theorem d_M_currentOf_27 : decode prog_6_method_6_code 27 = .ok (.istore_n 2, 1) := by decide +kernel
theorem d_M_currentOf_28 : decode prog_6_method_6_code 28 = .ok (.iinc 3 1, 3) := by decide +kernel
theorem d_M_currentOf_31 : decode prog_6_method_6_code 31 = .ok (.goto (-27), 3) := by decide +kernel
theorem d_M_currentOf_34 : decode prog_6_method_6_code 34 = .ok (.iload_n 2, 1) := by decide +kernel
theorem d_M_currentOf_35 : decode prog_6_method_6_code 35 = .ok (.ireturn, 1) := by decide +kernel
theorem d_M_enter_0 : decode prog_6_method_3_code 0 = .ok (.aload_n 0, 1) := by decide +kernel
theorem d_M_enter_1 : decode prog_6_method_3_code 1 = .ok (.getfield 72, 3) := by decide +kernel
theorem d_M_enter_4 : decode prog_6_method_3_code 4 = .ok (.bipush 64, 2) := by decide +kernel
theorem d_M_enter_6 : decode prog_6_method_3_code 6 = .ok (.irem, 1) := by decide +kernel
theorem d_M_enter_7 : decode prog_6_method_3_code 7 = .ok (.iconst 4, 1) := by decide +kernel
theorem d_M_enter_8 : decode prog_6_method_3_code 8 = .ok (.imul, 1) := by decide +kernel
theorem d_M_enter_9 : decode prog_6_method_3_code 9 = .ok (.istore 4, 2) := by decide +kernel
theorem d_M_enter_11 : decode prog_6_method_3_code 11 = .ok (.aload_n 0, 1) := by decide +kernel
theorem d_M_enter_12 : decode prog_6_method_3_code 12 = .ok (.getfield 59, 3) := by decide +kernel
theorem d_M_enter_15 : decode prog_6_method_3_code 15 = .ok (.iload 4, 2) := by decide +kernel
theorem d_M_enter_17 : decode prog_6_method_3_code 17 = .ok (.aload_n 0, 1) := by decide +kernel
theorem d_M_enter_18 : decode prog_6_method_3_code 18 = .ok (.getfield 75, 3) := by decide +kernel
theorem d_M_enter_21 : decode prog_6_method_3_code 21 = .ok (.iastore, 1) := by decide +kernel
theorem d_M_enter_22 : decode prog_6_method_3_code 22 = .ok (.aload_n 0, 1) := by decide +kernel
theorem d_M_enter_23 : decode prog_6_method_3_code 23 = .ok (.getfield 59, 3) := by decide +kernel
theorem d_M_enter_26 : decode prog_6_method_3_code 26 = .ok (.iload 4, 2) := by decide +kernel
theorem d_M_enter_28 : decode prog_6_method_3_code 28 = .ok (.iconst 1, 1) := by decide +kernel
theorem d_M_enter_29 : decode prog_6_method_3_code 29 = .ok (.iadd, 1) := by decide +kernel
theorem d_M_enter_30 : decode prog_6_method_3_code 30 = .ok (.iload_n 1, 1) := by decide +kernel
theorem d_M_enter_31 : decode prog_6_method_3_code 31 = .ok (.iastore, 1) := by decide +kernel
theorem d_M_enter_32 : decode prog_6_method_3_code 32 = .ok (.aload_n 0, 1) := by decide +kernel
theorem d_M_enter_33 : decode prog_6_method_3_code 33 = .ok (.getfield 59, 3) := by decide +kernel
theorem d_M_enter_36 : decode prog_6_method_3_code 36 = .ok (.iload 4, 2) := by decide +kernel
theorem d_M_enter_38 : decode prog_6_method_3_code 38 = .ok (.iconst 2, 1) := by decide +kernel
theorem d_M_enter_39 : decode prog_6_method_3_code 39 = .ok (.iadd, 1) := by decide +kernel
theorem d_M_enter_40 : decode prog_6_method_3_code 40 = .ok (.iload_n 2, 1) := by decide +kernel
theorem d_M_enter_41 : decode prog_6_method_3_code 41 = .ok (.iastore, 1) := by decide +kernel
theorem d_M_enter_42 : decode prog_6_method_3_code 42 = .ok (.aload_n 0, 1) := by decide +kernel
theorem d_M_enter_43 : decode prog_6_method_3_code 43 = .ok (.getfield 59, 3) := by decide +kernel
theorem d_M_enter_46 : decode prog_6_method_3_code 46 = .ok (.iload 4, 2) := by decide +kernel
theorem d_M_enter_48 : decode prog_6_method_3_code 48 = .ok (.iconst 3, 1) := by decide +kernel
theorem d_M_enter_49 : decode prog_6_method_3_code 49 = .ok (.iadd, 1) := by decide +kernel
theorem d_M_enter_50 : decode prog_6_method_3_code 50 = .ok (.iload_n 3, 1) := by decide +kernel
theorem d_M_enter_51 : decode prog_6_method_3_code 51 = .ok (.iastore, 1) := by decide +kernel
theorem d_M_enter_52 : decode prog_6_method_3_code 52 = .ok (.aload_n 0, 1) := by decide +kernel
theorem d_M_enter_53 : decode prog_6_method_3_code 53 = .ok (.dup, 1) := by decide +kernel
theorem d_M_enter_54 : decode prog_6_method_3_code 54 = .ok (.getfield 72, 3) := by decide +kernel
theorem d_M_enter_57 : decode prog_6_method_3_code 57 = .ok (.iconst 1, 1) := by decide +kernel
theorem d_M_enter_58 : decode prog_6_method_3_code 58 = .ok (.iadd, 1) := by decide +kernel
theorem d_M_enter_59 : decode prog_6_method_3_code 59 = .ok (.putfield 72, 3) := by decide +kernel
theorem d_M_enter_62 : decode prog_6_method_3_code 62 = .ok (.iconst 0, 1) := by decide +kernel
theorem d_M_enter_63 : decode prog_6_method_3_code 63 = .ok (.istore 5, 2) := by decide +kernel
theorem d_M_enter_65 : decode prog_6_method_3_code 65 = .ok (.iload 5, 2) := by decide +kernel
theorem d_M_enter_67 : decode prog_6_method_3_code 67 = .ok (.iconst 4, 1) := by decide +kernel
theorem d_M_enter_68 : decode prog_6_method_3_code 68 = .ok (.if_icmp .ge 33, 3) := by decide +kernel
theorem d_M_enter_71 : decode prog_6_method_3_code 71 = .ok (.aload_n 0, 1) := by decide +kernel
theorem d_M_enter_72 : decode prog_6_method_3_code 72 = .ok (.aload_n 0, 1) := by decide +kernel
theorem d_M_enter_73 : decode prog_6_method_3_code 73 = .ok (.getfield 64, 3) := by decide +kernel
theorem d_M_enter_76 : decode prog_6_method_3_code 76 = .ok (.aload_n 0, 1) := by decide +kernel
theorem d_M_enter_77 : decode prog_6_method_3_code 77 = .ok (.getfield 59, 3) := by decide +kernel
theorem d_M_enter_80 : decode prog_6_method_3_code 80 = .ok (.iload 4, 2) := by decide +kernel
theorem d_M_enter_82 : decode prog_6_method_3_code 82 = .ok (.iload 5, 2) := by decide +kernel
theorem d_M_enter_84 : decode prog_6_method_3_code 84 = .ok (.iadd, 1) := by decide +kernel
theorem d_M_enter_85 : decode prog_6_method_3_code 85 = .ok (.iaload, 1) := by decide +kernel
theorem d_M_enter_86 : decode prog_6_method_3_code 86 = .ok (.i2l, 1) := by decide +kernel
theorem d_M_enter_87 : decode prog_6_method_3_code 87 = .ok (.lxor, 1) := by decide +kernel
theorem d_M_enter_88 : decode prog_6_method_3_code 88 = .ok (.ldc2_w 78, 3) := by decide +kernel
theorem d_M_enter_91 : decode prog_6_method_3_code 91 = .ok (.lmul, 1) := by decide +kernel
theorem d_M_enter_92 : decode prog_6_method_3_code 92 = .ok (.putfield 64, 3) := by decide +kernel
theorem d_M_enter_95 : decode prog_6_method_3_code 95 = .ok (.iinc 5 1, 3) := by decide +kernel
theorem d_M_enter_98 : decode prog_6_method_3_code 98 = .ok (.goto (-33), 3) := by decide +kernel
theorem d_M_enter_101 : decode prog_6_method_3_code 101 = .ok (.return_, 1) := by decide +kernel
theorem d_M_mark_0 : decode prog_6_method_14_code 0 = .ok (.aload_n 0, 1) := by decide +kernel
theorem d_M_mark_1 : decode prog_6_method_14_code 1 = .ok (.iload_n 1, 1) := by decide +kernel
theorem d_M_mark_2 : decode prog_6_method_14_code 2 = .ok (.invokevirtual 87, 3) := by decide +kernel
theorem d_M_mark_5 : decode prog_6_method_14_code 5 = .ok (.istore_n 2, 1) := by decide +kernel
theorem d_M_mark_6 : decode prog_6_method_14_code 6 = .ok (.aload_n 0, 1) := by decide +kernel
theorem d_M_mark_7 : decode prog_6_method_14_code 7 = .ok (.iload_n 2, 1) := by decide +kernel
theorem d_M_mark_8 : decode prog_6_method_14_code 8 = .ok (.ifCond .lt 12, 3) := by decide +kernel
theorem d_M_mark_11 : decode prog_6_method_14_code 11 = .ok (.aload_n 0, 1) := by decide +kernel
theorem d_M_mark_12 : decode prog_6_method_14_code 12 = .ok (.getfield 16, 3) := by decide +kernel
theorem d_M_mark_15 : decode prog_6_method_14_code 15 = .ok (.iload_n 2, 1) := by decide +kernel
theorem d_M_mark_16 : decode prog_6_method_14_code 16 = .ok (.iaload, 1) := by decide +kernel
theorem d_M_mark_17 : decode prog_6_method_14_code 17 = .ok (.ifCond .ne 7, 3) := by decide +kernel
theorem d_M_mark_20 : decode prog_6_method_14_code 20 = .ok (.iconst 1, 1) := by decide +kernel
theorem d_M_mark_21 : decode prog_6_method_14_code 21 = .ok (.goto 17, 3) := by decide +kernel
theorem d_M_mark_24 : decode prog_6_method_14_code 24 = .ok (.aload_n 0, 1) := by decide +kernel
theorem d_M_mark_25 : decode prog_6_method_14_code 25 = .ok (.getfield 80, 3) := by decide +kernel
theorem d_M_mark_28 : decode prog_6_method_14_code 28 = .ok (.bipush 40, 2) := by decide +kernel
theorem d_M_mark_30 : decode prog_6_method_14_code 30 = .ok (.if_icmp .ne 7, 3) := by decide +kernel
theorem d_M_mark_33 : decode prog_6_method_14_code 33 = .ok (.iconst 2, 1) := by decide +kernel
theorem d_M_mark_34 : decode prog_6_method_14_code 34 = .ok (.goto 4, 3) := by decide +kernel
theorem d_M_mark_37 : decode prog_6_method_14_code 37 = .ok (.iconst 0, 1) := by decide +kernel
theorem d_M_mark_38 : decode prog_6_method_14_code 38 = .ok (.putfield 68, 3) := by decide +kernel
theorem d_M_mark_41 : decode prog_6_method_14_code 41 = .ok (.aload_n 0, 1) := by decide +kernel
theorem d_M_mark_42 : decode prog_6_method_14_code 42 = .ok (.getfield 68, 3) := by decide +kernel
theorem d_M_mark_45 : decode prog_6_method_14_code 45 = .ok (.ifCond .le 7, 3) := by decide +kernel
theorem d_M_mark_48 : decode prog_6_method_14_code 48 = .ok (.iconst 0, 1) := by decide +kernel
theorem d_M_mark_49 : decode prog_6_method_14_code 49 = .ok (.goto 10, 3) := by decide +kernel
theorem d_M_mark_52 : decode prog_6_method_14_code 52 = .ok (.aload_n 0, 1) := by decide +kernel
theorem d_M_mark_53 : decode prog_6_method_14_code 53 = .ok (.iload_n 1, 1) := by decide +kernel
theorem d_M_mark_54 : decode prog_6_method_14_code 54 = .ok (.iconst 0, 1) := by decide +kernel
theorem d_M_mark_55 : decode prog_6_method_14_code 55 = .ok (.iconst 0, 1) := by decide +kernel
theorem d_M_mark_56 : decode prog_6_method_14_code 56 = .ok (.invokevirtual 105, 3) := by decide +kernel
theorem d_M_mark_59 : decode prog_6_method_14_code 59 = .ok (.ireturn, 1) := by decide +kernel
theorem d_M_erase_0 : decode prog_6_method_15_code 0 = .ok (.aload_n 0, 1) := by decide +kernel
theorem d_M_erase_1 : decode prog_6_method_15_code 1 = .ok (.iload_n 1, 1) := by decide +kernel
theorem d_M_erase_2 : decode prog_6_method_15_code 2 = .ok (.invokevirtual 83, 3) := by decide +kernel
theorem d_M_erase_5 : decode prog_6_method_15_code 5 = .ok (.istore_n 3, 1) := by decide +kernel
theorem d_M_erase_6 : decode prog_6_method_15_code 6 = .ok (.aload_n 0, 1) := by decide +kernel
theorem d_M_erase_7 : decode prog_6_method_15_code 7 = .ok (.iload_n 3, 1) := by decide +kernel
theorem d_M_erase_8 : decode prog_6_method_15_code 8 = .ok (.ifCond .ge 7, 3) := by decide +kernel
theorem d_M_erase_11 : decode prog_6_method_15_code 11 = .ok (.iconst 1, 1) := by decide +kernel
theorem d_M_erase_12 : decode prog_6_method_15_code 12 = .ok (.goto 38, 3) := by decide +kernel
theorem d_M_erase_15 : decode prog_6_method_15_code 15 = .ok (.aload_n 0, 1) := by decide +kernel
theorem d_M_erase_16 : decode prog_6_method_15_code 16 = .ok (.getfield 38, 3) := by decide +kernel
theorem d_M_erase_19 : decode prog_6_method_15_code 19 = .ok (.iload_n 3, 1) := by decide +kernel
theorem d_M_erase_20 : decode prog_6_method_15_code 20 = .ok (.iaload, 1) := by decide +kernel
theorem d_M_erase_21 : decode prog_6_method_15_code 21 = .ok (.ifCond .ne 24, 3) := by decide +kernel
theorem d_M_erase_24 : decode prog_6_method_15_code 24 = .ok (.aload_n 0, 1) := by decide +kernel
theorem d_M_erase_25 : decode prog_6_method_15_code 25 = .ok (.iload_n 3, 1) := by decide +kernel
theorem d_M_erase_26 : decode prog_6_method_15_code 26 = .ok (.invokevirtual 90, 3) := by decide +kernel
theorem d_M_erase_29 : decode prog_6_method_15_code 29 = .ok (.ifCond .eq 20, 3) := by decide +kernel
theorem d_M_erase_32 : decode prog_6_method_15_code 32 = .ok (.aload_n 0, 1) := by decide +kernel
theorem d_M_erase_33 : decode prog_6_method_15_code 33 = .ok (.getfield 34, 3) := by decide +kernel
theorem d_M_erase_36 : decode prog_6_method_15_code 36 = .ok (.iload_n 3, 1) := by decide +kernel
theorem d_M_erase_37 : decode prog_6_method_15_code 37 = .ok (.baload, 1) := by decide +kernel
theorem d_M_erase_38 : decode prog_6_method_15_code 38 = .ok (.ifCond .ne 7, 3) := by decide +kernel
theorem d_M_erase_41 : decode prog_6_method_15_code 41 = .ok (.iload_n 2, 1) := by decide +kernel
theorem d_M_erase_42 : decode prog_6_method_15_code 42 = .ok (.ifCond .ne 7, 3) := by decide +kernel
theorem d_M_erase_45 : decode prog_6_method_15_code 45 = .ok (.iconst 2, 1) := by decide +kernel
theorem d_M_erase_46 : decode prog_6_method_15_code 46 = .ok (.goto 4, 3) := by decide +kernel
theorem d_M_erase_49 : decode prog_6_method_15_code 49 = .ok (.iconst 0, 1) := by decide +kernel
theorem d_M_erase_50 : decode prog_6_method_15_code 50 = .ok (.putfield 68, 3) := by decide +kernel
theorem d_M_erase_53 : decode prog_6_method_15_code 53 = .ok (.aload_n 0, 1) := by decide +kernel
theorem d_M_erase_54 : decode prog_6_method_15_code 54 = .ok (.getfield 68, 3) := by decide +kernel
theorem d_M_erase_57 : decode prog_6_method_15_code 57 = .ok (.ifCond .le 5, 3) := by decide +kernel
theorem d_M_erase_60 : decode prog_6_method_15_code 60 = .ok (.iconst 0, 1) := by decide +kernel
theorem d_M_erase_61 : decode prog_6_method_15_code 61 = .ok (.ireturn, 1) := by decide +kernel
theorem d_M_erase_62 : decode prog_6_method_15_code 62 = .ok (.aload_n 0, 1) := by decide +kernel
theorem d_M_erase_63 : decode prog_6_method_15_code 63 = .ok (.getfield 13, 3) := by decide +kernel
theorem d_M_erase_66 : decode prog_6_method_15_code 66 = .ok (.iload_n 3, 1) := by decide +kernel
theorem d_M_erase_67 : decode prog_6_method_15_code 67 = .ok (.iaload, 1) := by decide +kernel
theorem d_M_erase_68 : decode prog_6_method_15_code 68 = .ok (.istore 4, 2) := by decide +kernel
theorem d_M_erase_70 : decode prog_6_method_15_code 70 = .ok (.aload_n 0, 1) := by decide +kernel
theorem d_M_erase_71 : decode prog_6_method_15_code 71 = .ok (.iload_n 3, 1) := by decide +kernel
theorem d_M_erase_72 : decode prog_6_method_15_code 72 = .ok (.invokevirtual 109, 3) := by decide +kernel
theorem d_M_erase_75 : decode prog_6_method_15_code 75 = .ok (.iload 4, 2) := by decide +kernel
theorem d_M_erase_77 : decode prog_6_method_15_code 77 = .ok (.ireturn, 1) := by decide +kernel
end
section
theorem d_M_find_0 : decode prog_6_method_4_code 0 = .ok (.iconst (-1), 1) := by decide +kernel
theorem d_M_find_1 : decode prog_6_method_4_code 1 = .ok (.istore_n 2, 1) := by decide +kernel
theorem d_M_find_2 : decode prog_6_method_4_code 2 = .ok (.iconst 0, 1) := by decide +kernel
theorem d_M_find_3 : decode prog_6_method_4_code 3 = .ok (.istore_n 3, 1) := by decide +kernel
theorem d_M_find_4 : decode prog_6_method_4_code 4 = .ok (.iload_n 3, 1) := by decide +kernel
theorem d_M_find_5 : decode prog_6_method_4_code 5 = .ok (.aload_n 0, 1) := by decide +kernel
theorem d_M_find_6 : decode prog_6_method_4_code 6 = .ok (.getfield 80, 3) := by decide +kernel
theorem d_M_find_9 : decode prog_6_method_4_code 9 = .ok (.if_icmp .ge 25, 3) := by decide +kernel
theorem d_M_find_12 : decode prog_6_method_4_code 12 = .ok (.aload_n 0, 1) := by decide +kernel
theorem d_M_find_13 : decode prog_6_method_4_code 13 = .ok (.getfield 7, 3) := by decide +kernel
theorem d_M_find_16 : decode prog_6_method_4_code 16 = .ok (.iload_n 3, 1) := by decide +kernel
theorem d_M_find_17 : decode prog_6_method_4_code 17 = .ok (.iaload, 1) := by decide +kernel
theorem d_M_find_18 : decode prog_6_method_4_code 18 = .ok (.iload_n 1, 1) := by decide +kernel
theorem d_M_find_19 : decode prog_6_method_4_code 19 = .ok (.if_icmp .ne 7, 3) := by decide +kernel
theorem d_M_find_22 : decode prog_6_method_4_code 22 = .ok (.iload_n 3, 1) := by decide +kernel
theorem d_M_find_23 : decode prog_6_method_4_code 23 = .ok (.goto 4, 3) := by decide +kernel
theorem d_M_find_26 : decode prog_6_method_4_code 26 = .ok (.iload_n 2, 1) := by decide +kernel
theorem d_M_find_27 : decode prog_6_method_4_code 27 = .ok (.istore_n 2, 1) := by decide +kernel
theorem d_M_find_28 : decode prog_6_method_4_code 28 = .ok (.iinc 3 1, 3) := by decide +kernel
theorem d_M_find_31 : decode prog_6_method_4_code 31 = .ok (.goto (-27), 3) := by decide +kernel
theorem d_M_find_34 : decode prog_6_method_4_code 34 = .ok (.iload_n 2, 1) := by decide +kernel
theorem d_M_find_35 : decode prog_6_method_4_code 35 = .ok (.ireturn, 1) := by decide +kernel
theorem d_M_isRetained_0 : decode prog_6_method_8_code 0 = .ok (.aload_n 0, 1) := by decide +kernel
theorem d_M_isRetained_1 : decode prog_6_method_8_code 1 = .ok (.getfield 75, 3) := by decide +kernel
theorem d_M_isRetained_4 : decode prog_6_method_8_code 4 = .ok (.aload_n 0, 1) := by decide +kernel
theorem d_M_isRetained_5 : decode prog_6_method_8_code 5 = .ok (.getfield 31, 3) := by decide +kernel
theorem d_M_isRetained_8 : decode prog_6_method_8_code 8 = .ok (.iload_n 1, 1) := by decide +kernel
theorem d_M_isRetained_9 : decode prog_6_method_8_code 9 = .ok (.iaload, 1) := by decide +kernel
theorem d_M_isRetained_10 : decode prog_6_method_8_code 10 = .ok (.if_icmp .ge 7, 3) := by decide +kernel
theorem d_M_isRetained_13 : decode prog_6_method_8_code 13 = .ok (.iconst 1, 1) := by decide +kernel
theorem d_M_isRetained_14 : decode prog_6_method_8_code 14 = .ok (.goto 4, 3) := by decide +kernel
theorem d_M_isRetained_17 : decode prog_6_method_8_code 17 = .ok (.iconst 0, 1) := by decide +kernel
theorem d_M_isRetained_18 : decode prog_6_method_8_code 18 = .ok (.ireturn, 1) := by decide +kernel
theorem d_M_takeAway_0 : decode prog_6_method_12_code 0 = .ok (.aload_n 0, 1) := by decide +kernel
theorem d_M_takeAway_1 : decode prog_6_method_12_code 1 = .ok (.iconst 3, 1) := by decide +kernel
theorem d_M_takeAway_2 : decode prog_6_method_12_code 2 = .ok (.aload_n 0, 1) := by decide +kernel
theorem d_M_takeAway_3 : decode prog_6_method_12_code 3 = .ok (.getfield 7, 3) := by decide +kernel
theorem d_M_takeAway_6 : decode prog_6_method_12_code 6 = .ok (.iload_n 1, 1) := by decide +kernel
theorem d_M_takeAway_7 : decode prog_6_method_12_code 7 = .ok (.iaload, 1) := by decide +kernel
theorem d_M_takeAway_8 : decode prog_6_method_12_code 8 = .ok (.aload_n 0, 1) := by decide +kernel
theorem d_M_takeAway_9 : decode prog_6_method_12_code 9 = .ok (.getfield 13, 3) := by decide +kernel
theorem d_M_takeAway_12 : decode prog_6_method_12_code 12 = .ok (.iload_n 1, 1) := by decide +kernel
theorem d_M_takeAway_13 : decode prog_6_method_12_code 13 = .ok (.iaload, 1) := by decide +kernel
theorem d_M_takeAway_14 : decode prog_6_method_12_code 14 = .ok (.invokevirtual 100, 3) := by decide +kernel
theorem d_M_takeAway_17 : decode prog_6_method_12_code 17 = .ok (.aload_n 0, 1) := by decide +kernel
theorem d_M_takeAway_18 : decode prog_6_method_12_code 18 = .ok (.dup, 1) := by decide +kernel
theorem d_M_takeAway_19 : decode prog_6_method_12_code 19 = .ok (.getfield 80, 3) := by decide +kernel
theorem d_M_takeAway_22 : decode prog_6_method_12_code 22 = .ok (.iconst 1, 1) := by decide +kernel
theorem d_M_takeAway_23 : decode prog_6_method_12_code 23 = .ok (.isub, 1) := by decide +kernel
theorem d_M_takeAway_24 : decode prog_6_method_12_code 24 = .ok (.putfield 80, 3) := by decide +kernel
theorem d_M_takeAway_27 : decode prog_6_method_12_code 27 = .ok (.iload_n 1, 1) := by decide +kernel
theorem d_M_takeAway_28 : decode prog_6_method_12_code 28 = .ok (.istore_n 2, 1) := by decide +kernel
theorem d_M_takeAway_29 : decode prog_6_method_12_code 29 = .ok (.iload_n 2, 1) := by decide +kernel
theorem d_M_takeAway_30 : decode prog_6_method_12_code 30 = .ok (.aload_n 0, 1) := by decide +kernel
theorem d_M_takeAway_31 : decode prog_6_method_12_code 31 = .ok (.getfield 80, 3) := by decide +kernel
theorem d_M_takeAway_34 : decode prog_6_method_12_code 34 = .ok (.if_icmp .ge 177, 3) := by decide +kernel
theorem d_M_takeAway_37 : decode prog_6_method_12_code 37 = .ok (.aload_n 0, 1) := by decide +kernel
theorem d_M_takeAway_38 : decode prog_6_method_12_code 38 = .ok (.getfield 7, 3) := by decide +kernel
theorem d_M_takeAway_41 : decode prog_6_method_12_code 41 = .ok (.iload_n 2, 1) := by decide +kernel
theorem d_M_takeAway_42 : decode prog_6_method_12_code 42 = .ok (.aload_n 0, 1) := by decide +kernel
theorem d_M_takeAway_43 : decode prog_6_method_12_code 43 = .ok (.getfield 7, 3) := by decide +kernel
theorem d_M_takeAway_46 : decode prog_6_method_12_code 46 = .ok (.iload_n 2, 1) := by decide +kernel
theorem d_M_takeAway_47 : decode prog_6_method_12_code 47 = .ok (.iconst 1, 1) := by decide +kernel
theorem d_M_takeAway_48 : decode prog_6_method_12_code 48 = .ok (.iadd, 1) := by decide +kernel
theorem d_M_takeAway_49 : decode prog_6_method_12_code 49 = .ok (.iaload, 1) := by decide +kernel
theorem d_M_takeAway_50 : decode prog_6_method_12_code 50 = .ok (.iastore, 1) := by decide +kernel
theorem d_M_takeAway_51 : decode prog_6_method_12_code 51 = .ok (.aload_n 0, 1) := by decide +kernel
theorem d_M_takeAway_52 : decode prog_6_method_12_code 52 = .ok (.getfield 13, 3) := by decide +kernel
theorem d_M_takeAway_55 : decode prog_6_method_12_code 55 = .ok (.iload_n 2, 1) := by decide +kernel
theorem d_M_takeAway_56 : decode prog_6_method_12_code 56 = .ok (.aload_n 0, 1) := by decide +kernel
theorem d_M_takeAway_57 : decode prog_6_method_12_code 57 = .ok (.getfield 13, 3) := by decide +kernel
theorem d_M_takeAway_60 : decode prog_6_method_12_code 60 = .ok (.iload_n 2, 1) := by decide +kernel
theorem d_M_takeAway_61 : decode prog_6_method_12_code 61 = .ok (.iconst 1, 1) := by decide +kernel
theorem d_M_takeAway_62 : decode prog_6_method_12_code 62 = .ok (.iadd, 1) := by decide +kernel
theorem d_M_takeAway_63 : decode prog_6_method_12_code 63 = .ok (.iaload, 1) := by decide +kernel
theorem d_M_takeAway_64 : decode prog_6_method_12_code 64 = .ok (.iastore, 1) := by decide +kernel
theorem d_M_takeAway_65 : decode prog_6_method_12_code 65 = .ok (.aload_n 0, 1) := by decide +kernel
theorem d_M_takeAway_66 : decode prog_6_method_12_code 66 = .ok (.getfield 16, 3) := by decide +kernel
theorem d_M_takeAway_69 : decode prog_6_method_12_code 69 = .ok (.iload_n 2, 1) := by decide +kernel
theorem d_M_takeAway_70 : decode prog_6_method_12_code 70 = .ok (.aload_n 0, 1) := by decide +kernel
theorem d_M_takeAway_71 : decode prog_6_method_12_code 71 = .ok (.getfield 16, 3) := by decide +kernel
theorem d_M_takeAway_74 : decode prog_6_method_12_code 74 = .ok (.iload_n 2, 1) := by decide +kernel
theorem d_M_takeAway_75 : decode prog_6_method_12_code 75 = .ok (.iconst 1, 1) := by decide +kernel
theorem d_M_takeAway_76 : decode prog_6_method_12_code 76 = .ok (.iadd, 1) := by decide +kernel
theorem d_M_takeAway_77 : decode prog_6_method_12_code 77 = .ok (.iaload, 1) := by decide +kernel
theorem d_M_takeAway_78 : decode prog_6_method_12_code 78 = .ok (.iastore, 1) := by decide +kernel
theorem d_M_takeAway_79 : decode prog_6_method_12_code 79 = .ok (.aload_n 0, 1) := by decide +kernel
theorem d_M_takeAway_80 : decode prog_6_method_12_code 80 = .ok (.getfield 19, 3) := by decide +kernel
theorem d_M_takeAway_83 : decode prog_6_method_12_code 83 = .ok (.iload_n 2, 1) := by decide +kernel
theorem d_M_takeAway_84 : decode prog_6_method_12_code 84 = .ok (.aload_n 0, 1) := by decide +kernel
theorem d_M_takeAway_85 : decode prog_6_method_12_code 85 = .ok (.getfield 19, 3) := by decide +kernel
theorem d_M_takeAway_88 : decode prog_6_method_12_code 88 = .ok (.iload_n 2, 1) := by decide +kernel
theorem d_M_takeAway_89 : decode prog_6_method_12_code 89 = .ok (.iconst 1, 1) := by decide +kernel
theorem d_M_takeAway_90 : decode prog_6_method_12_code 90 = .ok (.iadd, 1) := by decide +kernel
theorem d_M_takeAway_91 : decode prog_6_method_12_code 91 = .ok (.iaload, 1) := by decide +kernel
theorem d_M_takeAway_92 : decode prog_6_method_12_code 92 = .ok (.iastore, 1) := by decide +kernel
theorem d_M_takeAway_93 : decode prog_6_method_12_code 93 = .ok (.aload_n 0, 1) := by decide +kernel
theorem d_M_takeAway_94 : decode prog_6_method_12_code 94 = .ok (.getfield 22, 3) := by decide +kernel
theorem d_M_takeAway_97 : decode prog_6_method_12_code 97 = .ok (.iload_n 2, 1) := by decide +kernel
theorem d_M_takeAway_98 : decode prog_6_method_12_code 98 = .ok (.aload_n 0, 1) := by decide +kernel
theorem d_M_takeAway_99 : decode prog_6_method_12_code 99 = .ok (.getfield 22, 3) := by decide +kernel
theorem d_M_takeAway_102 : decode prog_6_method_12_code 102 = .ok (.iload_n 2, 1) := by decide +kernel
theorem d_M_takeAway_103 : decode prog_6_method_12_code 103 = .ok (.iconst 1, 1) := by decide +kernel
theorem d_M_takeAway_104 : decode prog_6_method_12_code 104 = .ok (.iadd, 1) := by decide +kernel
theorem d_M_takeAway_105 : decode prog_6_method_12_code 105 = .ok (.iaload, 1) := by decide +kernel
theorem d_M_takeAway_106 : decode prog_6_method_12_code 106 = .ok (.iastore, 1) := by decide +kernel
theorem d_M_takeAway_107 : decode prog_6_method_12_code 107 = .ok (.aload_n 0, 1) := by decide +kernel
theorem d_M_takeAway_108 : decode prog_6_method_12_code 108 = .ok (.getfield 25, 3) := by decide +kernel
theorem d_M_takeAway_111 : decode prog_6_method_12_code 111 = .ok (.iload_n 2, 1) := by decide +kernel
theorem d_M_takeAway_112 : decode prog_6_method_12_code 112 = .ok (.aload_n 0, 1) := by decide +kernel
theorem d_M_takeAway_113 : decode prog_6_method_12_code 113 = .ok (.getfield 25, 3) := by decide +kernel
theorem d_M_takeAway_116 : decode prog_6_method_12_code 116 = .ok (.iload_n 2, 1) := by decide +kernel
theorem d_M_takeAway_117 : decode prog_6_method_12_code 117 = .ok (.iconst 1, 1) := by decide +kernel
theorem d_M_takeAway_118 : decode prog_6_method_12_code 118 = .ok (.iadd, 1) := by decide +kernel
theorem d_M_takeAway_119 : decode prog_6_method_12_code 119 = .ok (.iaload, 1) := by decide +kernel
theorem d_M_takeAway_120 : decode prog_6_method_12_code 120 = .ok (.iastore, 1) := by decide +kernel
theorem d_M_takeAway_121 : decode prog_6_method_12_code 121 = .ok (.aload_n 0, 1) := by decide +kernel
theorem d_M_takeAway_122 : decode prog_6_method_12_code 122 = .ok (.getfield 28, 3) := by decide +kernel
theorem d_M_takeAway_125 : decode prog_6_method_12_code 125 = .ok (.iload_n 2, 1) := by decide +kernel
theorem d_M_takeAway_126 : decode prog_6_method_12_code 126 = .ok (.aload_n 0, 1) := by decide +kernel
theorem d_M_takeAway_127 : decode prog_6_method_12_code 127 = .ok (.getfield 28, 3) := by decide +kernel
theorem d_M_takeAway_130 : decode prog_6_method_12_code 130 = .ok (.iload_n 2, 1) := by decide +kernel
theorem d_M_takeAway_131 : decode prog_6_method_12_code 131 = .ok (.iconst 1, 1) := by decide +kernel
theorem d_M_takeAway_132 : decode prog_6_method_12_code 132 = .ok (.iadd, 1) := by decide +kernel
theorem d_M_takeAway_133 : decode prog_6_method_12_code 133 = .ok (.iaload, 1) := by decide +kernel
theorem d_M_takeAway_134 : decode prog_6_method_12_code 134 = .ok (.iastore, 1) := by decide +kernel
theorem d_M_takeAway_135 : decode prog_6_method_12_code 135 = .ok (.aload_n 0, 1) := by decide +kernel
theorem d_M_takeAway_136 : decode prog_6_method_12_code 136 = .ok (.getfield 31, 3) := by decide +kernel
theorem d_M_takeAway_139 : decode prog_6_method_12_code 139 = .ok (.iload_n 2, 1) := by decide +kernel
theorem d_M_takeAway_140 : decode prog_6_method_12_code 140 = .ok (.aload_n 0, 1) := by decide +kernel
theorem d_M_takeAway_141 : decode prog_6_method_12_code 141 = .ok (.getfield 31, 3) := by decide +kernel
theorem d_M_takeAway_144 : decode prog_6_method_12_code 144 = .ok (.iload_n 2, 1) := by decide +kernel
theorem d_M_takeAway_145 : decode prog_6_method_12_code 145 = .ok (.iconst 1, 1) := by decide +kernel
theorem d_M_takeAway_146 : decode prog_6_method_12_code 146 = .ok (.iadd, 1) := by decide +kernel
theorem d_M_takeAway_147 : decode prog_6_method_12_code 147 = .ok (.iaload, 1) := by decide +kernel
theorem d_M_takeAway_148 : decode prog_6_method_12_code 148 = .ok (.iastore, 1) := by decide +kernel
theorem d_M_takeAway_149 : decode prog_6_method_12_code 149 = .ok (.aload_n 0, 1) := by decide +kernel
theorem d_M_takeAway_150 : decode prog_6_method_12_code 150 = .ok (.getfield 34, 3) := by decide +kernel
theorem d_M_takeAway_153 : decode prog_6_method_12_code 153 = .ok (.iload_n 2, 1) := by decide +kernel
theorem d_M_takeAway_154 : decode prog_6_method_12_code 154 = .ok (.aload_n 0, 1) := by decide +kernel
theorem d_M_takeAway_155 : decode prog_6_method_12_code 155 = .ok (.getfield 34, 3) := by decide +kernel
theorem d_M_takeAway_158 : decode prog_6_method_12_code 158 = .ok (.iload_n 2, 1) := by decide +kernel
theorem d_M_takeAway_159 : decode prog_6_method_12_code 159 = .ok (.iconst 1, 1) := by decide +kernel
theorem d_M_takeAway_160 : decode prog_6_method_12_code 160 = .ok (.iadd, 1) := by decide +kernel
theorem d_M_takeAway_161 : decode prog_6_method_12_code 161 = .ok (.baload, 1) := by decide +kernel
theorem d_M_takeAway_162 : decode prog_6_method_12_code 162 = .ok (.bastore, 1) := by decide +kernel
theorem d_M_takeAway_163 : decode prog_6_method_12_code 163 = .ok (.aload_n 0, 1) := by decide +kernel
theorem d_M_takeAway_164 : decode prog_6_method_12_code 164 = .ok (.getfield 38, 3) := by decide +kernel
theorem d_M_takeAway_167 : decode prog_6_method_12_code 167 = .ok (.iload_n 2, 1) := by decide +kernel
theorem d_M_takeAway_168 : decode prog_6_method_12_code 168 = .ok (.aload_n 0, 1) := by decide +kernel
theorem d_M_takeAway_169 : decode prog_6_method_12_code 169 = .ok (.getfield 38, 3) := by decide +kernel
theorem d_M_takeAway_172 : decode prog_6_method_12_code 172 = .ok (.iload_n 2, 1) := by decide +kernel
theorem d_M_takeAway_173 : decode prog_6_method_12_code 173 = .ok (.iconst 1, 1) := by decide +kernel
theorem d_M_takeAway_174 : decode prog_6_method_12_code 174 = .ok (.iadd, 1) := by decide +kernel
theorem d_M_takeAway_175 : decode prog_6_method_12_code 175 = .ok (.iaload, 1) := by decide +kernel
theorem d_M_takeAway_176 : decode prog_6_method_12_code 176 = .ok (.iastore, 1) := by decide +kernel
theorem d_M_takeAway_177 : decode prog_6_method_12_code 177 = .ok (.aload_n 0, 1) := by decide +kernel
theorem d_M_takeAway_178 : decode prog_6_method_12_code 178 = .ok (.getfield 41, 3) := by decide +kernel
theorem d_M_takeAway_181 : decode prog_6_method_12_code 181 = .ok (.iload_n 2, 1) := by decide +kernel
theorem d_M_takeAway_182 : decode prog_6_method_12_code 182 = .ok (.aload_n 0, 1) := by decide +kernel
theorem d_M_takeAway_183 : decode prog_6_method_12_code 183 = .ok (.getfield 41, 3) := by decide +kernel
theorem d_M_takeAway_186 : decode prog_6_method_12_code 186 = .ok (.iload_n 2, 1) := by decide +kernel
theorem d_M_takeAway_187 : decode prog_6_method_12_code 187 = .ok (.iconst 1, 1) := by decide +kernel
theorem d_M_takeAway_188 : decode prog_6_method_12_code 188 = .ok (.iadd, 1) := by decide +kernel
theorem d_M_takeAway_189 : decode prog_6_method_12_code 189 = .ok (.iaload, 1) := by decide +kernel
theorem d_M_takeAway_190 : decode prog_6_method_12_code 190 = .ok (.iastore, 1) := by decide +kernel
theorem d_M_takeAway_191 : decode prog_6_method_12_code 191 = .ok (.aload_n 0, 1) := by decide +kernel
theorem d_M_takeAway_192 : decode prog_6_method_12_code 192 = .ok (.getfield 44, 3) := by decide +kernel
theorem d_M_takeAway_195 : decode prog_6_method_12_code 195 = .ok (.iload_n 2, 1) := by decide +kernel
theorem d_M_takeAway_196 : decode prog_6_method_12_code 196 = .ok (.aload_n 0, 1) := by decide +kernel
theorem d_M_takeAway_197 : decode prog_6_method_12_code 197 = .ok (.getfield 44, 3) := by decide +kernel
theorem d_M_takeAway_200 : decode prog_6_method_12_code 200 = .ok (.iload_n 2, 1) := by decide +kernel
theorem d_M_takeAway_201 : decode prog_6_method_12_code 201 = .ok (.iconst 1, 1) := by decide +kernel
theorem d_M_takeAway_202 : decode prog_6_method_12_code 202 = .ok (.iadd, 1) := by decide +kernel
theorem d_M_takeAway_203 : decode prog_6_method_12_code 203 = .ok (.iaload, 1) := by decide +kernel
theorem d_M_takeAway_204 : decode prog_6_method_12_code 204 = .ok (.iastore, 1) := by decide +kernel
theorem d_M_takeAway_205 : decode prog_6_method_12_code 205 = .ok (.iinc 2 1, 3) := by decide +kernel
theorem d_M_takeAway_208 : decode prog_6_method_12_code 208 = .ok (.goto (-179), 3) := by decide +kernel
theorem d_M_takeAway_211 : decode prog_6_method_12_code 211 = .ok (.return_, 1) := by decide +kernel
theorem d_M_retain_0 : decode prog_6_method_16_code 0 = .ok (.aload_n 0, 1) := by decide +kernel
theorem d_M_retain_1 : decode prog_6_method_16_code 1 = .ok (.iload_n 1, 1) := by decide +kernel
theorem d_M_retain_2 : decode prog_6_method_16_code 2 = .ok (.invokevirtual 113, 3) := by decide +kernel
theorem d_M_retain_5 : decode prog_6_method_16_code 5 = .ok (.istore 4, 2) := by decide +kernel
theorem d_M_retain_7 : decode prog_6_method_16_code 7 = .ok (.aload_n 0, 1) := by decide +kernel
theorem d_M_retain_8 : decode prog_6_method_16_code 8 = .ok (.iload 4, 2) := by decide +kernel
theorem d_M_retain_10 : decode prog_6_method_16_code 10 = .ok (.ifCond .ge 7, 3) := by decide +kernel
theorem d_M_retain_13 : decode prog_6_method_16_code 13 = .ok (.iconst 1, 1) := by decide +kernel
theorem d_M_retain_14 : decode prog_6_method_16_code 14 = .ok (.goto 19, 3) := by decide +kernel
theorem d_M_retain_17 : decode prog_6_method_16_code 17 = .ok (.iload_n 2, 1) := by decide +kernel
theorem d_M_retain_18 : decode prog_6_method_16_code 18 = .ok (.ifCond .lt 10, 3) := by decide +kernel
theorem d_M_retain_21 : decode prog_6_method_16_code 21 = .ok (.iload_n 2, 1) := by decide +kernel
theorem d_M_retain_22 : decode prog_6_method_16_code 22 = .ok (.sipush 10000, 3) := by decide +kernel
theorem d_M_retain_25 : decode prog_6_method_16_code 25 = .ok (.if_icmp .le 7, 3) := by decide +kernel
theorem d_M_retain_28 : decode prog_6_method_16_code 28 = .ok (.iconst 2, 1) := by decide +kernel
theorem d_M_retain_29 : decode prog_6_method_16_code 29 = .ok (.goto 4, 3) := by decide +kernel
theorem d_M_retain_32 : decode prog_6_method_16_code 32 = .ok (.iconst 0, 1) := by decide +kernel
theorem d_M_retain_33 : decode prog_6_method_16_code 33 = .ok (.putfield 68, 3) := by decide +kernel
theorem d_M_retain_36 : decode prog_6_method_16_code 36 = .ok (.aload_n 0, 1) := by decide +kernel
theorem d_M_retain_37 : decode prog_6_method_16_code 37 = .ok (.getfield 68, 3) := by decide +kernel
theorem d_M_retain_40 : decode prog_6_method_16_code 40 = .ok (.ifCond .ne 47, 3) := by decide +kernel
theorem d_M_retain_43 : decode prog_6_method_16_code 43 = .ok (.aload_n 0, 1) := by decide +kernel
theorem d_M_retain_44 : decode prog_6_method_16_code 44 = .ok (.iload 4, 2) := by decide +kernel
theorem d_M_retain_46 : decode prog_6_method_16_code 46 = .ok (.invokevirtual 90, 3) := by decide +kernel
theorem d_M_retain_49 : decode prog_6_method_16_code 49 = .ok (.ifCond .eq 38, 3) := by decide +kernel
theorem d_M_retain_52 : decode prog_6_method_16_code 52 = .ok (.aload_n 0, 1) := by decide +kernel
theorem d_M_retain_53 : decode prog_6_method_16_code 53 = .ok (.getfield 34, 3) := by decide +kernel
theorem d_M_retain_56 : decode prog_6_method_16_code 56 = .ok (.iload 4, 2) := by decide +kernel
theorem d_M_retain_58 : decode prog_6_method_16_code 58 = .ok (.baload, 1) := by decide +kernel
theorem d_M_retain_59 : decode prog_6_method_16_code 59 = .ok (.ifCond .eq 28, 3) := by decide +kernel
theorem d_M_retain_62 : decode prog_6_method_16_code 62 = .ok (.iload_n 3, 1) := by decide +kernel
theorem d_M_retain_63 : decode prog_6_method_16_code 63 = .ok (.ifCond .eq 19, 3) := by decide +kernel
theorem d_M_retain_66 : decode prog_6_method_16_code 66 = .ok (.aload_n 0, 1) := by decide +kernel
theorem d_M_retain_67 : decode prog_6_method_16_code 67 = .ok (.getfield 75, 3) := by decide +kernel
theorem d_M_retain_70 : decode prog_6_method_16_code 70 = .ok (.iload_n 2, 1) := by decide +kernel
theorem d_M_retain_71 : decode prog_6_method_16_code 71 = .ok (.iadd, 1) := by decide +kernel
theorem d_M_retain_72 : decode prog_6_method_16_code 72 = .ok (.aload_n 0, 1) := by decide +kernel
theorem d_M_retain_73 : decode prog_6_method_16_code 73 = .ok (.getfield 31, 3) := by decide +kernel
theorem d_M_retain_76 : decode prog_6_method_16_code 76 = .ok (.iload 4, 2) := by decide +kernel
theorem d_M_retain_78 : decode prog_6_method_16_code 78 = .ok (.iaload, 1) := by decide +kernel
theorem d_M_retain_79 : decode prog_6_method_16_code 79 = .ok (.if_icmp .ge 8, 3) := by decide +kernel
theorem d_M_retain_82 : decode prog_6_method_16_code 82 = .ok (.aload_n 0, 1) := by decide +kernel
theorem d_M_retain_83 : decode prog_6_method_16_code 83 = .ok (.iconst 3, 1) := by decide +kernel
theorem d_M_retain_84 : decode prog_6_method_16_code 84 = .ok (.putfield 68, 3) := by decide +kernel
theorem d_M_retain_87 : decode prog_6_method_16_code 87 = .ok (.aload_n 0, 1) := by decide +kernel
theorem d_M_retain_88 : decode prog_6_method_16_code 88 = .ok (.getfield 68, 3) := by decide +kernel
theorem d_M_retain_91 : decode prog_6_method_16_code 91 = .ok (.ifCond .ne 37, 3) := by decide +kernel
theorem d_M_retain_94 : decode prog_6_method_16_code 94 = .ok (.aload_n 0, 1) := by decide +kernel
theorem d_M_retain_95 : decode prog_6_method_16_code 95 = .ok (.getfield 31, 3) := by decide +kernel
theorem d_M_retain_98 : decode prog_6_method_16_code 98 = .ok (.iload 4, 2) := by decide +kernel
theorem d_M_retain_100 : decode prog_6_method_16_code 100 = .ok (.aload_n 0, 1) := by decide +kernel
theorem d_M_retain_101 : decode prog_6_method_16_code 101 = .ok (.getfield 75, 3) := by decide +kernel
theorem d_M_retain_104 : decode prog_6_method_16_code 104 = .ok (.iload_n 2, 1) := by decide +kernel
theorem d_M_retain_105 : decode prog_6_method_16_code 105 = .ok (.iadd, 1) := by decide +kernel
theorem d_M_retain_106 : decode prog_6_method_16_code 106 = .ok (.iastore, 1) := by decide +kernel
theorem d_M_retain_107 : decode prog_6_method_16_code 107 = .ok (.aload_n 0, 1) := by decide +kernel
theorem d_M_retain_108 : decode prog_6_method_16_code 108 = .ok (.getfield 34, 3) := by decide +kernel
theorem d_M_retain_111 : decode prog_6_method_16_code 111 = .ok (.iload 4, 2) := by decide +kernel
theorem d_M_retain_113 : decode prog_6_method_16_code 113 = .ok (.iload_n 3, 1) := by decide +kernel
theorem d_M_retain_114 : decode prog_6_method_16_code 114 = .ok (.bastore, 1) := by decide +kernel
theorem d_M_retain_115 : decode prog_6_method_16_code 115 = .ok (.aload_n 0, 1) := by decide +kernel
theorem d_M_retain_116 : decode prog_6_method_16_code 116 = .ok (.iconst 5, 1) := by decide +kernel
theorem d_M_retain_117 : decode prog_6_method_16_code 117 = .ok (.iload_n 1, 1) := by decide +kernel
theorem d_M_retain_118 : decode prog_6_method_16_code 118 = .ok (.aload_n 0, 1) := by decide +kernel
theorem d_M_retain_119 : decode prog_6_method_16_code 119 = .ok (.getfield 31, 3) := by decide +kernel
theorem d_M_retain_122 : decode prog_6_method_16_code 122 = .ok (.iload 4, 2) := by decide +kernel
theorem d_M_retain_124 : decode prog_6_method_16_code 124 = .ok (.iaload, 1) := by decide +kernel
theorem d_M_retain_125 : decode prog_6_method_16_code 125 = .ok (.invokevirtual 100, 3) := by decide +kernel
theorem d_M_retain_128 : decode prog_6_method_16_code 128 = .ok (.return_, 1) := by decide +kernel
theorem d_M_object_0 : decode prog_6_method_5_code 0 = .ok (.aload_n 0, 1) := by decide +kernel
theorem d_M_object_1 : decode prog_6_method_5_code 1 = .ok (.iload_n 1, 1) := by decide +kernel
theorem d_M_object_2 : decode prog_6_method_5_code 2 = .ok (.invokevirtual 83, 3) := by decide +kernel
theorem d_M_object_5 : decode prog_6_method_5_code 5 = .ok (.istore_n 2, 1) := by decide +kernel
theorem d_M_object_6 : decode prog_6_method_5_code 6 = .ok (.iload_n 2, 1) := by decide +kernel
theorem d_M_object_7 : decode prog_6_method_5_code 7 = .ok (.ifCond .lt 16, 3) := by decide +kernel
theorem d_M_object_10 : decode prog_6_method_5_code 10 = .ok (.aload_n 0, 1) := by decide +kernel
theorem d_M_object_11 : decode prog_6_method_5_code 11 = .ok (.getfield 16, 3) := by decide +kernel
theorem d_M_object_14 : decode prog_6_method_5_code 14 = .ok (.iload_n 2, 1) := by decide +kernel
theorem d_M_object_15 : decode prog_6_method_5_code 15 = .ok (.iaload, 1) := by decide +kernel
theorem d_M_object_16 : decode prog_6_method_5_code 16 = .ok (.ifCond .le 7, 3) := by decide +kernel
theorem d_M_object_19 : decode prog_6_method_5_code 19 = .ok (.iload_n 2, 1) := by decide +kernel
theorem d_M_object_20 : decode prog_6_method_5_code 20 = .ok (.goto 4, 3) := by decide +kernel
theorem d_M_object_23 : decode prog_6_method_5_code 23 = .ok (.iconst (-1), 1) := by decide +kernel
theorem d_M_object_24 : decode prog_6_method_5_code 24 = .ok (.ireturn, 1) := by decide +kernel
theorem d_M_hold_0 : decode prog_6_method_17_code 0 = .ok (.aload_n 0, 1) := by decide +kernel
theorem d_M_hold_1 : decode prog_6_method_17_code 1 = .ok (.iload_n 1, 1) := by decide +kernel
theorem d_M_hold_2 : decode prog_6_method_17_code 2 = .ok (.invokevirtual 113, 3) := by decide +kernel
theorem d_M_hold_5 : decode prog_6_method_17_code 5 = .ok (.istore 4, 2) := by decide +kernel
theorem d_M_hold_7 : decode prog_6_method_17_code 7 = .ok (.aload_n 0, 1) := by decide +kernel
theorem d_M_hold_8 : decode prog_6_method_17_code 8 = .ok (.iload 4, 2) := by decide +kernel
theorem d_M_hold_10 : decode prog_6_method_17_code 10 = .ok (.ifCond .ge 7, 3) := by decide +kernel
theorem d_M_hold_13 : decode prog_6_method_17_code 13 = .ok (.iconst 1, 1) := by decide +kernel
theorem d_M_hold_14 : decode prog_6_method_17_code 14 = .ok (.goto 18, 3) := by decide +kernel
theorem d_M_hold_17 : decode prog_6_method_17_code 17 = .ok (.iload_n 2, 1) := by decide +kernel
theorem d_M_hold_18 : decode prog_6_method_17_code 18 = .ok (.ifCond .lt 9, 3) := by decide +kernel
theorem d_M_hold_21 : decode prog_6_method_17_code 21 = .ok (.iload_n 2, 1) := by decide +kernel
theorem d_M_hold_22 : decode prog_6_method_17_code 22 = .ok (.bipush 7, 2) := by decide +kernel
theorem d_M_hold_24 : decode prog_6_method_17_code 24 = .ok (.if_icmp .le 7, 3) := by decide +kernel
theorem d_M_hold_27 : decode prog_6_method_17_code 27 = .ok (.iconst 2, 1) := by decide +kernel
theorem d_M_hold_28 : decode prog_6_method_17_code 28 = .ok (.goto 4, 3) := by decide +kernel
theorem d_M_hold_31 : decode prog_6_method_17_code 31 = .ok (.iconst 0, 1) := by decide +kernel
theorem d_M_hold_32 : decode prog_6_method_17_code 32 = .ok (.putfield 68, 3) := by decide +kernel
theorem d_M_hold_35 : decode prog_6_method_17_code 35 = .ok (.aload_n 0, 1) := by decide +kernel
theorem d_M_hold_36 : decode prog_6_method_17_code 36 = .ok (.getfield 68, 3) := by decide +kernel
theorem d_M_hold_39 : decode prog_6_method_17_code 39 = .ok (.ifCond .gt 26, 3) := by decide +kernel
theorem d_M_hold_42 : decode prog_6_method_17_code 42 = .ok (.aload_n 0, 1) := by decide +kernel
theorem d_M_hold_43 : decode prog_6_method_17_code 43 = .ok (.getfield 38, 3) := by decide +kernel
theorem d_M_hold_46 : decode prog_6_method_17_code 46 = .ok (.iload 4, 2) := by decide +kernel
theorem d_M_hold_48 : decode prog_6_method_17_code 48 = .ok (.iaload, 1) := by decide +kernel
theorem d_M_hold_49 : decode prog_6_method_17_code 49 = .ok (.iload_n 2, 1) := by decide +kernel
theorem d_M_hold_50 : decode prog_6_method_17_code 50 = .ok (.ishr, 1) := by decide +kernel
theorem d_M_hold_51 : decode prog_6_method_17_code 51 = .ok (.iconst 1, 1) := by decide +kernel
theorem d_M_hold_52 : decode prog_6_method_17_code 52 = .ok (.iand, 1) := by decide +kernel
theorem d_M_hold_53 : decode prog_6_method_17_code 53 = .ok (.iload_n 3, 1) := by decide +kernel
theorem d_M_hold_54 : decode prog_6_method_17_code 54 = .ok (.ifCond .eq 7, 3) := by decide +kernel
theorem d_M_hold_57 : decode prog_6_method_17_code 57 = .ok (.iconst 1, 1) := by decide +kernel
theorem d_M_hold_58 : decode prog_6_method_17_code 58 = .ok (.goto 4, 3) := by decide +kernel
theorem d_M_hold_61 : decode prog_6_method_17_code 61 = .ok (.iconst 0, 1) := by decide +kernel
theorem d_M_hold_62 : decode prog_6_method_17_code 62 = .ok (.if_icmp .ne 5, 3) := by decide +kernel
theorem d_M_hold_65 : decode prog_6_method_17_code 65 = .ok (.iconst 0, 1) := by decide +kernel
theorem d_M_hold_66 : decode prog_6_method_17_code 66 = .ok (.ireturn, 1) := by decide +kernel
theorem d_M_hold_67 : decode prog_6_method_17_code 67 = .ok (.aload_n 0, 1) := by decide +kernel
theorem d_M_hold_68 : decode prog_6_method_17_code 68 = .ok (.getfield 38, 3) := by decide +kernel
theorem d_M_hold_71 : decode prog_6_method_17_code 71 = .ok (.iload 4, 2) := by decide +kernel
theorem d_M_hold_73 : decode prog_6_method_17_code 73 = .ok (.dup2, 1) := by decide +kernel
theorem d_M_hold_74 : decode prog_6_method_17_code 74 = .ok (.iaload, 1) := by decide +kernel
theorem d_M_hold_75 : decode prog_6_method_17_code 75 = .ok (.iconst 1, 1) := by decide +kernel
theorem d_M_hold_76 : decode prog_6_method_17_code 76 = .ok (.iload_n 2, 1) := by decide +kernel
theorem d_M_hold_77 : decode prog_6_method_17_code 77 = .ok (.ishl, 1) := by decide +kernel
theorem d_M_hold_78 : decode prog_6_method_17_code 78 = .ok (.ixor, 1) := by decide +kernel
theorem d_M_hold_79 : decode prog_6_method_17_code 79 = .ok (.iastore, 1) := by decide +kernel
theorem d_M_hold_80 : decode prog_6_method_17_code 80 = .ok (.aload_n 0, 1) := by decide +kernel
theorem d_M_hold_81 : decode prog_6_method_17_code 81 = .ok (.iload_n 3, 1) := by decide +kernel
theorem d_M_hold_82 : decode prog_6_method_17_code 82 = .ok (.ifCond .eq 8, 3) := by decide +kernel
theorem d_M_hold_85 : decode prog_6_method_17_code 85 = .ok (.bipush 6, 2) := by decide +kernel
theorem d_M_hold_87 : decode prog_6_method_17_code 87 = .ok (.goto 5, 3) := by decide +kernel
theorem d_M_hold_90 : decode prog_6_method_17_code 90 = .ok (.bipush 7, 2) := by decide +kernel
theorem d_M_hold_92 : decode prog_6_method_17_code 92 = .ok (.iload_n 1, 1) := by decide +kernel
theorem d_M_hold_93 : decode prog_6_method_17_code 93 = .ok (.iload_n 2, 1) := by decide +kernel
theorem d_M_hold_94 : decode prog_6_method_17_code 94 = .ok (.invokevirtual 100, 3) := by decide +kernel
theorem d_M_hold_97 : decode prog_6_method_17_code 97 = .ok (.iconst 1, 1) := by decide +kernel
theorem d_M_hold_98 : decode prog_6_method_17_code 98 = .ok (.ireturn, 1) := by decide +kernel
theorem d_M_rule_0 : decode prog_6_method_18_code 0 = .ok (.aload_n 0, 1) := by decide +kernel
theorem d_M_rule_1 : decode prog_6_method_18_code 1 = .ok (.iload_n 1, 1) := by decide +kernel
theorem d_M_rule_2 : decode prog_6_method_18_code 2 = .ok (.ifCond .lt 43, 3) := by decide +kernel
theorem d_M_rule_5 : decode prog_6_method_18_code 5 = .ok (.iload_n 1, 1) := by decide +kernel
theorem d_M_rule_6 : decode prog_6_method_18_code 6 = .ok (.iconst 5, 1) := by decide +kernel
theorem d_M_rule_7 : decode prog_6_method_18_code 7 = .ok (.if_icmp .gt 38, 3) := by decide +kernel
theorem d_M_rule_10 : decode prog_6_method_18_code 10 = .ok (.iload_n 2, 1) := by decide +kernel
theorem d_M_rule_11 : decode prog_6_method_18_code 11 = .ok (.iconst (-1), 1) := by decide +kernel
theorem d_M_rule_12 : decode prog_6_method_18_code 12 = .ok (.if_icmp .lt 33, 3) := by decide +kernel
theorem d_M_rule_15 : decode prog_6_method_18_code 15 = .ok (.iload_n 2, 1) := by decide +kernel
theorem d_M_rule_16 : decode prog_6_method_18_code 16 = .ok (.iconst 3, 1) := by decide +kernel
theorem d_M_rule_17 : decode prog_6_method_18_code 17 = .ok (.if_icmp .gt 28, 3) := by decide +kernel
theorem d_M_rule_20 : decode prog_6_method_18_code 20 = .ok (.iload 4, 2) := by decide +kernel
theorem d_M_rule_22 : decode prog_6_method_18_code 22 = .ok (.ifCond .lt 23, 3) := by decide +kernel
theorem d_M_rule_25 : decode prog_6_method_18_code 25 = .ok (.iload 4, 2) := by decide +kernel
theorem d_M_rule_27 : decode prog_6_method_18_code 27 = .ok (.sipush 10000, 3) := by decide +kernel
theorem d_M_rule_30 : decode prog_6_method_18_code 30 = .ok (.if_icmp .gt 15, 3) := by decide +kernel
theorem d_M_rule_33 : decode prog_6_method_18_code 33 = .ok (.iload 5, 2) := by decide +kernel
theorem d_M_rule_35 : decode prog_6_method_18_code 35 = .ok (.iconst 1, 1) := by decide +kernel
theorem d_M_rule_36 : decode prog_6_method_18_code 36 = .ok (.if_icmp .lt 9, 3) := by decide +kernel
theorem d_M_rule_39 : decode prog_6_method_18_code 39 = .ok (.iload 5, 2) := by decide +kernel
theorem d_M_rule_41 : decode prog_6_method_18_code 41 = .ok (.iconst 4, 1) := by decide +kernel
theorem d_M_rule_42 : decode prog_6_method_18_code 42 = .ok (.if_icmp .le 7, 3) := by decide +kernel
theorem d_M_rule_45 : decode prog_6_method_18_code 45 = .ok (.iconst 1, 1) := by decide +kernel
theorem d_M_rule_46 : decode prog_6_method_18_code 46 = .ok (.goto 4, 3) := by decide +kernel
theorem d_M_rule_49 : decode prog_6_method_18_code 49 = .ok (.iconst 0, 1) := by decide +kernel
theorem d_M_rule_50 : decode prog_6_method_18_code 50 = .ok (.putfield 68, 3) := by decide +kernel
theorem d_M_rule_53 : decode prog_6_method_18_code 53 = .ok (.aload_n 0, 1) := by decide +kernel
theorem d_M_rule_54 : decode prog_6_method_18_code 54 = .ok (.getfield 68, 3) := by decide +kernel
theorem d_M_rule_57 : decode prog_6_method_18_code 57 = .ok (.ifCond .ne 42, 3) := by decide +kernel
theorem d_M_rule_60 : decode prog_6_method_18_code 60 = .ok (.aload_n 0, 1) := by decide +kernel
theorem d_M_rule_61 : decode prog_6_method_18_code 61 = .ok (.getfield 47, 3) := by decide +kernel
theorem d_M_rule_64 : decode prog_6_method_18_code 64 = .ok (.iload_n 1, 1) := by decide +kernel
theorem d_M_rule_65 : decode prog_6_method_18_code 65 = .ok (.iload 5, 2) := by decide +kernel
theorem d_M_rule_67 : decode prog_6_method_18_code 67 = .ok (.iastore, 1) := by decide +kernel
theorem d_M_rule_68 : decode prog_6_method_18_code 68 = .ok (.aload_n 0, 1) := by decide +kernel
theorem d_M_rule_69 : decode prog_6_method_18_code 69 = .ok (.getfield 50, 3) := by decide +kernel
theorem d_M_rule_72 : decode prog_6_method_18_code 72 = .ok (.iload_n 1, 1) := by decide +kernel
theorem d_M_rule_73 : decode prog_6_method_18_code 73 = .ok (.iload_n 2, 1) := by decide +kernel
theorem d_M_rule_74 : decode prog_6_method_18_code 74 = .ok (.iastore, 1) := by decide +kernel
theorem d_M_rule_75 : decode prog_6_method_18_code 75 = .ok (.aload_n 0, 1) := by decide +kernel
theorem d_M_rule_76 : decode prog_6_method_18_code 76 = .ok (.getfield 53, 3) := by decide +kernel
theorem d_M_rule_79 : decode prog_6_method_18_code 79 = .ok (.iload_n 1, 1) := by decide +kernel
theorem d_M_rule_80 : decode prog_6_method_18_code 80 = .ok (.iload_n 3, 1) := by decide +kernel
theorem d_M_rule_81 : decode prog_6_method_18_code 81 = .ok (.bastore, 1) := by decide +kernel
theorem d_M_rule_82 : decode prog_6_method_18_code 82 = .ok (.aload_n 0, 1) := by decide +kernel
theorem d_M_rule_83 : decode prog_6_method_18_code 83 = .ok (.getfield 56, 3) := by decide +kernel
theorem d_M_rule_86 : decode prog_6_method_18_code 86 = .ok (.iload_n 1, 1) := by decide +kernel
theorem d_M_rule_87 : decode prog_6_method_18_code 87 = .ok (.iload 4, 2) := by decide +kernel
theorem d_M_rule_89 : decode prog_6_method_18_code 89 = .ok (.iastore, 1) := by decide +kernel
theorem d_M_rule_90 : decode prog_6_method_18_code 90 = .ok (.aload_n 0, 1) := by decide +kernel
theorem d_M_rule_91 : decode prog_6_method_18_code 91 = .ok (.bipush 9, 2) := by decide +kernel
theorem d_M_rule_93 : decode prog_6_method_18_code 93 = .ok (.iload_n 1, 1) := by decide +kernel
theorem d_M_rule_94 : decode prog_6_method_18_code 94 = .ok (.iload 5, 2) := by decide +kernel
theorem d_M_rule_96 : decode prog_6_method_18_code 96 = .ok (.invokevirtual 100, 3) := by decide +kernel
theorem d_M_rule_99 : decode prog_6_method_18_code 99 = .ok (.return_, 1) := by decide +kernel
theorem d_M_unrule_0 : decode prog_6_method_19_code 0 = .ok (.aload_n 0, 1) := by decide +kernel
theorem d_M_unrule_1 : decode prog_6_method_19_code 1 = .ok (.iload_n 1, 1) := by decide +kernel
theorem d_M_unrule_2 : decode prog_6_method_19_code 2 = .ok (.ifCond .lt 8, 3) := by decide +kernel
theorem d_M_unrule_5 : decode prog_6_method_19_code 5 = .ok (.iload_n 1, 1) := by decide +kernel
theorem d_M_unrule_6 : decode prog_6_method_19_code 6 = .ok (.iconst 5, 1) := by decide +kernel
theorem d_M_unrule_7 : decode prog_6_method_19_code 7 = .ok (.if_icmp .le 7, 3) := by decide +kernel
theorem d_M_unrule_10 : decode prog_6_method_19_code 10 = .ok (.iconst 1, 1) := by decide +kernel
theorem d_M_unrule_11 : decode prog_6_method_19_code 11 = .ok (.goto 4, 3) := by decide +kernel
theorem d_M_unrule_14 : decode prog_6_method_19_code 14 = .ok (.iconst 0, 1) := by decide +kernel
theorem d_M_unrule_15 : decode prog_6_method_19_code 15 = .ok (.putfield 68, 3) := by decide +kernel
theorem d_M_unrule_18 : decode prog_6_method_19_code 18 = .ok (.aload_n 0, 1) := by decide +kernel
theorem d_M_unrule_19 : decode prog_6_method_19_code 19 = .ok (.getfield 68, 3) := by decide +kernel
theorem d_M_unrule_22 : decode prog_6_method_19_code 22 = .ok (.ifCond .gt 12, 3) := by decide +kernel
theorem d_M_unrule_25 : decode prog_6_method_19_code 25 = .ok (.aload_n 0, 1) := by decide +kernel
theorem d_M_unrule_26 : decode prog_6_method_19_code 26 = .ok (.getfield 47, 3) := by decide +kernel
theorem d_M_unrule_29 : decode prog_6_method_19_code 29 = .ok (.iload_n 1, 1) := by decide +kernel
theorem d_M_unrule_30 : decode prog_6_method_19_code 30 = .ok (.iaload, 1) := by decide +kernel
theorem d_M_unrule_31 : decode prog_6_method_19_code 31 = .ok (.ifCond .ne 5, 3) := by decide +kernel
theorem d_M_unrule_34 : decode prog_6_method_19_code 34 = .ok (.iconst 0, 1) := by decide +kernel
theorem d_M_unrule_35 : decode prog_6_method_19_code 35 = .ok (.ireturn, 1) := by decide +kernel
theorem d_M_unrule_36 : decode prog_6_method_19_code 36 = .ok (.aload_n 0, 1) := by decide +kernel
theorem d_M_unrule_37 : decode prog_6_method_19_code 37 = .ok (.getfield 47, 3) := by decide +kernel
theorem d_M_unrule_40 : decode prog_6_method_19_code 40 = .ok (.iload_n 1, 1) := by decide +kernel
theorem d_M_unrule_41 : decode prog_6_method_19_code 41 = .ok (.iconst 0, 1) := by decide +kernel
theorem d_M_unrule_42 : decode prog_6_method_19_code 42 = .ok (.iastore, 1) := by decide +kernel
theorem d_M_unrule_43 : decode prog_6_method_19_code 43 = .ok (.aload_n 0, 1) := by decide +kernel
theorem d_M_unrule_44 : decode prog_6_method_19_code 44 = .ok (.bipush 10, 2) := by decide +kernel
theorem d_M_unrule_46 : decode prog_6_method_19_code 46 = .ok (.iload_n 1, 1) := by decide +kernel
theorem d_M_unrule_47 : decode prog_6_method_19_code 47 = .ok (.iconst 0, 1) := by decide +kernel
theorem d_M_unrule_48 : decode prog_6_method_19_code 48 = .ok (.invokevirtual 100, 3) := by decide +kernel
theorem d_M_unrule_51 : decode prog_6_method_19_code 51 = .ok (.iconst 1, 1) := by decide +kernel
theorem d_M_unrule_52 : decode prog_6_method_19_code 52 = .ok (.ireturn, 1) := by decide +kernel
end
section
theorem d_M_tick_0 : decode prog_6_method_24_code 0 = .ok (.aload_n 0, 1) := by decide +kernel
theorem d_M_tick_1 : decode prog_6_method_24_code 1 = .ok (.iload_n 1, 1) := by decide +kernel
theorem d_M_tick_2 : decode prog_6_method_24_code 2 = .ok (.ifCond .lt 10, 3) := by decide +kernel
theorem d_M_tick_5 : decode prog_6_method_24_code 5 = .ok (.iload_n 1, 1) := by decide +kernel
theorem d_M_tick_6 : decode prog_6_method_24_code 6 = .ok (.sipush 1000, 3) := by decide +kernel
theorem d_M_tick_9 : decode prog_6_method_24_code 9 = .ok (.if_icmp .le 7, 3) := by decide +kernel
theorem d_M_tick_12 : decode prog_6_method_24_code 12 = .ok (.iconst 1, 1) := by decide +kernel
theorem d_M_tick_13 : decode prog_6_method_24_code 13 = .ok (.goto 4, 3) := by decide +kernel
theorem d_M_tick_16 : decode prog_6_method_24_code 16 = .ok (.iconst 0, 1) := by decide +kernel
theorem d_M_tick_17 : decode prog_6_method_24_code 17 = .ok (.putfield 68, 3) := by decide +kernel
theorem d_M_tick_20 : decode prog_6_method_24_code 20 = .ok (.aload_n 0, 1) := by decide +kernel
theorem d_M_tick_21 : decode prog_6_method_24_code 21 = .ok (.getfield 72, 3) := by decide +kernel
theorem d_M_tick_24 : decode prog_6_method_24_code 24 = .ok (.istore_n 2, 1) := by decide +kernel
theorem d_M_tick_25 : decode prog_6_method_24_code 25 = .ok (.iconst 0, 1) := by decide +kernel
theorem d_M_tick_26 : decode prog_6_method_24_code 26 = .ok (.istore_n 3, 1) := by decide +kernel
theorem d_M_tick_27 : decode prog_6_method_24_code 27 = .ok (.iload_n 3, 1) := by decide +kernel
theorem d_M_tick_28 : decode prog_6_method_24_code 28 = .ok (.iload_n 1, 1) := by decide +kernel
theorem d_M_tick_29 : decode prog_6_method_24_code 29 = .ok (.if_icmp .ge 20, 3) := by decide +kernel
theorem d_M_tick_32 : decode prog_6_method_24_code 32 = .ok (.aload_n 0, 1) := by decide +kernel
theorem d_M_tick_33 : decode prog_6_method_24_code 33 = .ok (.getfield 68, 3) := by decide +kernel
theorem d_M_tick_36 : decode prog_6_method_24_code 36 = .ok (.ifCond .ne 13, 3) := by decide +kernel
theorem d_M_tick_39 : decode prog_6_method_24_code 39 = .ok (.aload_n 0, 1) := by decide +kernel
theorem d_M_tick_40 : decode prog_6_method_24_code 40 = .ok (.invokevirtual 132, 3) := by decide +kernel
theorem d_M_tick_43 : decode prog_6_method_24_code 43 = .ok (.iinc 3 1, 3) := by decide +kernel
theorem d_M_tick_46 : decode prog_6_method_24_code 46 = .ok (.goto (-19), 3) := by decide +kernel
theorem d_M_tick_49 : decode prog_6_method_24_code 49 = .ok (.aload_n 0, 1) := by decide +kernel
theorem d_M_tick_50 : decode prog_6_method_24_code 50 = .ok (.getfield 72, 3) := by decide +kernel
theorem d_M_tick_53 : decode prog_6_method_24_code 53 = .ok (.iload_n 2, 1) := by decide +kernel
theorem d_M_tick_54 : decode prog_6_method_24_code 54 = .ok (.isub, 1) := by decide +kernel
theorem d_M_tick_55 : decode prog_6_method_24_code 55 = .ok (.ireturn, 1) := by decide +kernel
theorem d_M_begin_0 : decode prog_6_method_23_code 0 = .ok (.aload_n 0, 1) := by decide +kernel
theorem d_M_begin_1 : decode prog_6_method_23_code 1 = .ok (.dup, 1) := by decide +kernel
theorem d_M_begin_2 : decode prog_6_method_23_code 2 = .ok (.getfield 75, 3) := by decide +kernel
theorem d_M_begin_5 : decode prog_6_method_23_code 5 = .ok (.iconst 1, 1) := by decide +kernel
theorem d_M_begin_6 : decode prog_6_method_23_code 6 = .ok (.iadd, 1) := by decide +kernel
theorem d_M_begin_7 : decode prog_6_method_23_code 7 = .ok (.putfield 75, 3) := by decide +kernel
theorem d_M_begin_10 : decode prog_6_method_23_code 10 = .ok (.aload_n 0, 1) := by decide +kernel
theorem d_M_begin_11 : decode prog_6_method_23_code 11 = .ok (.getfield 97, 3) := by decide +kernel
theorem d_M_begin_14 : decode prog_6_method_23_code 14 = .ok (.istore_n 1, 1) := by decide +kernel
theorem d_M_begin_15 : decode prog_6_method_23_code 15 = .ok (.iconst 0, 1) := by decide +kernel
theorem d_M_begin_16 : decode prog_6_method_23_code 16 = .ok (.istore_n 2, 1) := by decide +kernel
theorem d_M_begin_17 : decode prog_6_method_23_code 17 = .ok (.iload_n 2, 1) := by decide +kernel
theorem d_M_begin_18 : decode prog_6_method_23_code 18 = .ok (.aload_n 0, 1) := by decide +kernel
theorem d_M_begin_19 : decode prog_6_method_23_code 19 = .ok (.getfield 80, 3) := by decide +kernel
theorem d_M_begin_22 : decode prog_6_method_23_code 22 = .ok (.if_icmp .ge 63, 3) := by decide +kernel
theorem d_M_begin_25 : decode prog_6_method_23_code 25 = .ok (.aload_n 0, 1) := by decide +kernel
theorem d_M_begin_26 : decode prog_6_method_23_code 26 = .ok (.getfield 7, 3) := by decide +kernel
theorem d_M_begin_29 : decode prog_6_method_23_code 29 = .ok (.iload_n 2, 1) := by decide +kernel
theorem d_M_begin_30 : decode prog_6_method_23_code 30 = .ok (.iaload, 1) := by decide +kernel
theorem d_M_begin_31 : decode prog_6_method_23_code 31 = .ok (.iload_n 1, 1) := by decide +kernel
theorem d_M_begin_32 : decode prog_6_method_23_code 32 = .ok (.if_icmp .ge 53, 3) := by decide +kernel
theorem d_M_begin_35 : decode prog_6_method_23_code 35 = .ok (.aload_n 0, 1) := by decide +kernel
theorem d_M_begin_36 : decode prog_6_method_23_code 36 = .ok (.getfield 7, 3) := by decide +kernel
theorem d_M_begin_39 : decode prog_6_method_23_code 39 = .ok (.iload_n 2, 1) := by decide +kernel
theorem d_M_begin_40 : decode prog_6_method_23_code 40 = .ok (.iaload, 1) := by decide +kernel
theorem d_M_begin_41 : decode prog_6_method_23_code 41 = .ok (.istore_n 3, 1) := by decide +kernel
theorem d_M_begin_42 : decode prog_6_method_23_code 42 = .ok (.aload_n 0, 1) := by decide +kernel
theorem d_M_begin_43 : decode prog_6_method_23_code 43 = .ok (.getfield 16, 3) := by decide +kernel
theorem d_M_begin_46 : decode prog_6_method_23_code 46 = .ok (.iload_n 2, 1) := by decide +kernel
theorem d_M_begin_47 : decode prog_6_method_23_code 47 = .ok (.iaload, 1) := by decide +kernel
theorem d_M_begin_48 : decode prog_6_method_23_code 48 = .ok (.ifCond .le 8, 3) := by decide +kernel
theorem d_M_begin_51 : decode prog_6_method_23_code 51 = .ok (.aload_n 0, 1) := by decide +kernel
theorem d_M_begin_52 : decode prog_6_method_23_code 52 = .ok (.iload_n 2, 1) := by decide +kernel
theorem d_M_begin_53 : decode prog_6_method_23_code 53 = .ok (.invokevirtual 126, 3) := by decide +kernel
theorem d_M_begin_56 : decode prog_6_method_23_code 56 = .ok (.iload_n 2, 1) := by decide +kernel
theorem d_M_begin_57 : decode prog_6_method_23_code 57 = .ok (.iload_n 2, 1) := by decide +kernel
theorem d_M_begin_58 : decode prog_6_method_23_code 58 = .ok (.aload_n 0, 1) := by decide +kernel
theorem d_M_begin_59 : decode prog_6_method_23_code 59 = .ok (.getfield 80, 3) := by decide +kernel
theorem d_M_begin_62 : decode prog_6_method_23_code 62 = .ok (.if_icmp .ge 17, 3) := by decide +kernel
theorem d_M_begin_65 : decode prog_6_method_23_code 65 = .ok (.aload_n 0, 1) := by decide +kernel
theorem d_M_begin_66 : decode prog_6_method_23_code 66 = .ok (.getfield 7, 3) := by decide +kernel
theorem d_M_begin_69 : decode prog_6_method_23_code 69 = .ok (.iload_n 2, 1) := by decide +kernel
theorem d_M_begin_70 : decode prog_6_method_23_code 70 = .ok (.iaload, 1) := by decide +kernel
theorem d_M_begin_71 : decode prog_6_method_23_code 71 = .ok (.iload_n 3, 1) := by decide +kernel
theorem d_M_begin_72 : decode prog_6_method_23_code 72 = .ok (.if_icmp .ne 7, 3) := by decide +kernel
theorem d_M_begin_75 : decode prog_6_method_23_code 75 = .ok (.iconst 1, 1) := by decide +kernel
theorem d_M_begin_76 : decode prog_6_method_23_code 76 = .ok (.goto 4, 3) := by decide +kernel
theorem d_M_begin_79 : decode prog_6_method_23_code 79 = .ok (.iconst 0, 1) := by decide +kernel
theorem d_M_begin_80 : decode prog_6_method_23_code 80 = .ok (.iadd, 1) := by decide +kernel
theorem d_M_begin_81 : decode prog_6_method_23_code 81 = .ok (.istore_n 2, 1) := by decide +kernel
theorem d_M_begin_82 : decode prog_6_method_23_code 82 = .ok (.goto (-65), 3) := by decide +kernel
theorem d_M_begin_85 : decode prog_6_method_23_code 85 = .ok (.iconst 0, 1) := by decide +kernel
theorem d_M_begin_86 : decode prog_6_method_23_code 86 = .ok (.istore_n 2, 1) := by decide +kernel
theorem d_M_begin_87 : decode prog_6_method_23_code 87 = .ok (.iload_n 2, 1) := by decide +kernel
theorem d_M_begin_88 : decode prog_6_method_23_code 88 = .ok (.aload_n 0, 1) := by decide +kernel
theorem d_M_begin_89 : decode prog_6_method_23_code 89 = .ok (.getfield 80, 3) := by decide +kernel
theorem d_M_begin_92 : decode prog_6_method_23_code 92 = .ok (.if_icmp .ge 40, 3) := by decide +kernel
theorem d_M_begin_95 : decode prog_6_method_23_code 95 = .ok (.aload_n 0, 1) := by decide +kernel
theorem d_M_begin_96 : decode prog_6_method_23_code 96 = .ok (.getfield 16, 3) := by decide +kernel
theorem d_M_begin_99 : decode prog_6_method_23_code 99 = .ok (.iload_n 2, 1) := by decide +kernel
theorem d_M_begin_100 : decode prog_6_method_23_code 100 = .ok (.iaload, 1) := by decide +kernel
theorem d_M_begin_101 : decode prog_6_method_23_code 101 = .ok (.ifCond .ne 25, 3) := by decide +kernel
theorem d_M_begin_104 : decode prog_6_method_23_code 104 = .ok (.aload_n 0, 1) := by decide +kernel
theorem d_M_begin_105 : decode prog_6_method_23_code 105 = .ok (.aload_n 0, 1) := by decide +kernel
theorem d_M_begin_106 : decode prog_6_method_23_code 106 = .ok (.getfield 13, 3) := by decide +kernel
theorem d_M_begin_109 : decode prog_6_method_23_code 109 = .ok (.iload_n 2, 1) := by decide +kernel
theorem d_M_begin_110 : decode prog_6_method_23_code 110 = .ok (.iaload, 1) := by decide +kernel
theorem d_M_begin_111 : decode prog_6_method_23_code 111 = .ok (.invokevirtual 129, 3) := by decide +kernel
theorem d_M_begin_114 : decode prog_6_method_23_code 114 = .ok (.iconst 1, 1) := by decide +kernel
theorem d_M_begin_115 : decode prog_6_method_23_code 115 = .ok (.if_icmp .ne 11, 3) := by decide +kernel
theorem d_M_begin_118 : decode prog_6_method_23_code 118 = .ok (.aload_n 0, 1) := by decide +kernel
theorem d_M_begin_119 : decode prog_6_method_23_code 119 = .ok (.iload_n 2, 1) := by decide +kernel
theorem d_M_begin_120 : decode prog_6_method_23_code 120 = .ok (.invokevirtual 109, 3) := by decide +kernel
theorem d_M_begin_123 : decode prog_6_method_23_code 123 = .ok (.goto (-36), 3) := by decide +kernel
theorem d_M_begin_126 : decode prog_6_method_23_code 126 = .ok (.iinc 2 1, 3) := by decide +kernel
theorem d_M_begin_129 : decode prog_6_method_23_code 129 = .ok (.goto (-42), 3) := by decide +kernel
theorem d_M_begin_132 : decode prog_6_method_23_code 132 = .ok (.return_, 1) := by decide +kernel
theorem d_M_go_0 : decode prog_6_method_21_code 0 = .ok (.iconst 1, 1) := by decide +kernel
theorem d_M_go_1 : decode prog_6_method_21_code 1 = .ok (.istore_n 2, 1) := by decide +kernel
theorem d_M_go_2 : decode prog_6_method_21_code 2 = .ok (.iconst 0, 1) := by decide +kernel
theorem d_M_go_3 : decode prog_6_method_21_code 3 = .ok (.istore_n 3, 1) := by decide +kernel
theorem d_M_go_4 : decode prog_6_method_21_code 4 = .ok (.iload_n 3, 1) := by decide +kernel
theorem d_M_go_5 : decode prog_6_method_21_code 5 = .ok (.bipush 6, 2) := by decide +kernel
theorem d_M_go_7 : decode prog_6_method_21_code 7 = .ok (.if_icmp .ge 132, 3) := by decide +kernel
theorem d_M_go_10 : decode prog_6_method_21_code 10 = .ok (.iload_n 2, 1) := by decide +kernel
theorem d_M_go_11 : decode prog_6_method_21_code 11 = .ok (.ifCond .eq 128, 3) := by decide +kernel
theorem d_M_go_14 : decode prog_6_method_21_code 14 = .ok (.aload_n 0, 1) := by decide +kernel
theorem d_M_go_15 : decode prog_6_method_21_code 15 = .ok (.iload_n 3, 1) := by decide +kernel
theorem d_M_go_16 : decode prog_6_method_21_code 16 = .ok (.iload_n 1, 1) := by decide +kernel
theorem d_M_go_17 : decode prog_6_method_21_code 17 = .ok (.invokevirtual 119, 3) := by decide +kernel
theorem d_M_go_20 : decode prog_6_method_21_code 20 = .ok (.ifCond .ne 6, 3) := by decide +kernel
theorem d_M_go_23 : decode prog_6_method_21_code 23 = .ok (.goto 110, 3) := by decide +kernel
theorem d_M_go_26 : decode prog_6_method_21_code 26 = .ok (.aload_n 0, 1) := by decide +kernel
theorem d_M_go_27 : decode prog_6_method_21_code 27 = .ok (.getfield 47, 3) := by decide +kernel
theorem d_M_go_30 : decode prog_6_method_21_code 30 = .ok (.iload_n 3, 1) := by decide +kernel
theorem d_M_go_31 : decode prog_6_method_21_code 31 = .ok (.iaload, 1) := by decide +kernel
theorem d_M_go_32 : decode prog_6_method_21_code 32 = .ok (.iconst 4, 1) := by decide +kernel
theorem d_M_go_33 : decode prog_6_method_21_code 33 = .ok (.if_icmp .ge 50, 3) := by decide +kernel
theorem d_M_go_36 : decode prog_6_method_21_code 36 = .ok (.aload_n 0, 1) := by decide +kernel
theorem d_M_go_37 : decode prog_6_method_21_code 37 = .ok (.getfield 47, 3) := by decide +kernel
theorem d_M_go_40 : decode prog_6_method_21_code 40 = .ok (.iload_n 3, 1) := by decide +kernel
theorem d_M_go_41 : decode prog_6_method_21_code 41 = .ok (.iaload, 1) := by decide +kernel
theorem d_M_go_42 : decode prog_6_method_21_code 42 = .ok (.aload_n 0, 1) := by decide +kernel
theorem d_M_go_43 : decode prog_6_method_21_code 43 = .ok (.getfield 28, 3) := by decide +kernel
theorem d_M_go_46 : decode prog_6_method_21_code 46 = .ok (.iload_n 1, 1) := by decide +kernel
theorem d_M_go_47 : decode prog_6_method_21_code 47 = .ok (.iaload, 1) := by decide +kernel
theorem d_M_go_48 : decode prog_6_method_21_code 48 = .ok (.if_icmp .le 85, 3) := by decide +kernel
theorem d_M_go_51 : decode prog_6_method_21_code 51 = .ok (.aload_n 0, 1) := by decide +kernel
theorem d_M_go_52 : decode prog_6_method_21_code 52 = .ok (.getfield 28, 3) := by decide +kernel
theorem d_M_go_55 : decode prog_6_method_21_code 55 = .ok (.iload_n 1, 1) := by decide +kernel
theorem d_M_go_56 : decode prog_6_method_21_code 56 = .ok (.aload_n 0, 1) := by decide +kernel
theorem d_M_go_57 : decode prog_6_method_21_code 57 = .ok (.getfield 47, 3) := by decide +kernel
theorem d_M_go_60 : decode prog_6_method_21_code 60 = .ok (.iload_n 3, 1) := by decide +kernel
theorem d_M_go_61 : decode prog_6_method_21_code 61 = .ok (.iaload, 1) := by decide +kernel
theorem d_M_go_62 : decode prog_6_method_21_code 62 = .ok (.iastore, 1) := by decide +kernel
theorem d_M_go_63 : decode prog_6_method_21_code 63 = .ok (.aload_n 0, 1) := by decide +kernel
theorem d_M_go_64 : decode prog_6_method_21_code 64 = .ok (.iconst 4, 1) := by decide +kernel
theorem d_M_go_65 : decode prog_6_method_21_code 65 = .ok (.aload_n 0, 1) := by decide +kernel
theorem d_M_go_66 : decode prog_6_method_21_code 66 = .ok (.getfield 7, 3) := by decide +kernel
theorem d_M_go_69 : decode prog_6_method_21_code 69 = .ok (.iload_n 1, 1) := by decide +kernel
theorem d_M_go_70 : decode prog_6_method_21_code 70 = .ok (.iaload, 1) := by decide +kernel
theorem d_M_go_71 : decode prog_6_method_21_code 71 = .ok (.aload_n 0, 1) := by decide +kernel
theorem d_M_go_72 : decode prog_6_method_21_code 72 = .ok (.getfield 47, 3) := by decide +kernel
theorem d_M_go_75 : decode prog_6_method_21_code 75 = .ok (.iload_n 3, 1) := by decide +kernel
theorem d_M_go_76 : decode prog_6_method_21_code 76 = .ok (.iaload, 1) := by decide +kernel
theorem d_M_go_77 : decode prog_6_method_21_code 77 = .ok (.invokevirtual 100, 3) := by decide +kernel
theorem d_M_go_80 : decode prog_6_method_21_code 80 = .ok (.goto 53, 3) := by decide +kernel
theorem d_M_go_83 : decode prog_6_method_21_code 83 = .ok (.aload_n 0, 1) := by decide +kernel
theorem d_M_go_84 : decode prog_6_method_21_code 84 = .ok (.iload_n 1, 1) := by decide +kernel
theorem d_M_go_85 : decode prog_6_method_21_code 85 = .ok (.invokevirtual 94, 3) := by decide +kernel
theorem d_M_go_88 : decode prog_6_method_21_code 88 = .ok (.ifCond .eq 30, 3) := by decide +kernel
theorem d_M_go_91 : decode prog_6_method_21_code 91 = .ok (.aload_n 0, 1) := by decide +kernel
theorem d_M_go_92 : decode prog_6_method_21_code 92 = .ok (.getfield 80, 3) := by decide +kernel
theorem d_M_go_95 : decode prog_6_method_21_code 95 = .ok (.bipush 40, 2) := by decide +kernel
theorem d_M_go_97 : decode prog_6_method_21_code 97 = .ok (.if_icmp .ge 36, 3) := by decide +kernel
theorem d_M_go_100 : decode prog_6_method_21_code 100 = .ok (.aload_n 0, 1) := by decide +kernel
theorem d_M_go_101 : decode prog_6_method_21_code 101 = .ok (.aload_n 0, 1) := by decide +kernel
theorem d_M_go_102 : decode prog_6_method_21_code 102 = .ok (.getfield 13, 3) := by decide +kernel
theorem d_M_go_105 : decode prog_6_method_21_code 105 = .ok (.iload_n 1, 1) := by decide +kernel
theorem d_M_go_106 : decode prog_6_method_21_code 106 = .ok (.iaload, 1) := by decide +kernel
theorem d_M_go_107 : decode prog_6_method_21_code 107 = .ok (.iconst 0, 1) := by decide +kernel
theorem d_M_go_108 : decode prog_6_method_21_code 108 = .ok (.iconst 0, 1) := by decide +kernel
theorem d_M_go_109 : decode prog_6_method_21_code 109 = .ok (.invokevirtual 105, 3) := by decide +kernel
theorem d_M_go_112 : decode prog_6_method_21_code 112 = .ok (.pop, 1) := by decide +kernel
theorem d_M_go_113 : decode prog_6_method_21_code 113 = .ok (.iconst 0, 1) := by decide +kernel
theorem d_M_go_114 : decode prog_6_method_21_code 114 = .ok (.istore_n 2, 1) := by decide +kernel
theorem d_M_go_115 : decode prog_6_method_21_code 115 = .ok (.goto 18, 3) := by decide +kernel
theorem d_M_go_118 : decode prog_6_method_21_code 118 = .ok (.aload_n 0, 1) := by decide +kernel
theorem d_M_go_119 : decode prog_6_method_21_code 119 = .ok (.iload_n 1, 1) := by decide +kernel
theorem d_M_go_120 : decode prog_6_method_21_code 120 = .ok (.invokevirtual 123, 3) := by decide +kernel
theorem d_M_go_123 : decode prog_6_method_21_code 123 = .ok (.ifCond .ne 10, 3) := by decide +kernel
theorem d_M_go_126 : decode prog_6_method_21_code 126 = .ok (.aload_n 0, 1) := by decide +kernel
theorem d_M_go_127 : decode prog_6_method_21_code 127 = .ok (.iload_n 1, 1) := by decide +kernel
theorem d_M_go_128 : decode prog_6_method_21_code 128 = .ok (.invokevirtual 109, 3) := by decide +kernel
theorem d_M_go_131 : decode prog_6_method_21_code 131 = .ok (.iconst 0, 1) := by decide +kernel
theorem d_M_go_132 : decode prog_6_method_21_code 132 = .ok (.istore_n 2, 1) := by decide +kernel
theorem d_M_go_133 : decode prog_6_method_21_code 133 = .ok (.iinc 3 1, 3) := by decide +kernel
theorem d_M_go_136 : decode prog_6_method_21_code 136 = .ok (.goto (-132), 3) := by decide +kernel
theorem d_M_go_139 : decode prog_6_method_21_code 139 = .ok (.return_, 1) := by decide +kernel
theorem d_M_isDue_0 : decode prog_6_method_20_code 0 = .ok (.aload_n 0, 1) := by decide +kernel
theorem d_M_isDue_1 : decode prog_6_method_20_code 1 = .ok (.getfield 47, 3) := by decide +kernel
theorem d_M_isDue_4 : decode prog_6_method_20_code 4 = .ok (.iload_n 1, 1) := by decide +kernel
theorem d_M_isDue_5 : decode prog_6_method_20_code 5 = .ok (.iaload, 1) := by decide +kernel
theorem d_M_isDue_6 : decode prog_6_method_20_code 6 = .ok (.ifCond .le 45, 3) := by decide +kernel
theorem d_M_isDue_9 : decode prog_6_method_20_code 9 = .ok (.aload_n 0, 1) := by decide +kernel
theorem d_M_isDue_10 : decode prog_6_method_20_code 10 = .ok (.getfield 50, 3) := by decide +kernel
theorem d_M_isDue_13 : decode prog_6_method_20_code 13 = .ok (.iload_n 1, 1) := by decide +kernel
theorem d_M_isDue_14 : decode prog_6_method_20_code 14 = .ok (.iaload, 1) := by decide +kernel
theorem d_M_isDue_15 : decode prog_6_method_20_code 15 = .ok (.ifCond .lt 18, 3) := by decide +kernel
theorem d_M_isDue_18 : decode prog_6_method_20_code 18 = .ok (.aload_n 0, 1) := by decide +kernel
theorem d_M_isDue_19 : decode prog_6_method_20_code 19 = .ok (.getfield 50, 3) := by decide +kernel
theorem d_M_isDue_22 : decode prog_6_method_20_code 22 = .ok (.iload_n 1, 1) := by decide +kernel
theorem d_M_isDue_23 : decode prog_6_method_20_code 23 = .ok (.iaload, 1) := by decide +kernel
theorem d_M_isDue_24 : decode prog_6_method_20_code 24 = .ok (.aload_n 0, 1) := by decide +kernel
theorem d_M_isDue_25 : decode prog_6_method_20_code 25 = .ok (.getfield 19, 3) := by decide +kernel
theorem d_M_isDue_28 : decode prog_6_method_20_code 28 = .ok (.iload_n 2, 1) := by decide +kernel
theorem d_M_isDue_29 : decode prog_6_method_20_code 29 = .ok (.iaload, 1) := by decide +kernel
theorem d_M_isDue_30 : decode prog_6_method_20_code 30 = .ok (.if_icmp .ne 21, 3) := by decide +kernel
theorem d_M_isDue_33 : decode prog_6_method_20_code 33 = .ok (.aload_n 0, 1) := by decide +kernel
theorem d_M_isDue_34 : decode prog_6_method_20_code 34 = .ok (.getfield 53, 3) := by decide +kernel
theorem d_M_isDue_37 : decode prog_6_method_20_code 37 = .ok (.iload_n 1, 1) := by decide +kernel
theorem d_M_isDue_38 : decode prog_6_method_20_code 38 = .ok (.baload, 1) := by decide +kernel
theorem d_M_isDue_39 : decode prog_6_method_20_code 39 = .ok (.aload_n 0, 1) := by decide +kernel
theorem d_M_isDue_40 : decode prog_6_method_20_code 40 = .ok (.iload_n 2, 1) := by decide +kernel
theorem d_M_isDue_41 : decode prog_6_method_20_code 41 = .ok (.invokevirtual 94, 3) := by decide +kernel
theorem d_M_isDue_44 : decode prog_6_method_20_code 44 = .ok (.if_icmp .ne 7, 3) := by decide +kernel
theorem d_M_isDue_47 : decode prog_6_method_20_code 47 = .ok (.iconst 1, 1) := by decide +kernel
theorem d_M_isDue_48 : decode prog_6_method_20_code 48 = .ok (.goto 4, 3) := by decide +kernel
theorem d_M_isDue_51 : decode prog_6_method_20_code 51 = .ok (.iconst 0, 1) := by decide +kernel
theorem d_M_isDue_52 : decode prog_6_method_20_code 52 = .ok (.istore_n 3, 1) := by decide +kernel
theorem d_M_isDue_53 : decode prog_6_method_20_code 53 = .ok (.iload_n 3, 1) := by decide +kernel
theorem d_M_isDue_54 : decode prog_6_method_20_code 54 = .ok (.ifCond .eq 26, 3) := by decide +kernel
theorem d_M_isDue_57 : decode prog_6_method_20_code 57 = .ok (.aload_n 0, 1) := by decide +kernel
theorem d_M_isDue_58 : decode prog_6_method_20_code 58 = .ok (.getfield 75, 3) := by decide +kernel
theorem d_M_isDue_61 : decode prog_6_method_20_code 61 = .ok (.aload_n 0, 1) := by decide +kernel
theorem d_M_isDue_62 : decode prog_6_method_20_code 62 = .ok (.iload_n 2, 1) := by decide +kernel
theorem d_M_isDue_63 : decode prog_6_method_20_code 63 = .ok (.invokevirtual 116, 3) := by decide +kernel
theorem d_M_isDue_66 : decode prog_6_method_20_code 66 = .ok (.aload_n 0, 1) := by decide +kernel
theorem d_M_isDue_67 : decode prog_6_method_20_code 67 = .ok (.getfield 56, 3) := by decide +kernel
theorem d_M_isDue_70 : decode prog_6_method_20_code 70 = .ok (.iload_n 1, 1) := by decide +kernel
theorem d_M_isDue_71 : decode prog_6_method_20_code 71 = .ok (.iaload, 1) := by decide +kernel
theorem d_M_isDue_72 : decode prog_6_method_20_code 72 = .ok (.iadd, 1) := by decide +kernel
theorem d_M_isDue_73 : decode prog_6_method_20_code 73 = .ok (.if_icmp .lt 7, 3) := by decide +kernel
theorem d_M_isDue_76 : decode prog_6_method_20_code 76 = .ok (.iconst 1, 1) := by decide +kernel
theorem d_M_isDue_77 : decode prog_6_method_20_code 77 = .ok (.goto 4, 3) := by decide +kernel
theorem d_M_isDue_80 : decode prog_6_method_20_code 80 = .ok (.iconst 0, 1) := by decide +kernel
theorem d_M_isDue_81 : decode prog_6_method_20_code 81 = .ok (.ireturn, 1) := by decide +kernel
theorem d_M_isCurrent_0 : decode prog_6_method_7_code 0 = .ok (.aload_n 0, 1) := by decide +kernel
theorem d_M_isCurrent_1 : decode prog_6_method_7_code 1 = .ok (.aload_n 0, 1) := by decide +kernel
theorem d_M_isCurrent_2 : decode prog_6_method_7_code 2 = .ok (.getfield 13, 3) := by decide +kernel
theorem d_M_isCurrent_5 : decode prog_6_method_7_code 5 = .ok (.iload_n 1, 1) := by decide +kernel
theorem d_M_isCurrent_6 : decode prog_6_method_7_code 6 = .ok (.iaload, 1) := by decide +kernel
theorem d_M_isCurrent_7 : decode prog_6_method_7_code 7 = .ok (.invokevirtual 87, 3) := by decide +kernel
theorem d_M_isCurrent_10 : decode prog_6_method_7_code 10 = .ok (.iload_n 1, 1) := by decide +kernel
theorem d_M_isCurrent_11 : decode prog_6_method_7_code 11 = .ok (.if_icmp .ne 7, 3) := by decide +kernel
theorem d_M_isCurrent_14 : decode prog_6_method_7_code 14 = .ok (.iconst 1, 1) := by decide +kernel
theorem d_M_isCurrent_15 : decode prog_6_method_7_code 15 = .ok (.goto 4, 3) := by decide +kernel
theorem d_M_isCurrent_18 : decode prog_6_method_7_code 18 = .ok (.iconst 0, 1) := by decide +kernel
theorem d_M_isCurrent_19 : decode prog_6_method_7_code 19 = .ok (.ireturn, 1) := by decide +kernel
theorem d_M_since_0 : decode prog_6_method_10_code 0 = .ok (.aload_n 0, 1) := by decide +kernel
theorem d_M_since_1 : decode prog_6_method_10_code 1 = .ok (.iload_n 1, 1) := by decide +kernel
theorem d_M_since_2 : decode prog_6_method_10_code 2 = .ok (.invokevirtual 94, 3) := by decide +kernel
theorem d_M_since_5 : decode prog_6_method_10_code 5 = .ok (.ifCond .eq 12, 3) := by decide +kernel
theorem d_M_since_8 : decode prog_6_method_10_code 8 = .ok (.aload_n 0, 1) := by decide +kernel
theorem d_M_since_9 : decode prog_6_method_10_code 9 = .ok (.getfield 22, 3) := by decide +kernel
theorem d_M_since_12 : decode prog_6_method_10_code 12 = .ok (.iload_n 1, 1) := by decide +kernel
theorem d_M_since_13 : decode prog_6_method_10_code 13 = .ok (.iaload, 1) := by decide +kernel
theorem d_M_since_14 : decode prog_6_method_10_code 14 = .ok (.goto 9, 3) := by decide +kernel
theorem d_M_since_17 : decode prog_6_method_10_code 17 = .ok (.aload_n 0, 1) := by decide +kernel
theorem d_M_since_18 : decode prog_6_method_10_code 18 = .ok (.getfield 25, 3) := by decide +kernel
theorem d_M_since_21 : decode prog_6_method_10_code 21 = .ok (.iload_n 1, 1) := by decide +kernel
theorem d_M_since_22 : decode prog_6_method_10_code 22 = .ok (.iaload, 1) := by decide +kernel
theorem d_M_since_23 : decode prog_6_method_10_code 23 = .ok (.ireturn, 1) := by decide +kernel
theorem d_M_isGuarded_0 : decode prog_6_method_9_code 0 = .ok (.aload_n 0, 1) := by decide +kernel
theorem d_M_isGuarded_1 : decode prog_6_method_9_code 1 = .ok (.iload_n 1, 1) := by decide +kernel
theorem d_M_isGuarded_2 : decode prog_6_method_9_code 2 = .ok (.invokevirtual 90, 3) := by decide +kernel
theorem d_M_isGuarded_5 : decode prog_6_method_9_code 5 = .ok (.ifCond .ne 12, 3) := by decide +kernel
theorem d_M_isGuarded_8 : decode prog_6_method_9_code 8 = .ok (.aload_n 0, 1) := by decide +kernel
theorem d_M_isGuarded_9 : decode prog_6_method_9_code 9 = .ok (.getfield 38, 3) := by decide +kernel
theorem d_M_isGuarded_12 : decode prog_6_method_9_code 12 = .ok (.iload_n 1, 1) := by decide +kernel
theorem d_M_isGuarded_13 : decode prog_6_method_9_code 13 = .ok (.iaload, 1) := by decide +kernel
theorem d_M_isGuarded_14 : decode prog_6_method_9_code 14 = .ok (.ifCond .eq 7, 3) := by decide +kernel
theorem d_M_isGuarded_17 : decode prog_6_method_9_code 17 = .ok (.iconst 1, 1) := by decide +kernel
theorem d_M_isGuarded_18 : decode prog_6_method_9_code 18 = .ok (.goto 4, 3) := by decide +kernel
theorem d_M_isGuarded_21 : decode prog_6_method_9_code 21 = .ok (.iconst 0, 1) := by decide +kernel
theorem d_M_isGuarded_22 : decode prog_6_method_9_code 22 = .ok (.ireturn, 1) := by decide +kernel
theorem d_M_versionsOf_0 : decode prog_6_method_22_code 0 = .ok (.iconst 0, 1) := by decide +kernel
theorem d_M_versionsOf_1 : decode prog_6_method_22_code 1 = .ok (.istore_n 2, 1) := by decide +kernel
theorem d_M_versionsOf_2 : decode prog_6_method_22_code 2 = .ok (.iconst 0, 1) := by decide +kernel
theorem d_M_versionsOf_3 : decode prog_6_method_22_code 3 = .ok (.istore_n 3, 1) := by decide +kernel
theorem d_M_versionsOf_4 : decode prog_6_method_22_code 4 = .ok (.iload_n 3, 1) := by decide +kernel
theorem d_M_versionsOf_5 : decode prog_6_method_22_code 5 = .ok (.aload_n 0, 1) := by decide +kernel
theorem d_M_versionsOf_6 : decode prog_6_method_22_code 6 = .ok (.getfield 80, 3) := by decide +kernel
theorem d_M_versionsOf_9 : decode prog_6_method_22_code 9 = .ok (.if_icmp .ge 27, 3) := by decide +kernel
theorem d_M_versionsOf_12 : decode prog_6_method_22_code 12 = .ok (.iload_n 2, 1) := by decide +kernel
theorem d_M_versionsOf_13 : decode prog_6_method_22_code 13 = .ok (.aload_n 0, 1) := by decide +kernel
theorem d_M_versionsOf_14 : decode prog_6_method_22_code 14 = .ok (.getfield 13, 3) := by decide +kernel
theorem d_M_versionsOf_17 : decode prog_6_method_22_code 17 = .ok (.iload_n 3, 1) := by decide +kernel
theorem d_M_versionsOf_18 : decode prog_6_method_22_code 18 = .ok (.iaload, 1) := by decide +kernel
theorem d_M_versionsOf_19 : decode prog_6_method_22_code 19 = .ok (.iload_n 1, 1) := by decide +kernel
theorem d_M_versionsOf_20 : decode prog_6_method_22_code 20 = .ok (.if_icmp .ne 7, 3) := by decide +kernel
theorem d_M_versionsOf_23 : decode prog_6_method_22_code 23 = .ok (.iconst 1, 1) := by decide +kernel
theorem d_M_versionsOf_24 : decode prog_6_method_22_code 24 = .ok (.goto 4, 3) := by decide +kernel
theorem d_M_versionsOf_27 : decode prog_6_method_22_code 27 = .ok (.iconst 0, 1) := by decide +kernel
theorem d_M_versionsOf_28 : decode prog_6_method_22_code 28 = .ok (.iadd, 1) := by decide +kernel
theorem d_M_versionsOf_29 : decode prog_6_method_22_code 29 = .ok (.istore_n 2, 1) := by decide +kernel
theorem d_M_versionsOf_30 : decode prog_6_method_22_code 30 = .ok (.iinc 3 1, 3) := by decide +kernel
theorem d_M_versionsOf_33 : decode prog_6_method_22_code 33 = .ok (.goto (-29), 3) := by decide +kernel
theorem d_M_versionsOf_36 : decode prog_6_method_22_code 36 = .ok (.iload_n 2, 1) := by decide +kernel
theorem d_M_versionsOf_37 : decode prog_6_method_22_code 37 = .ok (.ireturn, 1) := by decide +kernel
theorem d_M_fetch_0 : decode prog_6_method_25_code 0 = .ok (.aload_n 0, 1) := by decide +kernel
theorem d_M_fetch_1 : decode prog_6_method_25_code 1 = .ok (.iload_n 1, 1) := by decide +kernel
theorem d_M_fetch_2 : decode prog_6_method_25_code 2 = .ok (.invokevirtual 113, 3) := by decide +kernel
theorem d_M_fetch_5 : decode prog_6_method_25_code 5 = .ok (.istore_n 3, 1) := by decide +kernel
theorem d_M_fetch_6 : decode prog_6_method_25_code 6 = .ok (.aload_n 0, 1) := by decide +kernel
theorem d_M_fetch_7 : decode prog_6_method_25_code 7 = .ok (.iload_n 3, 1) := by decide +kernel
theorem d_M_fetch_8 : decode prog_6_method_25_code 8 = .ok (.ifCond .ge 7, 3) := by decide +kernel
theorem d_M_fetch_11 : decode prog_6_method_25_code 11 = .ok (.iconst 1, 1) := by decide +kernel
theorem d_M_fetch_12 : decode prog_6_method_25_code 12 = .ok (.goto 33, 3) := by decide +kernel
theorem d_M_fetch_15 : decode prog_6_method_25_code 15 = .ok (.iload_n 2, 1) := by decide +kernel
theorem d_M_fetch_16 : decode prog_6_method_25_code 16 = .ok (.iconst 1, 1) := by decide +kernel
theorem d_M_fetch_17 : decode prog_6_method_25_code 17 = .ok (.if_icmp .lt 9, 3) := by decide +kernel
theorem d_M_fetch_20 : decode prog_6_method_25_code 20 = .ok (.iload_n 2, 1) := by decide +kernel
theorem d_M_fetch_21 : decode prog_6_method_25_code 21 = .ok (.bipush 100, 2) := by decide +kernel
theorem d_M_fetch_23 : decode prog_6_method_25_code 23 = .ok (.if_icmp .le 7, 3) := by decide +kernel
theorem d_M_fetch_26 : decode prog_6_method_25_code 26 = .ok (.iconst 2, 1) := by decide +kernel
theorem d_M_fetch_27 : decode prog_6_method_25_code 27 = .ok (.goto 18, 3) := by decide +kernel
theorem d_M_fetch_30 : decode prog_6_method_25_code 30 = .ok (.aload_n 0, 1) := by decide +kernel
theorem d_M_fetch_31 : decode prog_6_method_25_code 31 = .ok (.getfield 28, 3) := by decide +kernel
theorem d_M_fetch_34 : decode prog_6_method_25_code 34 = .ok (.iload_n 3, 1) := by decide +kernel
theorem d_M_fetch_35 : decode prog_6_method_25_code 35 = .ok (.iaload, 1) := by decide +kernel
theorem d_M_fetch_36 : decode prog_6_method_25_code 36 = .ok (.iconst 2, 1) := by decide +kernel
theorem d_M_fetch_37 : decode prog_6_method_25_code 37 = .ok (.if_icmp .ge 7, 3) := by decide +kernel
theorem d_M_fetch_40 : decode prog_6_method_25_code 40 = .ok (.iconst 3, 1) := by decide +kernel
theorem d_M_fetch_41 : decode prog_6_method_25_code 41 = .ok (.goto 4, 3) := by decide +kernel
theorem d_M_fetch_44 : decode prog_6_method_25_code 44 = .ok (.iconst 0, 1) := by decide +kernel
theorem d_M_fetch_45 : decode prog_6_method_25_code 45 = .ok (.putfield 68, 3) := by decide +kernel
theorem d_M_fetch_48 : decode prog_6_method_25_code 48 = .ok (.aload_n 0, 1) := by decide +kernel
theorem d_M_fetch_49 : decode prog_6_method_25_code 49 = .ok (.getfield 68, 3) := by decide +kernel
theorem d_M_fetch_52 : decode prog_6_method_25_code 52 = .ok (.ifCond .le 5, 3) := by decide +kernel
theorem d_M_fetch_55 : decode prog_6_method_25_code 55 = .ok (.iconst 0, 1) := by decide +kernel
theorem d_M_fetch_56 : decode prog_6_method_25_code 56 = .ok (.ireturn, 1) := by decide +kernel
theorem d_M_fetch_57 : decode prog_6_method_25_code 57 = .ok (.aload_n 0, 1) := by decide +kernel
theorem d_M_fetch_58 : decode prog_6_method_25_code 58 = .ok (.getfield 41, 3) := by decide +kernel
theorem d_M_fetch_61 : decode prog_6_method_25_code 61 = .ok (.iload_n 3, 1) := by decide +kernel
theorem d_M_fetch_62 : decode prog_6_method_25_code 62 = .ok (.aload_n 0, 1) := by decide +kernel
theorem d_M_fetch_63 : decode prog_6_method_25_code 63 = .ok (.getfield 75, 3) := by decide +kernel
theorem d_M_fetch_66 : decode prog_6_method_25_code 66 = .ok (.aload_n 0, 1) := by decide +kernel
theorem d_M_fetch_67 : decode prog_6_method_25_code 67 = .ok (.getfield 28, 3) := by decide +kernel
theorem d_M_fetch_70 : decode prog_6_method_25_code 70 = .ok (.iload_n 3, 1) := by decide +kernel
theorem d_M_fetch_71 : decode prog_6_method_25_code 71 = .ok (.iaload, 1) := by decide +kernel
theorem d_M_fetch_72 : decode prog_6_method_25_code 72 = .ok (.iconst 2, 1) := by decide +kernel
theorem d_M_fetch_73 : decode prog_6_method_25_code 73 = .ok (.if_icmp .ne 7, 3) := by decide +kernel
theorem d_M_fetch_76 : decode prog_6_method_25_code 76 = .ok (.iconst 1, 1) := by decide +kernel
theorem d_M_fetch_77 : decode prog_6_method_25_code 77 = .ok (.goto 4, 3) := by decide +kernel
theorem d_M_fetch_80 : decode prog_6_method_25_code 80 = .ok (.iconst 3, 1) := by decide +kernel
theorem d_M_fetch_81 : decode prog_6_method_25_code 81 = .ok (.iadd, 1) := by decide +kernel
theorem d_M_fetch_82 : decode prog_6_method_25_code 82 = .ok (.iastore, 1) := by decide +kernel
theorem d_M_fetch_83 : decode prog_6_method_25_code 83 = .ok (.aload_n 0, 1) := by decide +kernel
theorem d_M_fetch_84 : decode prog_6_method_25_code 84 = .ok (.getfield 44, 3) := by decide +kernel
theorem d_M_fetch_87 : decode prog_6_method_25_code 87 = .ok (.iload_n 3, 1) := by decide +kernel
theorem d_M_fetch_88 : decode prog_6_method_25_code 88 = .ok (.aload_n 0, 1) := by decide +kernel
theorem d_M_fetch_89 : decode prog_6_method_25_code 89 = .ok (.getfield 41, 3) := by decide +kernel
theorem d_M_fetch_92 : decode prog_6_method_25_code 92 = .ok (.iload_n 3, 1) := by decide +kernel
theorem d_M_fetch_93 : decode prog_6_method_25_code 93 = .ok (.iaload, 1) := by decide +kernel
theorem d_M_fetch_94 : decode prog_6_method_25_code 94 = .ok (.iload_n 2, 1) := by decide +kernel
theorem d_M_fetch_95 : decode prog_6_method_25_code 95 = .ok (.iadd, 1) := by decide +kernel
theorem d_M_fetch_96 : decode prog_6_method_25_code 96 = .ok (.iastore, 1) := by decide +kernel
theorem d_M_fetch_97 : decode prog_6_method_25_code 97 = .ok (.aload_n 0, 1) := by decide +kernel
theorem d_M_fetch_98 : decode prog_6_method_25_code 98 = .ok (.bipush 8, 2) := by decide +kernel
theorem d_M_fetch_100 : decode prog_6_method_25_code 100 = .ok (.iload_n 1, 1) := by decide +kernel
theorem d_M_fetch_101 : decode prog_6_method_25_code 101 = .ok (.aload_n 0, 1) := by decide +kernel
theorem d_M_fetch_102 : decode prog_6_method_25_code 102 = .ok (.getfield 41, 3) := by decide +kernel
theorem d_M_fetch_105 : decode prog_6_method_25_code 105 = .ok (.iload_n 3, 1) := by decide +kernel
theorem d_M_fetch_106 : decode prog_6_method_25_code 106 = .ok (.iaload, 1) := by decide +kernel
theorem d_M_fetch_107 : decode prog_6_method_25_code 107 = .ok (.invokevirtual 100, 3) := by decide +kernel
theorem d_M_fetch_110 : decode prog_6_method_25_code 110 = .ok (.aload_n 0, 1) := by decide +kernel
theorem d_M_fetch_111 : decode prog_6_method_25_code 111 = .ok (.getfield 41, 3) := by decide +kernel
theorem d_M_fetch_114 : decode prog_6_method_25_code 114 = .ok (.iload_n 3, 1) := by decide +kernel
theorem d_M_fetch_115 : decode prog_6_method_25_code 115 = .ok (.iaload, 1) := by decide +kernel
theorem d_M_fetch_116 : decode prog_6_method_25_code 116 = .ok (.ireturn, 1) := by decide +kernel
theorem d_M_read_0 : decode prog_6_method_26_code 0 = .ok (.aload_n 0, 1) := by decide +kernel
theorem d_M_read_1 : decode prog_6_method_26_code 1 = .ok (.iload_n 1, 1) := by decide +kernel
theorem d_M_read_2 : decode prog_6_method_26_code 2 = .ok (.invokevirtual 113, 3) := by decide +kernel
theorem d_M_read_5 : decode prog_6_method_26_code 5 = .ok (.istore_n 2, 1) := by decide +kernel
theorem d_M_read_6 : decode prog_6_method_26_code 6 = .ok (.aload_n 0, 1) := by decide +kernel
theorem d_M_read_7 : decode prog_6_method_26_code 7 = .ok (.iload_n 2, 1) := by decide +kernel
theorem d_M_read_8 : decode prog_6_method_26_code 8 = .ok (.ifCond .ge 7, 3) := by decide +kernel
theorem d_M_read_11 : decode prog_6_method_26_code 11 = .ok (.iconst 1, 1) := by decide +kernel
theorem d_M_read_12 : decode prog_6_method_26_code 12 = .ok (.goto 44, 3) := by decide +kernel
theorem d_M_read_15 : decode prog_6_method_26_code 15 = .ok (.aload_n 0, 1) := by decide +kernel
theorem d_M_read_16 : decode prog_6_method_26_code 16 = .ok (.getfield 28, 3) := by decide +kernel
theorem d_M_read_19 : decode prog_6_method_26_code 19 = .ok (.iload_n 2, 1) := by decide +kernel
theorem d_M_read_20 : decode prog_6_method_26_code 20 = .ok (.iaload, 1) := by decide +kernel
theorem d_M_read_21 : decode prog_6_method_26_code 21 = .ok (.iconst 1, 1) := by decide +kernel
theorem d_M_read_22 : decode prog_6_method_26_code 22 = .ok (.if_icmp .le 33, 3) := by decide +kernel
theorem d_M_read_25 : decode prog_6_method_26_code 25 = .ok (.aload_n 0, 1) := by decide +kernel
theorem d_M_read_26 : decode prog_6_method_26_code 26 = .ok (.getfield 75, 3) := by decide +kernel
theorem d_M_read_29 : decode prog_6_method_26_code 29 = .ok (.aload_n 0, 1) := by decide +kernel
theorem d_M_read_30 : decode prog_6_method_26_code 30 = .ok (.getfield 41, 3) := by decide +kernel
theorem d_M_read_33 : decode prog_6_method_26_code 33 = .ok (.iload_n 2, 1) := by decide +kernel
theorem d_M_read_34 : decode prog_6_method_26_code 34 = .ok (.iaload, 1) := by decide +kernel
theorem d_M_read_35 : decode prog_6_method_26_code 35 = .ok (.if_icmp .lt 16, 3) := by decide +kernel
theorem d_M_read_38 : decode prog_6_method_26_code 38 = .ok (.aload_n 0, 1) := by decide +kernel
theorem d_M_read_39 : decode prog_6_method_26_code 39 = .ok (.getfield 75, 3) := by decide +kernel
theorem d_M_read_42 : decode prog_6_method_26_code 42 = .ok (.aload_n 0, 1) := by decide +kernel
theorem d_M_read_43 : decode prog_6_method_26_code 43 = .ok (.getfield 44, 3) := by decide +kernel
theorem d_M_read_46 : decode prog_6_method_26_code 46 = .ok (.iload_n 2, 1) := by decide +kernel
theorem d_M_read_47 : decode prog_6_method_26_code 47 = .ok (.iaload, 1) := by decide +kernel
theorem d_M_read_48 : decode prog_6_method_26_code 48 = .ok (.if_icmp .lt 7, 3) := by decide +kernel
theorem d_M_read_51 : decode prog_6_method_26_code 51 = .ok (.iconst 2, 1) := by decide +kernel
theorem d_M_read_52 : decode prog_6_method_26_code 52 = .ok (.goto 4, 3) := by decide +kernel
theorem d_M_read_55 : decode prog_6_method_26_code 55 = .ok (.iconst 0, 1) := by decide +kernel
theorem d_M_read_56 : decode prog_6_method_26_code 56 = .ok (.putfield 68, 3) := by decide +kernel
theorem d_M_read_59 : decode prog_6_method_26_code 59 = .ok (.aload_n 0, 1) := by decide +kernel
theorem d_M_read_60 : decode prog_6_method_26_code 60 = .ok (.getfield 68, 3) := by decide +kernel
theorem d_M_read_63 : decode prog_6_method_26_code 63 = .ok (.ifCond .le 7, 3) := by decide +kernel
theorem d_M_read_66 : decode prog_6_method_26_code 66 = .ok (.iconst 0, 1) := by decide +kernel
theorem d_M_read_67 : decode prog_6_method_26_code 67 = .ok (.goto 9, 3) := by decide +kernel
theorem d_M_read_70 : decode prog_6_method_26_code 70 = .ok (.aload_n 0, 1) := by decide +kernel
theorem d_M_read_71 : decode prog_6_method_26_code 71 = .ok (.getfield 16, 3) := by decide +kernel
theorem d_M_read_74 : decode prog_6_method_26_code 74 = .ok (.iload_n 2, 1) := by decide +kernel
theorem d_M_read_75 : decode prog_6_method_26_code 75 = .ok (.iaload, 1) := by decide +kernel
theorem d_M_read_76 : decode prog_6_method_26_code 76 = .ok (.ireturn, 1) := by decide +kernel
end
section
theorem d_M_current_0 : decode prog_6_method_27_code 0 = .ok (.aload_n 0, 1) := by decide +kernel
theorem d_M_current_1 : decode prog_6_method_27_code 1 = .ok (.iload_n 1, 1) := by decide +kernel
theorem d_M_current_2 : decode prog_6_method_27_code 2 = .ok (.invokevirtual 87, 3) := by decide +kernel
theorem d_M_current_5 : decode prog_6_method_27_code 5 = .ok (.istore_n 2, 1) := by decide +kernel
theorem d_M_current_6 : decode prog_6_method_27_code 6 = .ok (.aload_n 0, 1) := by decide +kernel
theorem d_M_current_7 : decode prog_6_method_27_code 7 = .ok (.iload_n 2, 1) := by decide +kernel
theorem d_M_current_8 : decode prog_6_method_27_code 8 = .ok (.ifCond .lt 12, 3) := by decide +kernel
theorem d_M_current_11 : decode prog_6_method_27_code 11 = .ok (.aload_n 0, 1) := by decide +kernel
theorem d_M_current_12 : decode prog_6_method_27_code 12 = .ok (.getfield 16, 3) := by decide +kernel
theorem d_M_current_15 : decode prog_6_method_27_code 15 = .ok (.iload_n 2, 1) := by decide +kernel
theorem d_M_current_16 : decode prog_6_method_27_code 16 = .ok (.iaload, 1) := by decide +kernel
theorem d_M_current_17 : decode prog_6_method_27_code 17 = .ok (.ifCond .ne 7, 3) := by decide +kernel
theorem d_M_current_20 : decode prog_6_method_27_code 20 = .ok (.iconst 1, 1) := by decide +kernel
theorem d_M_current_21 : decode prog_6_method_27_code 21 = .ok (.goto 4, 3) := by decide +kernel
theorem d_M_current_24 : decode prog_6_method_27_code 24 = .ok (.iconst 0, 1) := by decide +kernel
theorem d_M_current_25 : decode prog_6_method_27_code 25 = .ok (.putfield 68, 3) := by decide +kernel
theorem d_M_current_28 : decode prog_6_method_27_code 28 = .ok (.aload_n 0, 1) := by decide +kernel
theorem d_M_current_29 : decode prog_6_method_27_code 29 = .ok (.getfield 68, 3) := by decide +kernel
theorem d_M_current_32 : decode prog_6_method_27_code 32 = .ok (.ifCond .le 7, 3) := by decide +kernel
theorem d_M_current_35 : decode prog_6_method_27_code 35 = .ok (.iconst 0, 1) := by decide +kernel
theorem d_M_current_36 : decode prog_6_method_27_code 36 = .ok (.goto 9, 3) := by decide +kernel
theorem d_M_current_39 : decode prog_6_method_27_code 39 = .ok (.aload_n 0, 1) := by decide +kernel
theorem d_M_current_40 : decode prog_6_method_27_code 40 = .ok (.getfield 7, 3) := by decide +kernel
theorem d_M_current_43 : decode prog_6_method_27_code 43 = .ok (.iload_n 2, 1) := by decide +kernel
theorem d_M_current_44 : decode prog_6_method_27_code 44 = .ok (.iaload, 1) := by decide +kernel
theorem d_M_current_45 : decode prog_6_method_27_code 45 = .ok (.ireturn, 1) := by decide +kernel
theorem d_M_about_0 : decode prog_6_method_28_code 0 = .ok (.aload_n 0, 1) := by decide +kernel
theorem d_M_about_1 : decode prog_6_method_28_code 1 = .ok (.iload_n 1, 1) := by decide +kernel
theorem d_M_about_2 : decode prog_6_method_28_code 2 = .ok (.invokevirtual 83, 3) := by decide +kernel
theorem d_M_about_5 : decode prog_6_method_28_code 5 = .ok (.istore_n 3, 1) := by decide +kernel
theorem d_M_about_6 : decode prog_6_method_28_code 6 = .ok (.aload_n 0, 1) := by decide +kernel
theorem d_M_about_7 : decode prog_6_method_28_code 7 = .ok (.iload_n 3, 1) := by decide +kernel
theorem d_M_about_8 : decode prog_6_method_28_code 8 = .ok (.ifCond .ge 7, 3) := by decide +kernel
theorem d_M_about_11 : decode prog_6_method_28_code 11 = .ok (.iconst 1, 1) := by decide +kernel
theorem d_M_about_12 : decode prog_6_method_28_code 12 = .ok (.goto 18, 3) := by decide +kernel
theorem d_M_about_15 : decode prog_6_method_28_code 15 = .ok (.iload_n 2, 1) := by decide +kernel
theorem d_M_about_16 : decode prog_6_method_28_code 16 = .ok (.ifCond .lt 9, 3) := by decide +kernel
theorem d_M_about_19 : decode prog_6_method_28_code 19 = .ok (.iload_n 2, 1) := by decide +kernel
theorem d_M_about_20 : decode prog_6_method_28_code 20 = .ok (.bipush 7, 2) := by decide +kernel
theorem d_M_about_22 : decode prog_6_method_28_code 22 = .ok (.if_icmp .le 7, 3) := by decide +kernel
theorem d_M_about_25 : decode prog_6_method_28_code 25 = .ok (.iconst 2, 1) := by decide +kernel
theorem d_M_about_26 : decode prog_6_method_28_code 26 = .ok (.goto 4, 3) := by decide +kernel
theorem d_M_about_29 : decode prog_6_method_28_code 29 = .ok (.iconst 0, 1) := by decide +kernel
theorem d_M_about_30 : decode prog_6_method_28_code 30 = .ok (.putfield 68, 3) := by decide +kernel
theorem d_M_about_33 : decode prog_6_method_28_code 33 = .ok (.aload_n 0, 1) := by decide +kernel
theorem d_M_about_34 : decode prog_6_method_28_code 34 = .ok (.getfield 68, 3) := by decide +kernel
theorem d_M_about_37 : decode prog_6_method_28_code 37 = .ok (.ifCond .le 5, 3) := by decide +kernel
theorem d_M_about_40 : decode prog_6_method_28_code 40 = .ok (.iconst 0, 1) := by decide +kernel
theorem d_M_about_41 : decode prog_6_method_28_code 41 = .ok (.ireturn, 1) := by decide +kernel
theorem d_M_about_42 : decode prog_6_method_28_code 42 = .ok (.iload_n 2, 1) := by decide +kernel
theorem d_M_about_43 : decode prog_6_method_28_code 43 = .ok (.tableswitch 96 0 6 #[41, 48, 55, 62, 68, 82, 89], 41) := by decide +kernel
theorem d_M_about_84 : decode prog_6_method_28_code 84 = .ok (.aload_n 0, 1) := by decide +kernel
theorem d_M_about_85 : decode prog_6_method_28_code 85 = .ok (.getfield 13, 3) := by decide +kernel
theorem d_M_about_88 : decode prog_6_method_28_code 88 = .ok (.iload_n 3, 1) := by decide +kernel
theorem d_M_about_89 : decode prog_6_method_28_code 89 = .ok (.iaload, 1) := by decide +kernel
theorem d_M_about_90 : decode prog_6_method_28_code 90 = .ok (.ireturn, 1) := by decide +kernel
theorem d_M_about_91 : decode prog_6_method_28_code 91 = .ok (.aload_n 0, 1) := by decide +kernel
theorem d_M_about_92 : decode prog_6_method_28_code 92 = .ok (.getfield 16, 3) := by decide +kernel
theorem d_M_about_95 : decode prog_6_method_28_code 95 = .ok (.iload_n 3, 1) := by decide +kernel
theorem d_M_about_96 : decode prog_6_method_28_code 96 = .ok (.iaload, 1) := by decide +kernel
theorem d_M_about_97 : decode prog_6_method_28_code 97 = .ok (.ireturn, 1) := by decide +kernel
theorem d_M_about_98 : decode prog_6_method_28_code 98 = .ok (.aload_n 0, 1) := by decide +kernel
theorem d_M_about_99 : decode prog_6_method_28_code 99 = .ok (.getfield 28, 3) := by decide +kernel
theorem d_M_about_102 : decode prog_6_method_28_code 102 = .ok (.iload_n 3, 1) := by decide +kernel
theorem d_M_about_103 : decode prog_6_method_28_code 103 = .ok (.iaload, 1) := by decide +kernel
theorem d_M_about_104 : decode prog_6_method_28_code 104 = .ok (.ireturn, 1) := by decide +kernel
theorem d_M_about_105 : decode prog_6_method_28_code 105 = .ok (.aload_n 0, 1) := by decide +kernel
theorem d_M_about_106 : decode prog_6_method_28_code 106 = .ok (.iload_n 3, 1) := by decide +kernel
theorem d_M_about_107 : decode prog_6_method_28_code 107 = .ok (.invokevirtual 116, 3) := by decide +kernel
theorem d_M_about_110 : decode prog_6_method_28_code 110 = .ok (.ireturn, 1) := by decide +kernel
theorem d_M_about_111 : decode prog_6_method_28_code 111 = .ok (.aload_n 0, 1) := by decide +kernel
theorem d_M_about_112 : decode prog_6_method_28_code 112 = .ok (.iload_n 3, 1) := by decide +kernel
theorem d_M_about_113 : decode prog_6_method_28_code 113 = .ok (.invokevirtual 94, 3) := by decide +kernel
theorem d_M_about_116 : decode prog_6_method_28_code 116 = .ok (.ifCond .eq 7, 3) := by decide +kernel
theorem d_M_about_119 : decode prog_6_method_28_code 119 = .ok (.iconst 1, 1) := by decide +kernel
theorem d_M_about_120 : decode prog_6_method_28_code 120 = .ok (.goto 4, 3) := by decide +kernel
theorem d_M_about_123 : decode prog_6_method_28_code 123 = .ok (.iconst 0, 1) := by decide +kernel
theorem d_M_about_124 : decode prog_6_method_28_code 124 = .ok (.ireturn, 1) := by decide +kernel
theorem d_M_about_125 : decode prog_6_method_28_code 125 = .ok (.aload_n 0, 1) := by decide +kernel
theorem d_M_about_126 : decode prog_6_method_28_code 126 = .ok (.getfield 31, 3) := by decide +kernel
theorem d_M_about_129 : decode prog_6_method_28_code 129 = .ok (.iload_n 3, 1) := by decide +kernel
theorem d_M_about_130 : decode prog_6_method_28_code 130 = .ok (.iaload, 1) := by decide +kernel
theorem d_M_about_131 : decode prog_6_method_28_code 131 = .ok (.ireturn, 1) := by decide +kernel
theorem d_M_about_132 : decode prog_6_method_28_code 132 = .ok (.aload_n 0, 1) := by decide +kernel
theorem d_M_about_133 : decode prog_6_method_28_code 133 = .ok (.getfield 38, 3) := by decide +kernel
theorem d_M_about_136 : decode prog_6_method_28_code 136 = .ok (.iload_n 3, 1) := by decide +kernel
theorem d_M_about_137 : decode prog_6_method_28_code 137 = .ok (.iaload, 1) := by decide +kernel
theorem d_M_about_138 : decode prog_6_method_28_code 138 = .ok (.ireturn, 1) := by decide +kernel
theorem d_M_about_139 : decode prog_6_method_28_code 139 = .ok (.aload_n 0, 1) := by decide +kernel
theorem d_M_about_140 : decode prog_6_method_28_code 140 = .ok (.iload_n 3, 1) := by decide +kernel
theorem d_M_about_141 : decode prog_6_method_28_code 141 = .ok (.invokevirtual 123, 3) := by decide +kernel
theorem d_M_about_144 : decode prog_6_method_28_code 144 = .ok (.ifCond .eq 7, 3) := by decide +kernel
theorem d_M_about_147 : decode prog_6_method_28_code 147 = .ok (.iconst 1, 1) := by decide +kernel
theorem d_M_about_148 : decode prog_6_method_28_code 148 = .ok (.goto 4, 3) := by decide +kernel
theorem d_M_about_151 : decode prog_6_method_28_code 151 = .ok (.iconst 0, 1) := by decide +kernel
theorem d_M_about_152 : decode prog_6_method_28_code 152 = .ok (.ireturn, 1) := by decide +kernel
theorem d_M_entry_0 : decode prog_6_method_29_code 0 = .ok (.aload_n 0, 1) := by decide +kernel
theorem d_M_entry_1 : decode prog_6_method_29_code 1 = .ok (.iload_n 2, 1) := by decide +kernel
theorem d_M_entry_2 : decode prog_6_method_29_code 2 = .ok (.ifCond .lt 8, 3) := by decide +kernel
theorem d_M_entry_5 : decode prog_6_method_29_code 5 = .ok (.iload_n 2, 1) := by decide +kernel
theorem d_M_entry_6 : decode prog_6_method_29_code 6 = .ok (.iconst 3, 1) := by decide +kernel
theorem d_M_entry_7 : decode prog_6_method_29_code 7 = .ok (.if_icmp .le 7, 3) := by decide +kernel
theorem d_M_entry_10 : decode prog_6_method_29_code 10 = .ok (.iconst 1, 1) := by decide +kernel
theorem d_M_entry_11 : decode prog_6_method_29_code 11 = .ok (.goto 26, 3) := by decide +kernel
theorem d_M_entry_14 : decode prog_6_method_29_code 14 = .ok (.iload_n 1, 1) := by decide +kernel
theorem d_M_entry_15 : decode prog_6_method_29_code 15 = .ok (.ifCond .lt 17, 3) := by decide +kernel
theorem d_M_entry_18 : decode prog_6_method_29_code 18 = .ok (.iload_n 1, 1) := by decide +kernel
theorem d_M_entry_19 : decode prog_6_method_29_code 19 = .ok (.bipush 63, 2) := by decide +kernel
theorem d_M_entry_21 : decode prog_6_method_29_code 21 = .ok (.if_icmp .gt 11, 3) := by decide +kernel
theorem d_M_entry_24 : decode prog_6_method_29_code 24 = .ok (.iload_n 1, 1) := by decide +kernel
theorem d_M_entry_25 : decode prog_6_method_29_code 25 = .ok (.aload_n 0, 1) := by decide +kernel
theorem d_M_entry_26 : decode prog_6_method_29_code 26 = .ok (.getfield 72, 3) := by decide +kernel
theorem d_M_entry_29 : decode prog_6_method_29_code 29 = .ok (.if_icmp .lt 7, 3) := by decide +kernel
theorem d_M_entry_32 : decode prog_6_method_29_code 32 = .ok (.iconst 2, 1) := by decide +kernel
theorem d_M_entry_33 : decode prog_6_method_29_code 33 = .ok (.goto 4, 3) := by decide +kernel
theorem d_M_entry_36 : decode prog_6_method_29_code 36 = .ok (.iconst 0, 1) := by decide +kernel
theorem d_M_entry_37 : decode prog_6_method_29_code 37 = .ok (.putfield 68, 3) := by decide +kernel
theorem d_M_entry_40 : decode prog_6_method_29_code 40 = .ok (.aload_n 0, 1) := by decide +kernel
theorem d_M_entry_41 : decode prog_6_method_29_code 41 = .ok (.getfield 68, 3) := by decide +kernel
theorem d_M_entry_44 : decode prog_6_method_29_code 44 = .ok (.ifCond .le 7, 3) := by decide +kernel
theorem d_M_entry_47 : decode prog_6_method_29_code 47 = .ok (.iconst 0, 1) := by decide +kernel
theorem d_M_entry_48 : decode prog_6_method_29_code 48 = .ok (.goto 23, 3) := by decide +kernel
theorem d_M_entry_51 : decode prog_6_method_29_code 51 = .ok (.aload_n 0, 1) := by decide +kernel
theorem d_M_entry_52 : decode prog_6_method_29_code 52 = .ok (.getfield 59, 3) := by decide +kernel
theorem d_M_entry_55 : decode prog_6_method_29_code 55 = .ok (.aload_n 0, 1) := by decide +kernel
theorem d_M_entry_56 : decode prog_6_method_29_code 56 = .ok (.getfield 72, 3) := by decide +kernel
theorem d_M_entry_59 : decode prog_6_method_29_code 59 = .ok (.iconst 1, 1) := by decide +kernel
theorem d_M_entry_60 : decode prog_6_method_29_code 60 = .ok (.isub, 1) := by decide +kernel
theorem d_M_entry_61 : decode prog_6_method_29_code 61 = .ok (.iload_n 1, 1) := by decide +kernel
theorem d_M_entry_62 : decode prog_6_method_29_code 62 = .ok (.isub, 1) := by decide +kernel
theorem d_M_entry_63 : decode prog_6_method_29_code 63 = .ok (.bipush 64, 2) := by decide +kernel
theorem d_M_entry_65 : decode prog_6_method_29_code 65 = .ok (.irem, 1) := by decide +kernel
theorem d_M_entry_66 : decode prog_6_method_29_code 66 = .ok (.iconst 4, 1) := by decide +kernel
theorem d_M_entry_67 : decode prog_6_method_29_code 67 = .ok (.imul, 1) := by decide +kernel
theorem d_M_entry_68 : decode prog_6_method_29_code 68 = .ok (.iload_n 2, 1) := by decide +kernel
theorem d_M_entry_69 : decode prog_6_method_29_code 69 = .ok (.iadd, 1) := by decide +kernel
theorem d_M_entry_70 : decode prog_6_method_29_code 70 = .ok (.iaload, 1) := by decide +kernel
theorem d_M_entry_71 : decode prog_6_method_29_code 71 = .ok (.ireturn, 1) := by decide +kernel
theorem d_M_link_0 : decode prog_6_method_30_code 0 = .ok (.aload_n 0, 1) := by decide +kernel
theorem d_M_link_1 : decode prog_6_method_30_code 1 = .ok (.iconst 0, 1) := by decide +kernel
theorem d_M_link_2 : decode prog_6_method_30_code 2 = .ok (.putfield 68, 3) := by decide +kernel
theorem d_M_link_5 : decode prog_6_method_30_code 5 = .ok (.aload_n 0, 1) := by decide +kernel
theorem d_M_link_6 : decode prog_6_method_30_code 6 = .ok (.getfield 64, 3) := by decide +kernel
theorem d_M_link_9 : decode prog_6_method_30_code 9 = .ok (.lreturn, 1) := by decide +kernel
theorem d_M_figure_0 : decode prog_6_method_31_code 0 = .ok (.aload_n 0, 1) := by decide +kernel
theorem d_M_figure_1 : decode prog_6_method_31_code 1 = .ok (.iload_n 1, 1) := by decide +kernel
theorem d_M_figure_2 : decode prog_6_method_31_code 2 = .ok (.ifCond .lt 8, 3) := by decide +kernel
theorem d_M_figure_5 : decode prog_6_method_31_code 5 = .ok (.iload_n 1, 1) := by decide +kernel
theorem d_M_figure_6 : decode prog_6_method_31_code 6 = .ok (.iconst 5, 1) := by decide +kernel
theorem d_M_figure_7 : decode prog_6_method_31_code 7 = .ok (.if_icmp .le 7, 3) := by decide +kernel
theorem d_M_figure_10 : decode prog_6_method_31_code 10 = .ok (.iconst 1, 1) := by decide +kernel
theorem d_M_figure_11 : decode prog_6_method_31_code 11 = .ok (.goto 4, 3) := by decide +kernel
theorem d_M_figure_14 : decode prog_6_method_31_code 14 = .ok (.iconst 0, 1) := by decide +kernel
theorem d_M_figure_15 : decode prog_6_method_31_code 15 = .ok (.putfield 68, 3) := by decide +kernel
theorem d_M_figure_18 : decode prog_6_method_31_code 18 = .ok (.aload_n 0, 1) := by decide +kernel
theorem d_M_figure_19 : decode prog_6_method_31_code 19 = .ok (.getfield 68, 3) := by decide +kernel
theorem d_M_figure_22 : decode prog_6_method_31_code 22 = .ok (.ifCond .le 5, 3) := by decide +kernel
theorem d_M_figure_25 : decode prog_6_method_31_code 25 = .ok (.iconst 0, 1) := by decide +kernel
theorem d_M_figure_26 : decode prog_6_method_31_code 26 = .ok (.ireturn, 1) := by decide +kernel
theorem d_M_figure_27 : decode prog_6_method_31_code 27 = .ok (.iconst 0, 1) := by decide +kernel
theorem d_M_figure_28 : decode prog_6_method_31_code 28 = .ok (.istore_n 2, 1) := by decide +kernel
theorem d_M_figure_29 : decode prog_6_method_31_code 29 = .ok (.iconst 0, 1) := by decide +kernel
theorem d_M_figure_30 : decode prog_6_method_31_code 30 = .ok (.istore_n 3, 1) := by decide +kernel
theorem d_M_figure_31 : decode prog_6_method_31_code 31 = .ok (.iconst 0, 1) := by decide +kernel
theorem d_M_figure_32 : decode prog_6_method_31_code 32 = .ok (.istore 4, 2) := by decide +kernel
theorem d_M_figure_34 : decode prog_6_method_31_code 34 = .ok (.iload 4, 2) := by decide +kernel
theorem d_M_figure_36 : decode prog_6_method_31_code 36 = .ok (.aload_n 0, 1) := by decide +kernel
theorem d_M_figure_37 : decode prog_6_method_31_code 37 = .ok (.getfield 80, 3) := by decide +kernel
theorem d_M_figure_40 : decode prog_6_method_31_code 40 = .ok (.if_icmp .ge 46, 3) := by decide +kernel
theorem d_M_figure_43 : decode prog_6_method_31_code 43 = .ok (.iload_n 2, 1) := by decide +kernel
theorem d_M_figure_44 : decode prog_6_method_31_code 44 = .ok (.aload_n 0, 1) := by decide +kernel
theorem d_M_figure_45 : decode prog_6_method_31_code 45 = .ok (.getfield 16, 3) := by decide +kernel
theorem d_M_figure_48 : decode prog_6_method_31_code 48 = .ok (.iload 4, 2) := by decide +kernel
theorem d_M_figure_50 : decode prog_6_method_31_code 50 = .ok (.iaload, 1) := by decide +kernel
theorem d_M_figure_51 : decode prog_6_method_31_code 51 = .ok (.iadd, 1) := by decide +kernel
theorem d_M_figure_52 : decode prog_6_method_31_code 52 = .ok (.istore_n 2, 1) := by decide +kernel
theorem d_M_figure_53 : decode prog_6_method_31_code 53 = .ok (.iload_n 3, 1) := by decide +kernel
theorem d_M_figure_54 : decode prog_6_method_31_code 54 = .ok (.aload_n 0, 1) := by decide +kernel
theorem d_M_figure_55 : decode prog_6_method_31_code 55 = .ok (.getfield 16, 3) := by decide +kernel
theorem d_M_figure_58 : decode prog_6_method_31_code 58 = .ok (.iload 4, 2) := by decide +kernel
theorem d_M_figure_60 : decode prog_6_method_31_code 60 = .ok (.iaload, 1) := by decide +kernel
theorem d_M_figure_61 : decode prog_6_method_31_code 61 = .ok (.ifCond .le 16, 3) := by decide +kernel
theorem d_M_figure_64 : decode prog_6_method_31_code 64 = .ok (.aload_n 0, 1) := by decide +kernel
theorem d_M_figure_65 : decode prog_6_method_31_code 65 = .ok (.iload 4, 2) := by decide +kernel
theorem d_M_figure_67 : decode prog_6_method_31_code 67 = .ok (.invokevirtual 123, 3) := by decide +kernel
theorem d_M_figure_70 : decode prog_6_method_31_code 70 = .ok (.ifCond .eq 7, 3) := by decide +kernel
theorem d_M_figure_73 : decode prog_6_method_31_code 73 = .ok (.iconst 1, 1) := by decide +kernel
theorem d_M_figure_74 : decode prog_6_method_31_code 74 = .ok (.goto 4, 3) := by decide +kernel
theorem d_M_figure_77 : decode prog_6_method_31_code 77 = .ok (.iconst 0, 1) := by decide +kernel
theorem d_M_figure_78 : decode prog_6_method_31_code 78 = .ok (.iadd, 1) := by decide +kernel
theorem d_M_figure_79 : decode prog_6_method_31_code 79 = .ok (.istore_n 3, 1) := by decide +kernel
theorem d_M_figure_80 : decode prog_6_method_31_code 80 = .ok (.iinc 4 1, 3) := by decide +kernel
theorem d_M_figure_83 : decode prog_6_method_31_code 83 = .ok (.goto (-49), 3) := by decide +kernel
theorem d_M_figure_86 : decode prog_6_method_31_code 86 = .ok (.iload_n 1, 1) := by decide +kernel
theorem d_M_figure_87 : decode prog_6_method_31_code 87 = .ok (.ifCond .ne 10, 3) := by decide +kernel
theorem d_M_figure_90 : decode prog_6_method_31_code 90 = .ok (.aload_n 0, 1) := by decide +kernel
theorem d_M_figure_91 : decode prog_6_method_31_code 91 = .ok (.getfield 75, 3) := by decide +kernel
theorem d_M_figure_94 : decode prog_6_method_31_code 94 = .ok (.goto 49, 3) := by decide +kernel
theorem d_M_figure_97 : decode prog_6_method_31_code 97 = .ok (.iload_n 1, 1) := by decide +kernel
theorem d_M_figure_98 : decode prog_6_method_31_code 98 = .ok (.iconst 1, 1) := by decide +kernel
theorem d_M_figure_99 : decode prog_6_method_31_code 99 = .ok (.if_icmp .ne 10, 3) := by decide +kernel
theorem d_M_figure_102 : decode prog_6_method_31_code 102 = .ok (.aload_n 0, 1) := by decide +kernel
theorem d_M_figure_103 : decode prog_6_method_31_code 103 = .ok (.getfield 80, 3) := by decide +kernel
theorem d_M_figure_106 : decode prog_6_method_31_code 106 = .ok (.goto 37, 3) := by decide +kernel
theorem d_M_figure_109 : decode prog_6_method_31_code 109 = .ok (.iload_n 1, 1) := by decide +kernel
theorem d_M_figure_110 : decode prog_6_method_31_code 110 = .ok (.iconst 2, 1) := by decide +kernel
theorem d_M_figure_111 : decode prog_6_method_31_code 111 = .ok (.if_icmp .ne 10, 3) := by decide +kernel
theorem d_M_figure_114 : decode prog_6_method_31_code 114 = .ok (.aload_n 0, 1) := by decide +kernel
theorem d_M_figure_115 : decode prog_6_method_31_code 115 = .ok (.getfield 97, 3) := by decide +kernel
theorem d_M_figure_118 : decode prog_6_method_31_code 118 = .ok (.goto 25, 3) := by decide +kernel
theorem d_M_figure_121 : decode prog_6_method_31_code 121 = .ok (.iload_n 1, 1) := by decide +kernel
theorem d_M_figure_122 : decode prog_6_method_31_code 122 = .ok (.iconst 3, 1) := by decide +kernel
theorem d_M_figure_123 : decode prog_6_method_31_code 123 = .ok (.if_icmp .ne 10, 3) := by decide +kernel
theorem d_M_figure_126 : decode prog_6_method_31_code 126 = .ok (.aload_n 0, 1) := by decide +kernel
theorem d_M_figure_127 : decode prog_6_method_31_code 127 = .ok (.getfield 72, 3) := by decide +kernel
theorem d_M_figure_130 : decode prog_6_method_31_code 130 = .ok (.goto 13, 3) := by decide +kernel
theorem d_M_figure_133 : decode prog_6_method_31_code 133 = .ok (.iload_n 1, 1) := by decide +kernel
theorem d_M_figure_134 : decode prog_6_method_31_code 134 = .ok (.iconst 4, 1) := by decide +kernel
theorem d_M_figure_135 : decode prog_6_method_31_code 135 = .ok (.if_icmp .ne 7, 3) := by decide +kernel
theorem d_M_figure_138 : decode prog_6_method_31_code 138 = .ok (.iload_n 2, 1) := by decide +kernel
theorem d_M_figure_139 : decode prog_6_method_31_code 139 = .ok (.goto 4, 3) := by decide +kernel
theorem d_M_figure_142 : decode prog_6_method_31_code 142 = .ok (.iload_n 3, 1) := by decide +kernel
theorem d_M_figure_143 : decode prog_6_method_31_code 143 = .ok (.ireturn, 1) := by decide +kernel
end
section
/-! Ways in which a method ends (an answer, or an exception of a named class); worlds as lists of cells, carried whole; one list of words for all methods -/
section TA
variable {p : Program} {l : Launch} {e : Env} {R : Room} {s : State} {m : MethodId} {args : Array Value} {below : List Frame} {meth : Method} {c : Code} {H : Heap} {locs : List Loc} {cells slots : Nat} {Q : State → Prop}
/-- the end of a method: Rt of the answer, or Xt of the exception's class -/
def tx_Q (Rt : Option Value → State → State → Prop) (Xt : String → State → State → Prop) (mc ms : Nat) (fr : Addr → Prop) : Array Value → State → Outcome → State → Prop := fun _ st o t =>
  (∃ v, o = .returned v ∧ Rt v st t ∧ ∃ L, FrameEnd st o t L mc ms ∧ ∀ q ∈ L, fr q.base) ∨
  (∃ (q : Addr) (E : String) (ce : Cell) (L : List Loc), o = .threw q ∧ Xt E st t ∧ t.heap[q]? = some ce ∧ ce.vm = .none ∧ st.vm.findClass E = some ce.cls ∧ st.WarmedH t.vm ∧ st.sameButNew ({ t with vm := st.vm } : State) L mc ms ∧ ∀ z ∈ L, fr z.base)
/-- a callee's contract, spent at a frame g of this walk: it comes back, or throws over g -/
theorem tx_core {U : State} {y : MethodName} {Ts : List Cond} {rm : Room} {Pc : Array Value → State → Prop} {Rt : Option Value → State → State → Prop} {Xt : String → State → State → Prop} {len maxL : Nat} {fr : Addr → Prop} {g : JFrame} {ig : Instr} {mk : MethodId} {a : Array Value} {methY : Method} {cY : Code}
    (X : Stand p l e R s m args below meth c U locs cells slots)
    (hM : MetFree l y (headSpec Ts rm) Pc (fun _ _ _ _ _ => True) (tx_Q Rt Xt rm.cells rm.slots fr)) (hPc : Pc a (U.calling g mk a))
    (hwords : ∀ w ∈ Ts, w.before a U = true) (hmY : U.vm.method? mk = some methY) (hcY : methY.code = some cY) (hlY : cY.maxLocals = maxL) (hinit : (Cond.initialized y.cls).before a U = true)
    (hframes : rm.frames + 1 ≤ R.frames) (hlocals : 8 + (maxL + 11) + rm.locals ≤ R.locals) (hcells : cells + rm.cells ≤ R.cells) (hslots : slots + rm.slots ≤ R.slots)
    (hn : U.methodNamed? y = some mk) (hg : g.method = m) (hsize : g.locals.size = c.maxLocals) (hdg : decode c.code g.pc = .ok (ig, len)) (hW : 2 * g.monitorRoom + (g.stack.map fun v => v.category).sum ≤ 8) :
    (∃ (v : Option Value) (t T' : State) (L : List Loc), Rt v (U.calling g mk a) t ∧ T'.heap = t.heap ∧ T'.vm = t.vm ∧ (∀ q ∈ L, fr q.base) ∧ Stand p l e R s m args below meth c T' (locs ++ L) (cells + rm.cells) (slots + rm.slots) ∧
      Steps p.tables e below (doInvoke e (U.setTop g) [] mk a).1 (T'.setTop { g with pc := g.pc + len, stack := v.toList ++ g.stack })) ∨
    (∃ (q : Addr) (E : String) (ce : Cell) (t T' : State) (L : List Loc), Xt E (U.calling g mk a) t ∧ T'.heap = t.heap ∧ T'.vm = t.vm ∧ t.heap[q]? = some ce ∧ ce.vm = .none ∧ U.vm.findClass E = some ce.cls ∧ (∀ z ∈ L, fr z.base) ∧ Stand p l e R s m args below meth c T' (locs ++ L) (cells + rm.cells) (slots + rm.slots) ∧
      Steps p.tables e below (doInvoke e (U.setTop g) [] mk a).1 ((T'.setTop g).pushFrame (.throwing q))) := by
  have h : At U g.method c below := by rw [hg]; exact X.here
  obtain ⟨kY, hkY, -⟩ := className_of_methodNamed hn
  have hinitY : kY.init = .initialized := Cond.initialized_spec (findClass_of_methodNamed hn) hkY hinit
  have h1 : (headSpec Ts rm).pre.before a U = true := atoms_intro hwords
  have hlocals9 : 8 + (maxL + 11) + (headSpec Ts rm).room.locals ≤ R.locals := hlocals
  have happ : (headSpec Ts rm).appliesLoose y e.platform (U.calling g mk a) = true :=
    Spec.appliesLoose_calling (g := g) h hdg hn hkY hinitY
      (X.room_calling (g := g) (R' := (headSpec Ts rm).room) hsize hmY hcY hframes (by rw [hlY]; omega) hcells hslots) h1
  obtain ⟨mid, hmid⟩ := h.above
  have hfr : (U.setTop g).frames = (.java g :: mid) ++ below := by rw [State.frames_setTop' g h.top, hmid]; rfl
  obtain ⟨o, s₂, hsteps, -, hend, hq⟩ := Steps.callFree hM p X.admits X.cas X.clock (acts := []) hfr happ hPc trivial
  have hq' : tx_Q Rt Xt rm.cells rm.slots fr a (U.calling g mk a) o s₂ := hq
  rw [State.frames_setTop' g h.top] at hend
  obtain ⟨g₀, hg0⟩ := Option.isSome_iff_exists.mp h.top
  obtain ⟨r, hr⟩ := State.topJava?_eq_some.mp hg0
  have hr' : (({ U with heap := s₂.heap, slotsUsed := s₂.slotsUsed } : State).setVm s₂.vm).frames = .java g₀ :: r := hr
  obtain ⟨t0, ht0, -⟩ := State.frames_cons hr
  have hU : ({ U with heap := s₂.heap, slotsUsed := s₂.slotsUsed } : State) = { U.setFrames U.frames with heap := s₂.heap, slotsUsed := s₂.slotsUsed } := by rw [State.setFrames_self ht0]
  have stand : ∀ L : List Loc, U.WarmedH s₂.vm → U.sameButNew ({ U with heap := s₂.heap, slotsUsed := s₂.slotsUsed } : State) L rm.cells rm.slots →
      Stand p l e R s m args below meth c (({ U with heap := s₂.heap, slotsUsed := s₂.slotsUsed } : State).setVm s₂.vm) (locs ++ L) (cells + rm.cells) (slots + rm.slots) := fun L hW' hsame =>
    ⟨X.admits, X.cas, X.clock, X.frames, X.room, X.hears, X.method, X.code, (X.here.setHeapUsed s₂.heap s₂.slotsUsed).setVm hW'.alike, X.tail, State.WarmedH.trans X.warmed hW', X.limits, X.bytes, X.same.trans (hsame.setVm s.vm)⟩
  rcases hq' with ⟨v, rfl, hR, L, hfe, hL⟩ | ⟨q, E, ce, L, rfl, hE, hce, hcv, hcl, hW₂, hsm, hL⟩
  · obtain ⟨-, hW₂, e2, q2⟩ := id hfe
    have e3 : s₂ = ({ (U.calling g mk a).setFrames s₂.frames with heap := s₂.heap, slotsUsed := s₂.slotsUsed } : State).setVm s₂.vm := by
      have h9 : s₂ = ({ s₂ with vm := (U.calling g mk a).vm } : State).setVm s₂.vm := rfl
      rw [e2] at h9
      exact h9
    obtain ⟨c₂, i₂, len₂, hc₂, hd₂, hf₂⟩ := hend
    have hW' : U.WarmedH s₂.vm := hW₂
    have hcc : c₂ = c := by
      have h9 : s₂.code? g.method = U.code? g.method := by rw [State.code?_eq, State.code?_eq, hW'.alike.method?]
      exact Option.some.inj (hc₂.symm.trans (h9.trans h.code))
    subst hcc
    have hlen : len₂ = len := by rw [hdg] at hd₂; cases hd₂; rfl
    subst hlen
    have hs₂ : s₂ = (({ U with heap := s₂.heap, slotsUsed := s₂.slotsUsed } : State).setVm s₂.vm).setTop { g with pc := g.pc + len₂, stack := v.toList ++ g.stack } := by
      refine e3.trans ?_
      rw [hf₂, State.calling_eq h.top, State.setFrames_setFrames, State.setTop_of_frames _ hr', hr]
      rfl
    refine Or.inl ⟨v, s₂, ({ U with heap := s₂.heap, slotsUsed := s₂.slotsUsed } : State).setVm s₂.vm, L, hR, rfl, rfl, hL, stand L hW' ⟨hU, q2⟩, ?_⟩
    rw [← hs₂]
    exact hsteps
  · obtain ⟨e2, q2⟩ := id hsm
    have e3 : s₂ = ({ (U.calling g mk a).setFrames s₂.frames with heap := s₂.heap, slotsUsed := s₂.slotsUsed } : State).setVm s₂.vm := by
      have h9 : s₂ = ({ s₂ with vm := (U.calling g mk a).vm } : State).setVm s₂.vm := rfl
      rw [e2] at h9
      exact h9
    have hf₂ : s₂.frames = .throwing q :: .java g :: U.frames.tail := hend
    have hW' : U.WarmedH s₂.vm := hW₂
    have hs₂ : s₂ = ((({ U with heap := s₂.heap, slotsUsed := s₂.slotsUsed } : State).setVm s₂.vm).setTop g).pushFrame (.throwing q) := by
      refine e3.trans ?_
      rw [hf₂, State.calling_eq h.top, State.setFrames_setFrames, State.pushFrame, State.frames_setTop _ hr', State.setTop_of_frames _ hr', State.setFrames_setFrames, hr]
      rfl
    refine Or.inr ⟨q, E, ce, s₂, ({ U with heap := s₂.heap, slotsUsed := s₂.slotsUsed } : State).setVm s₂.vm, L, hE, rfl, rfl, hce, hcv, hcl, hL, stand L hW' ⟨hU, q2⟩, ?_⟩
    rw [← hs₂]
    exact hsteps
/-- an invoking instruction at pc leads into the method y with the arguments av -/
def tInv (p : Program) (l : Launch) (e : Env) (R : Room) (s : State) (m : MethodId) (args : Array Value) (below : List Frame) (meth : Method) (c : Code) (H : Heap) (locs : List Loc) (cells slots : Nat) (y : MethodName) (maxL : Nat) (av : List Value) (pc : Nat) (ls : Array Slot) (rest st0 : List Value) : Prop :=
  ∀ T : State, T.heap = H → Stand p l e R s m args below meth c T locs cells slots → ∃ (vm₁ : Vm) (mk : MethodId) (methY : Method) (cY : Code) (ig : Instr), s.WarmedH vm₁ ∧ Stand p l e R s m args below meth c (T.setVm vm₁) locs cells slots ∧
    (T.setVm vm₁).methodNamed? y = some mk ∧ (T.setVm vm₁).vm.method? mk = some methY ∧ methY.code = some cY ∧ cY.maxLocals = maxL ∧ decode c.code pc = .ok (ig, 3) ∧
    ∀ target, (∀ acts, Steps p.tables e below (doInvoke e ((T.setVm vm₁).setTop (F0 m pc ls rest)) acts mk av.toArray).1 target) → Steps p.tables e below (T.setTop (F0 m pc ls st0)) target
/-- the frame g, with q thrown over it -/
def tT (p : Program) (l : Launch) (e : Env) (R : Room) (s : State) (m : MethodId) (args : Array Value) (below : List Frame) (meth : Method) (c : Code) (H : Heap) (locs : List Loc) (cells slots : Nat) (Q : State → Prop) (g : JFrame) (q : Addr) : Prop :=
  ∀ T : State, T.heap = H → Stand p l e R s m args below meth c T locs cells slots → ∃ t, Steps p.tables e below ((T.setTop g).pushFrame (.throwing q)) t ∧ Q t
/-- facts of the start that no method touches: kept when tables warm and when only cells of A change -/
def tZ (A : Nat → Prop) (Z : State → Heap → Prop) : Prop := (∀ (u U : State) (H : Heap), u.WarmedH U.vm → Z u H → Z U H) ∧ ∀ (U : State) (H H1 : Heap), (∀ a : Nat, a < H.size → ¬ A a → H1[a]? = H[a]?) → Z U H → Z U H1
/-- a world at a state -/
def tw (D : va_G) (cl : List vw_C) (tys : List (ClassId × FieldType)) (A : Nat → Prop) (Z : State → Heap → Prop) (w : va_W) (U : State) : Prop :=
  va_P D cl w U.heap ∧ va_K D cl tys U ∧ va_D A w ∧ (∀ q, U.heap.size ≤ q → A q) ∧ Z U U.heap
/-- a world within a walk that began at s -/
def tC (D : va_G) (cl : List vw_C) (tys : List (ClassId × FieldType)) (A : Nat → Prop) (Z : State → Heap → Prop) (s : State) (w : va_W) (H : Heap) (locs : List Loc) : Prop :=
  va_P D cl w H ∧ va_D A w ∧ va_S A s.heap H locs ∧ va_K D cl tys s ∧ (∀ q, s.heap.size ≤ q → A q) ∧ Z s s.heap
def tR (D : va_G) (cl : List vw_C) (tys : List (ClassId × FieldType)) (A : Nat → Prop) (Z : State → Heap → Prop) {α : Type} (Po : α → va_W → Prop) : α → State → State → Prop := fun v st t => va_F A st t ∧ ∃ w, Po v w ∧ tw D cl tys A Z w t
/-- a method's contract over worlds: from the world w0 and the arguments av; the answer and the world behind it satisfy Po; an exception's class and the world behind it Xo -/
def tM (l : Launch) (y : MethodName) (Ts : List Cond) (rm : Room) (D : va_G) (cl : List vw_C) (tys : List (ClassId × FieldType)) (A : Nat → Prop) (Z : State → Heap → Prop) (av : List Value) (w0 : va_W) (Po : Option Value → va_W → Prop) (Xo : String → va_W → Prop) : Prop :=
  MetFree l y (headSpec Ts rm) (fun a U => a = av.toArray ∧ tw D cl tys A Z w0 U) (fun _ _ _ _ _ => True) (tx_Q (tR D cl tys A Z Po) (tR D cl tys A Z Xo) rm.cells rm.slots A)
theorem tC.tw {D : va_G} {cl : List vw_C} {tys : List (ClassId × FieldType)} {A : Nat → Prop} {Z : State → Heap → Prop} {w : va_W} {U : State} (hZc : tZ A Z) (hC : tC D cl tys A Z s w H locs) (hU : U.heap = H) (ha : s.WarmedH U.vm) : tw D cl tys A Z w U := by
  obtain ⟨hP, hD, hS, hK, hA, hZ⟩ := hC
  refine ⟨by rw [hU]; exact hP, va_K.moved ha.alike hK, hD, fun q hq => hA q (Nat.le_trans hS.1 (by rw [← hU]; exact hq)), ?_⟩
  rw [hU]
  exact hZc.2 U s.heap H (fun a h1 h2 => hS.2.1 a h1 h2) (hZc.1 s U s.heap ha hZ)
end TA
section TB
variable {p : Program} {l : Launch} {e : Env} {R : Room} {s : State} {m : MethodId} {args : Array Value} {below : List Frame} {meth : Method} {c : Code} {H : Heap} {locs : List Loc} {cells slots : Nat} {Q : State → Prop}
variable {y : MethodName} {Ts : List Cond} {rm : Room} {D : va_G} {cl : List vw_C} {tys : List (ClassId × FieldType)} {A : Nat → Prop} {Z : State → Heap → Prop} {av : List Value} {w : va_W} {Po : Option Value → va_W → Prop} {Xo : String → va_W → Prop} {maxL pc : Nat} {ls : Array Slot} {rest st0 : List Value}
/-- a call by contract -/
theorem t_call (hv : tInv p l e R s m args below meth c H locs cells slots y maxL av pc ls rest st0) (hM : tM l y Ts rm D cl tys A Z av w Po Xo) (hZc : tZ A Z) (hG : GoodIn Ts Ts) (hts : ∀ z ∈ Ts, z.before args s = true) (hini : Cond.initialized y.cls ∈ Ts)
    (hC : tC D cl tys A Z s w H locs) (hsz : ls.size = c.maxLocals) (hrm : rm.frames + 1 ≤ R.frames ∧ 8 + (maxL + 11) + rm.locals ≤ R.locals ∧ cells + rm.cells ≤ R.cells ∧ slots + rm.slots ≤ R.slots) (hst : (rest.map fun v => v.category).sum ≤ 8)
    (kx : ∀ (E : String) (q : Addr) (ce : Cell) (w1 : va_W) (H1 : Heap) (locs1 : List Loc), Xo E w1 → tC D cl tys A Z s w1 H1 locs1 → H1[q]? = some ce → ce.vm = .none → s.vm.findClass E = some ce.cls → tT p l e R s m args below meth c H1 locs1 (cells + rm.cells) (slots + rm.slots) Q (F0 m pc ls rest) q)
    (kr : ∀ (v : Option Value) (w1 : va_W) (H1 : Heap) (locs1 : List Loc), Po v w1 → tC D cl tys A Z s w1 H1 locs1 → W p l e R s m args below meth c H1 locs1 (cells + rm.cells) (slots + rm.slots) Q (F0 m (pc + 3) ls (v.toList ++ rest))) :
    W p l e R s m args below meth c H locs cells slots Q (F0 m pc ls st0) := by
  intro T hT X
  obtain ⟨vm₁, mk, methY, cY, ig, hW₁, X₁, hn, hmY, hcY, hlY, hdg, hgo⟩ := hv T hT X
  have hwd : tw D cl tys A Z w (T.setVm vm₁) := hC.tw hZc hT hW₁
  have hw1 : ∀ z ∈ Ts, z.before av.toArray (T.setVm vm₁) = true := fun z hz => word_at (U := T.setVm vm₁) hW₁ (hG z hz).2 (hts z hz)
  have hwc : tw D cl tys A Z w ((T.setVm vm₁).calling (F0 m pc ls rest) mk av.toArray) := ⟨hwd.1, va_K.moved (u := T.setVm vm₁) (U := (T.setVm vm₁).calling (F0 m pc ls rest) mk av.toArray) (Vm.Alike.refl _) hwd.2.1, hwd.2.2.1, hwd.2.2.2.1, hZc.1 (T.setVm vm₁) _ _ (State.WarmedH.refl _) hwd.2.2.2.2⟩
  obtain ⟨hP, hD, hS, hK, hA, hZ⟩ := hC
  have next : ∀ (t T' : State) (L : List Loc) (w1 : va_W), T'.heap = t.heap → (∀ z ∈ L, A z.base) → va_F A ((T.setVm vm₁).calling (F0 m pc ls rest) mk av.toArray) t → tw D cl tys A Z w1 t → tC D cl tys A Z s w1 T'.heap (locs ++ L) := by
    intro t T' L w1 e1 hL hF hw9
    obtain ⟨hz, hk⟩ := hF
    have hz : H.size ≤ t.heap.size := by rw [← hT]; exact hz
    have hk : ∀ q : Nat, q < H.size → ¬ A q → t.heap[q]? = H[q]? := by rw [← hT]; exact hk
    refine ⟨by rw [e1]; exact hw9.1, hw9.2.2.1, ⟨?_, ?_, ?_⟩, hK, hA, hZ⟩
    · rw [e1]; exact Nat.le_trans hS.1 hz
    · intro q h1 h2
      rw [e1, hk q (Nat.lt_of_lt_of_le h1 hS.1) h2]
      exact hS.2.1 q h1 h2
    · intro q hq
      rcases List.mem_append.mp hq with h | h
      · exact hS.2.2 q h
      · exact hL q h
  rcases tx_core (g := F0 m pc ls rest) (a := av.toArray) X₁ hM ⟨rfl, hwc⟩ hw1 hmY hcY hlY (hw1 _ hini) hrm.1 hrm.2.1 hrm.2.2.1 hrm.2.2.2 hn rfl hsz hdg (lv_room hst) with ⟨v, t, T', L, hR, e1, e2, hL, X', hsteps⟩ | ⟨q, E, ce, t, T', L, hE, e1, e2, hce, hcv, hcl, hL, X', hsteps⟩
  · obtain ⟨hF, w1, hp, hw⟩ := hR
    obtain ⟨t2, a1, b1⟩ := kr v w1 T'.heap (locs ++ L) hp (next t T' L w1 e1 hL hF hw) T' rfl X'
    exact ⟨t2, hgo t2 (fun acts => by rw [doInvoke_state]; exact hsteps.trans a1), b1⟩
  · obtain ⟨hF, w1, hp, hw⟩ := hE
    have hcl' : s.vm.findClass E = some ce.cls := by
      have h1 : vm₁.findClass E = some ce.cls := hcl
      rw [hW₁.alike.findClass] at h1
      exact h1
    obtain ⟨t2, a1, b1⟩ := kx E q ce w1 T'.heap (locs ++ L) hp (next t T' L w1 e1 hL hF hw) (by rw [e1]; exact hce) hcv hcl' T' rfl X'
    exact ⟨t2, hgo t2 (fun acts => by rw [doInvoke_state]; exact hsteps.trans a1), b1⟩
theorem t_invV (hexec : p.tables.exec = Jvm.exec) {cc bytes : ByteArray} (hb : c.code = cc) {own C : String} {index : Nat} {ret : Option FieldType} (hown : s.vm.findClass own = some m.cls) (hlink : (Cond.methodLink own index y).before args s = true) (hinst : (Cond.instanceMethod y).before args s = true) (hsel : (Cond.selects C y y).before args s = true) (hcode : (Cond.code y bytes maxL ret).before args s = true)
    (hy : y.cls ≠ "java/lang/invoke/MethodHandle" ∧ y.cls ≠ "java/lang/invoke/VarHandle") {b : Addr} (hrecv : ∃ cellB : Cell, H[b]? = some cellB ∧ cellB.vm.isStatics = false ∧ s.vm.findClass C = some cellB.cls) {As : List Value} (hlen : (parseMethodDescriptor y.desc).map (fun d => d.parameters.length) = some As.length) (hdg : decode cc pc = .ok (.invokevirtual index, 3)) :
    tInv p l e R s m args below meth c H locs cells slots y maxL (.ref b :: As) pc ls rest (As.reverse ++ .ref b :: rest) := by
  intro T hT X
  subst hb
  obtain ⟨cellB, hcell, hobj, hcls⟩ := hrecv
  obtain ⟨mk, methM, hnamed, hmethM, hstM, habM⟩ := Cond.instanceMethod_spec hinst
  obtain ⟨methM', cM, hmethM', hcM, -, hlM, -, -, -, hsigM⟩ := Cond.code_spec hnamed hcode
  cases hmethM.symm.trans hmethM'
  obtain ⟨c2, r2, m2, q1, q2, q3, q4, kP, hkP, hkPi⟩ := Cond.selects_spec hsel
  cases hcls.symm.trans q1
  cases (State.methodFound?_of_named hnamed hy).symm.trans q2
  cases hnamed.symm.trans q3
  have hselP : selectMethod e.platform s.vm cellB.cls mk = .method mk := by rw [Launch.admits_selectMethod X.admits]; exact q4
  have hl2 : As.length = methM.sig.parameters.length := by rw [hsigM] at hlen; exact (Option.some.inj hlen).symm
  obtain ⟨vm₁, X₁, hstep₁⟩ := X.invokevirtual hexec hown hlink hnamed hmethM hstM hkP hkPi hy (a := b) (cell := cellB) (by rw [hT]; exact hcell)
    (fun z h => by rw [h] at hobj; cases hobj) hselP hmethM habM hkP hkPi (g := F0 m pc ls (As.reverse ++ .ref b :: rest)) rfl (argsL := As) (rest := rest) hl2 rfl hdg
  exact ⟨vm₁, mk, methM, cM, _, X₁.warmed, X₁, X₁.named hnamed, by rw [X₁.warmed.alike.method?]; exact hmethM, hcM, hlM, hdg, hstep₁⟩
theorem t_invS (hexec : p.tables.exec = Jvm.exec) {cc bytes : ByteArray} (hb : c.code = cc) {own : String} {index : Nat} {ret : Option FieldType} (hown : s.vm.findClass own = some m.cls) (hlink : (Cond.methodLink own index y).before args s = true) (hstat : (Cond.static y).before args s = true) (hinit : (Cond.initialized y.cls).before args s = true) (hcode : (Cond.code y bytes maxL ret).before args s = true)
    (hy : y.cls ≠ "java/lang/invoke/MethodHandle" ∧ y.cls ≠ "java/lang/invoke/VarHandle") {As : List Value} (hlen : (parseMethodDescriptor y.desc).map (fun d => d.parameters.length) = some As.length) (hdg : decode cc pc = .ok (.invokestatic index, 3)) :
    tInv p l e R s m args below meth c H locs cells slots y maxL As pc ls rest (As.reverse ++ rest) := by
  intro T hT X
  subst hb
  obtain ⟨mk, hnamed⟩ := Cond.code_named hcode
  obtain ⟨methM, cM, hmethM, hcM, -, hlM, -, -, -, hsigM⟩ := Cond.code_spec hnamed hcode
  have hstatic : methM.isStatic = true := Cond.static_spec hnamed hmethM hstat
  obtain ⟨kP, hkP, -⟩ := className_of_methodNamed hnamed
  have hinitP : kP.init = .initialized := Cond.initialized_spec (findClass_of_methodNamed hnamed) hkP hinit
  have hl2 : As.length = methM.sig.parameters.length := by rw [hsigM] at hlen; exact (Option.some.inj hlen).symm
  obtain ⟨vm₁, X₁, hstep₁⟩ := X.invokestatic hexec hown hlink hnamed hmethM hstatic hkP hinitP hy (g := F0 m pc ls (As.reverse ++ rest)) rfl (argsL := As) (rest := rest) hl2 rfl hdg
  exact ⟨vm₁, mk, methM, cM, _, X₁.warmed, X₁, X₁.named hnamed, by rw [X₁.warmed.alike.method?]; exact hmethM, hcM, hlM, hdg, hstep₁⟩
theorem t_invSW (hexec : p.tables.exec = Jvm.exec) {cc bytes : ByteArray} (hb : c.code = cc) {own : String} {index : Nat} {ret : Option FieldType} {hh : List (Nat × Nat × Nat × Nat)} (hown : s.vm.findClass own = some m.cls) (hlink : (Cond.methodLink own index y).before args s = true) (hstat : (Cond.static y).before args s = true) (hinit : (Cond.initialized y.cls).before args s = true) (hcode : (Cond.codeWith y bytes maxL ret hh).before args s = true)
    (hy : y.cls ≠ "java/lang/invoke/MethodHandle" ∧ y.cls ≠ "java/lang/invoke/VarHandle") {As : List Value} (hlen : (parseMethodDescriptor y.desc).map (fun d => d.parameters.length) = some As.length) (hdg : decode cc pc = .ok (.invokestatic index, 3)) :
    tInv p l e R s m args below meth c H locs cells slots y maxL As pc ls rest (As.reverse ++ rest) := by
  intro T hT X
  subst hb
  obtain ⟨mk, methM, cM, hnamed, hmethM, hcM, -, hlM, -, -, -, hsigM⟩ := Cond.codeWith_spec hcode
  have hstatic : methM.isStatic = true := Cond.static_spec hnamed hmethM hstat
  obtain ⟨kP, hkP, -⟩ := className_of_methodNamed hnamed
  have hinitP : kP.init = .initialized := Cond.initialized_spec (findClass_of_methodNamed hnamed) hkP hinit
  have hl2 : As.length = methM.sig.parameters.length := by rw [hsigM] at hlen; exact (Option.some.inj hlen).symm
  obtain ⟨vm₁, X₁, hstep₁⟩ := X.invokestatic hexec hown hlink hnamed hmethM hstatic hkP hinitP hy (g := F0 m pc ls (As.reverse ++ rest)) rfl (argsL := As) (rest := rest) hl2 rfl hdg
  exact ⟨vm₁, mk, methM, cM, _, X₁.warmed, X₁, X₁.named hnamed, by rw [X₁.warmed.alike.method?]; exact hmethM, hcM, hlM, hdg, hstep₁⟩
theorem t_invI (hexec : p.tables.exec = Jvm.exec) {cc bytes : ByteArray} (hb : c.code = cc) {own : String} {index : Nat} (hown : s.vm.findClass own = some m.cls) (hy1 : y.name = "<init>") (hlink : (Cond.methodLink own index y).before args s = true) (hinst : (Cond.instanceMethod y).before args s = true) (hcode : (Cond.code y bytes maxL none).before args s = true)
    (hy : y.cls ≠ "java/lang/invoke/MethodHandle" ∧ y.cls ≠ "java/lang/invoke/VarHandle") {b : Addr} {As : List Value} (hlen : (parseMethodDescriptor y.desc).map (fun d => d.parameters.length) = some As.length) (hdg : decode cc pc = .ok (.invokespecial index, 3)) :
    tInv p l e R s m args below meth c H locs cells slots y maxL (.ref b :: As) pc ls rest (As.reverse ++ .ref b :: rest) := by
  intro T hT X
  subst hb
  have hpl : e.platform.magicAccessors = ({} : Platform).magicAccessors := by rw [X.admits.platform]
  obtain ⟨mk, methM, cM, kP, vm₁, hnamed, hmethM, hcodeM, -, hlocalsM, -, hkP, -, hW₁, hstep₁⟩ := Steps.initColdArgs (e := e) X.here hexec X.warmed hpl hown hy1 hy hlink hinst hcode (f := F0 m pc ls (As.reverse ++ .ref b :: rest)) (argsL := As) (rest := rest) (a := b) rfl (fun sig h => by rw [h] at hlen; exact (Option.some.inj hlen).symm) rfl hdg
  have X₁ := X.noted hW₁
  exact ⟨vm₁, mk, methM, cM, _, hW₁, X₁, X₁.named hnamed, by rw [X₁.warmed.alike.method?]; exact hmethM, hcodeM, hlocalsM, hdg, hstep₁⟩
/-- what a body owes at its end -/
def tE (below : List Frame) (Rt : Option Value → State → State → Prop) (Xt : String → State → State → Prop) (mc ms : Nat) (fr : Addr → Prop) (a : Array Value) (s : State) : State → Prop := fun t => ∃ o, t.status = .running ∧ Ended t below o ∧ tx_Q Rt Xt mc ms fr a s o t
theorem t_ofW {cc : ByteArray} {ret : Option FieldType} (hy : plainName y.cls = true) (hcode : Cond.code y cc maxL ret ∈ Ts) (hlen : (lg_sl av).length ≤ maxL)
    (body : ∀ (p : Program) (e : Env) (s : State) (m : MethodId) (below : List Frame) (meth : Method) (c : Code) (ls : Array Slot), p.tables.exec = Jvm.exec → c.code = cc → meth.sig.returnType = ret → (∀ z ∈ Ts, z.before av.toArray s = true) → s.vm.findClass y.cls = some m.cls → meth.locks = false → meth.name = y.name → c.maxLocals = maxL →
      (∀ x ∈ c.exceptionTable.toList, False) → lv_has ls maxL (lv_args 0 av) → tC D cl tys A Z s w s.heap [] → W p l e rm s m av.toArray below meth c s.heap [] 0 0 (tE below (tR D cl tys A Z Po) (tR D cl tys A Z Xo) rm.cells rm.slots A av.toArray s) (F0 m 0 ls [])) : tM l y Ts rm D cl tys A Z av w Po Xo := by
  refine MetFree.of_bodyS (code := cc) (maxLocals := maxL) (ret := ret) hy ?_ ?_
  · intro args s m h hn
    obtain ⟨meth, c, h1, h2, h3, h4, h5, h6, -, -⟩ := Cond.code_spec hn (atoms_spec (ws := Ts) h _ hcode)
    exact ⟨meth, c, h1, h2, h3, h4, h5, h6⟩
  · intro p e s m args below meth c s₁ B hml hP _
    obtain ⟨rfl, hw⟩ := hP
    have hh0 : s₁.heap = s.heap := by rw [B.state]; rfl
    have ht : ∀ x ∈ c.exceptionTable.toList, False := by
      obtain ⟨meth9, c9, h1, h2, -, -, -, -, h7, -⟩ := Cond.code_spec B.named (atoms_spec (ws := Ts) B.pre _ hcode)
      cases Option.some.inj (h1.symm.trans B.method)
      cases Option.some.inj (h2.symm.trans (Stand.of_body B).code)
      intro x hx
      rw [Array.isEmpty_iff.mp h7] at hx
      cases hx
    obtain ⟨t, a1, o, b1, b2, b3⟩ := body p e s m below meth c _ B.exec B.bytes B.returns (atoms_spec (ws := Ts) B.pre) (findClass_of_methodNamed B.named) B.notSynchronized (name_of_methodNamed B.named B.method).1 hml ht (lv_entry av (n := maxL) hlen) ⟨hw.1, hw.2.2.1, va_S.rf, hw.2.1, hw.2.2.2.1, hw.2.2.2.2⟩ s₁ hh0 (Stand.of_body B)
    exact ⟨t, o, by rw [lg_entry_eq]; exact a1, b1, b2, b3⟩
/-- .. of a method with an exception table -/
theorem t_ofWT {cc : ByteArray} {ret : Option FieldType} {hh : List (Nat × Nat × Nat × Nat)} (hy : plainName y.cls = true) (hcode : Cond.codeWith y cc maxL ret hh ∈ Ts) (hlen : (lg_sl av).length ≤ maxL)
    (body : ∀ (p : Program) (e : Env) (s : State) (m : MethodId) (below : List Frame) (meth : Method) (c : Code) (ls : Array Slot), p.tables.exec = Jvm.exec → c.code = cc → meth.sig.returnType = ret → (∀ z ∈ Ts, z.before av.toArray s = true) → s.vm.findClass y.cls = some m.cls → meth.locks = false → meth.name = y.name → c.maxLocals = maxL →
      c.exceptionTable.toList = tableOf hh → lv_has ls maxL (lv_args 0 av) → tC D cl tys A Z s w s.heap [] → W p l e rm s m av.toArray below meth c s.heap [] 0 0 (tE below (tR D cl tys A Z Po) (tR D cl tys A Z Xo) rm.cells rm.slots A av.toArray s) (F0 m 0 ls [])) : tM l y Ts rm D cl tys A Z av w Po Xo := by
  refine MetFree.of_bodyS (code := cc) (maxLocals := maxL) (ret := ret) hy ?_ ?_
  · intro args s m h hn
    obtain ⟨m9, meth, c, hn9, h1, h2, h3, h4, -, h5, h6, -⟩ := Cond.codeWith_spec (atoms_spec (ws := Ts) h _ hcode)
    cases hn.symm.trans hn9
    exact ⟨meth, c, h1, h2, h3, h4, h5, h6⟩
  · intro p e s m args below meth c s₁ B hml hP _
    obtain ⟨rfl, hw⟩ := hP
    have hh0 : s₁.heap = s.heap := by rw [B.state]; rfl
    have ht : c.exceptionTable.toList = tableOf hh := by
      obtain ⟨m9, meth9, c9, hn9, h1, h2, -, -, h6, -⟩ := Cond.codeWith_spec (atoms_spec (ws := Ts) B.pre _ hcode)
      cases Option.some.inj (hn9.symm.trans B.named)
      cases Option.some.inj (h1.symm.trans B.method)
      cases Option.some.inj (h2.symm.trans (Stand.of_body B).code)
      rw [← h6, table_eq]
    obtain ⟨t, a1, o, b1, b2, b3⟩ := body p e s m below meth c _ B.exec B.bytes B.returns (atoms_spec (ws := Ts) B.pre) (findClass_of_methodNamed B.named) B.notSynchronized (name_of_methodNamed B.named B.method).1 hml ht (lv_entry av (n := maxL) hlen) ⟨hw.1, hw.2.2.1, va_S.rf, hw.2.1, hw.2.2.2.1, hw.2.2.2.2⟩ s₁ hh0 (Stand.of_body B)
    exact ⟨t, o, by rw [lg_entry_eq]; exact a1, b1, b2, b3⟩
theorem t_end {Rt : Option Value → State → State → Prop} {Xt : String → State → State → Prop} {mc ms : Nat} {fr : Addr → Prop} {g : JFrame} (h1 : cells ≤ mc) (h2 : slots ≤ ms) (k : W p l e R s m args below meth c H locs mc ms (MQ below (fun _ st o t => ∃ v, o = .returned v ∧ Rt v st t) args s mc ms fr) g) :
    W p l e R s m args below meth c H locs cells slots (tE below Rt Xt mc ms fr args s) g := by
  intro T hT X
  obtain ⟨t, a1, o, b1, b2, ⟨v, b3, b4⟩, b5⟩ := k T hT (stand_widen X h1 h2)
  exact ⟨t, a1, o, b1, b2, Or.inl ⟨v, b3, b4, b5⟩⟩
variable {cc : ByteArray} {mc ms : Nat}
theorem t_fin (hZc : tZ A Z) (hC : tC D cl tys A Z s w H locs) {v : Option Value} (hp : Po v w) {t : State} (ht : t.heap = H) (hW : s.WarmedH t.vm) : tR D cl tys A Z Po v s t := ⟨hC.2.2.1.F ht, w, hp, hC.tw hZc ht hW⟩
theorem t_iret {v : Int32} (hx : p.tables.exec = Jvm.exec) (hb : c.code = cc) (hr : meth.sig.returnType = some .int) (hlk : meth.locks = false) (hZc : tZ A Z) (hC : tC D cl tys A Z s w H locs) (hp : Po (some (.int v)) w) (h1 : cells ≤ mc) (h2 : slots ≤ ms) (hdg : decode cc pc = .ok (.ireturn, 1)) :
    W p l e R s m args below meth c H locs cells slots (tE below (tR D cl tys A Z Po) (tR D cl tys A Z Xo) mc ms A args s) (F0 m pc ls [.int v]) :=
  t_end h1 h2 (W.iret hx hb hr (fun t ht hW => ⟨_, rfl, t_fin hZc hC hp ht hW⟩) hC.2.2.1.2.2 hdg hlk)
theorem t_zret {v : Int32} (hx : p.tables.exec = Jvm.exec) (hb : c.code = cc) (hr : meth.sig.returnType = some .boolean) (hlk : meth.locks = false) (hn : v = 0 ∨ v = 1) (hZc : tZ A Z) (hC : tC D cl tys A Z s w H locs) (hp : Po (some (.int v)) w) (h1 : cells ≤ mc) (h2 : slots ≤ ms) (hdg : decode cc pc = .ok (.ireturn, 1)) :
    W p l e R s m args below meth c H locs cells slots (tE below (tR D cl tys A Z Po) (tR D cl tys A Z Xo) mc ms A args s) (F0 m pc ls [.int v]) :=
  t_end h1 h2 (W.zret (ty := .boolean) hx hb hr (by rcases hn with rfl | rfl <;> rfl) (fun t ht hW => ⟨_, rfl, t_fin hZc hC hp ht hW⟩) hC.2.2.1.2.2 hdg hlk)
theorem t_lret {v : Int64} (hx : p.tables.exec = Jvm.exec) (hb : c.code = cc) (hr : meth.sig.returnType = some .long) (hlk : meth.locks = false) (hZc : tZ A Z) (hC : tC D cl tys A Z s w H locs) (hp : Po (some (.long v)) w) (h1 : cells ≤ mc) (h2 : slots ≤ ms) (hdg : decode cc pc = .ok (.lreturn, 1)) :
    W p l e R s m args below meth c H locs cells slots (tE below (tR D cl tys A Z Po) (tR D cl tys A Z Xo) mc ms A args s) (F0 m pc ls [.long v]) :=
  t_end h1 h2 (W.lret hx hb hr (fun t ht hW => ⟨_, rfl, t_fin hZc hC hp ht hW⟩) hC.2.2.1.2.2 hdg hlk)
theorem t_vret (hx : p.tables.exec = Jvm.exec) (hb : c.code = cc) (hr : meth.sig.returnType = none) (hlk : meth.locks = false) (hZc : tZ A Z) (hC : tC D cl tys A Z s w H locs) (hp : Po none w) (h1 : cells ≤ mc) (h2 : slots ≤ ms) (hdg : decode cc pc = .ok (.return_, 1)) :
    W p l e R s m args below meth c H locs cells slots (tE below (tR D cl tys A Z Po) (tR D cl tys A Z Xo) mc ms A args s) (F0 m pc ls []) :=
  t_end h1 h2 (W.vret hx hb hr (fun t ht hW => ⟨_, rfl, t_fin hZc hC hp ht hW⟩) hC.2.2.1.2.2 hdg hlk)
theorem t_aret {r : Option Nat} {rt : FieldType} (hx : p.tables.exec = Jvm.exec) (hb : c.code = cc) (hr : meth.sig.returnType = some rt) (hrt : (∃ n, rt = .object n) ∨ ∃ t, rt = .array t) (hlk : meth.locks = false) (hZc : tZ A Z) (hC : tC D cl tys A Z s w H locs) (hp : Po (some (va_rf r)) w) (h1 : cells ≤ mc) (h2 : slots ≤ ms) (hdg : decode cc pc = .ok (.areturn, 1)) :
    W p l e R s m args below meth c H locs cells slots (tE below (tR D cl tys A Z Po) (tR D cl tys A Z Xo) mc ms A args s) (F0 m pc ls [va_rf r]) :=
  t_end h1 h2 (W.aret hx hb hr hrt (va_rf_or r) (fun t ht hW => ⟨_, rfl, t_fin hZc hC hp ht hW⟩) hC.2.2.1.2.2 hdg hlk)
/-- an exception that isn't caught here leaves the method -/
theorem t_out {E : String} {q : Addr} {ce : Cell} (hex : ∀ x ∈ c.exceptionTable.toList, covers x pc = false) (hlk : meth.locks = false) (hZc : tZ A Z) (hC : tC D cl tys A Z s w H locs) (hce : H[q]? = some ce) (hcv : ce.vm = .none) (hcl : s.vm.findClass E = some ce.cls) (hp : Xo E w) (h1 : cells ≤ mc) (h2 : slots ≤ ms) :
    tT p l e R s m args below meth c H locs cells slots (tE below (tR D cl tys A Z Po) (tR D cl tys A Z Xo) mc ms A args s) (F0 m pc ls rest) q := by
  intro T hT X
  obtain ⟨st1, hrun, hend, hW, hsm⟩ := X.leaveThrown q (g := F0 m pc ls rest) rfl rfl rfl hex hlk
  have hh : (T.setFrames (.throwing q :: below)).heap = H := hT
  exact ⟨_, st1, .threw q, hrun, hend, Or.inr ⟨q, E, ce, locs, rfl, ⟨hC.2.2.1.F hh, w, hp, hC.tw hZc hh hW⟩, by rw [hh]; exact hce, hcv, hcl, hW, hsm.mono h1 h2, hC.2.2.1.2.2⟩⟩
theorem t_mono {g : JFrame} {Q2 : State → Prop} (h : ∀ t, Q t → Q2 t) (k : W p l e R s m args below meth c H locs cells slots Q g) : W p l e R s m args below meth c H locs cells slots Q2 g := by
  intro T hT X
  obtain ⟨t, a, b⟩ := k T hT X
  exact ⟨t, a, h t b⟩
/-- fields of the world's objects -/
theorem t_get (hx : p.tables.exec = Jvm.exec) (hb : c.code = cc) {own ref C : String} {T : u_T} {N ci index a : Nat} (hts : ∀ z ∈ Ts, z.before args s = true) (hin : ∀ z ∈ u_ws C T N, z ∈ Ts) (hown : s.vm.findClass own = some m.cls) (hC : tC D cl tys A Z s w H locs) (q0 : Nat) {fs : List Value} (he : w[q0]? = some (a, .inr (ci, fs))) (hc : cl[ci]? = some (C, T, N)) (k : Nat) (hk : k < N) (hlink : (Cond.fieldLink own index ref (T k).2.1 (T k).2.2.1).before args s = true) (hsame : ∀ x, s.fieldFound? (T k).1 (T k).2.1 (T k).2.2.1 = some x → s.fieldFound? ref (T k).2.1 (T k).2.2.1 = some x) {v : Value} (hv : fs[k]? = some v) (hdg : decode cc pc = .ok (.getfield index, 3))
    (kk : W p l e R s m args below meth c H locs cells slots Q (F0 m (pc + 3) ls (v :: rest))) : W p l e R s m args below meth c H locs cells slots Q (F0 m pc ls (.ref a :: rest)) :=
  va_get hx hb hts hin hown hC.2.2.2.1 hC.1 q0 he hc k hk hlink hsame hv hdg kk
end TB
section TP
variable {p : Program} {l : Launch} {e : Env} {R : Room} {s : State} {m : MethodId} {args : Array Value} {below : List Frame} {meth : Method} {c : Code} {H : Heap} {locs : List Loc} {cells slots : Nat} {Q : State → Prop}
variable {Ts : List Cond} {D : va_G} {cl : List vw_C} {tys : List (ClassId × FieldType)} {A : Nat → Prop} {Z : State → Heap → Prop} {w : va_W} {pc a : Nat} {ls : Array Slot} {rest : List Value} {cc : ByteArray}
theorem t_put (hx : p.tables.exec = Jvm.exec) (hb : c.code = cc) {own ref C : String} {T : u_T} {N ci index : Nat} (hts : ∀ z ∈ Ts, z.before args s = true) (hin : ∀ z ∈ u_ws C T N, z ∈ Ts) (ty0 : Nat → FieldType) (hty : ∀ k, k < N → parseFieldDescriptor (T k).2.2.1 = some (ty0 k)) (hnm : ∀ a, a < N → ∀ b, b < N → a ≠ b → (T a).2.1 ≠ (T b).2.1) (hown : s.vm.findClass own = some m.cls) (hC : tC D cl tys A Z s w H locs) (q0 : Nat) {fs : List Value} (he : w[q0]? = some (a, .inr (ci, fs))) (hc : cl[ci]? = some (C, T, N)) (k : Nat) (hk : k < N) (hlink : (Cond.fieldLink own index ref (T k).2.1 (T k).2.2.1).before args s = true) (hsame : ∀ x, s.fieldFound? (T k).1 (T k).2.1 (T k).2.2.1 = some x → s.fieldFound? ref (T k).2.1 (T k).2.2.1 = some x) (hfin : (T k).2.2.2 = false) {ty : FieldType} {v : Value} (hd : parseFieldDescriptor (T k).2.2.1 = some ty) (hn : narrow ty v = v) (hfit : fits ty v = true) (hl : k < fs.length)
    (hdg : decode cc pc = .ok (.putfield index, 3)) (kk : ∀ (H1 : Heap) (locs1 : List Loc), tC D cl tys A Z s (w.set q0 (a, .inr (ci, fs.set k v))) H1 locs1 → W p l e R s m args below meth c H1 locs1 cells slots Q (F0 m (pc + 3) ls rest)) : W p l e R s m args below meth c H locs cells slots Q (F0 m pc ls (v :: .ref a :: rest)) :=
  va_put hx hb hts hin ty0 hty hnm hown hC.2.2.2.1 hC.1 hC.2.1 hC.2.2.1 q0 he hc k hk hlink hsame hfin hd hn hfit hl hdg (fun H1 l1 h1 h2 h3 => kk H1 l1 ⟨h1, h2, h3, hC.2.2.2⟩)
theorem t_putF (hx : p.tables.exec = Jvm.exec) (hb : c.code = cc) {own ref C : String} {T : u_T} {N ci index : Nat} (hts : ∀ z ∈ Ts, z.before args s = true) (hin : ∀ z ∈ u_ws C T N, z ∈ Ts) (ty0 : Nat → FieldType) (hty : ∀ k, k < N → parseFieldDescriptor (T k).2.2.1 = some (ty0 k)) (hnm : ∀ a, a < N → ∀ b, b < N → a ≠ b → (T a).2.1 ≠ (T b).2.1) (hown : s.vm.findClass own = some m.cls) (hC : tC D cl tys A Z s w H locs) (q0 : Nat) {fs : List Value} (he : w[q0]? = some (a, .inr (ci, fs))) (hc : cl[ci]? = some (C, T, N)) (k : Nat) (hk : k < N) (hlink : (Cond.fieldLink own index ref (T k).2.1 (T k).2.2.1).before args s = true) (hsame : ∀ x, s.fieldFound? (T k).1 (T k).2.1 (T k).2.2.1 = some x → s.fieldFound? ref (T k).2.1 (T k).2.2.1 = some x) (hfin : (T k).2.2.2 = true) (hin2 : meth.name = "<init>") (hdecl : (T k).1 = own) {ty : FieldType} {v : Value} (hd : parseFieldDescriptor (T k).2.2.1 = some ty) (hn : narrow ty v = v) (hfit : fits ty v = true) (hl : k < fs.length)
    (hdg : decode cc pc = .ok (.putfield index, 3)) (kk : ∀ (H1 : Heap) (locs1 : List Loc), tC D cl tys A Z s (w.set q0 (a, .inr (ci, fs.set k v))) H1 locs1 → W p l e R s m args below meth c H1 locs1 cells slots Q (F0 m (pc + 3) ls rest)) : W p l e R s m args below meth c H locs cells slots Q (F0 m pc ls (v :: .ref a :: rest)) :=
  va_putF hx hb hts hin ty0 hty hnm hown hC.2.2.2.1 hC.1 hC.2.1 hC.2.2.1 q0 he hc k hk hlink hsame hfin hin2 hdecl hd hn hfit hl hdg (fun H1 l1 h1 h2 h3 => kk H1 l1 ⟨h1, h2, h3, hC.2.2.2⟩)
theorem t_iald (hx : p.tables.exec = Jvm.exec) (hb : c.code = cc) (hC : tC D cl tys A Z s w H locs) (q0 t0 : Nat) {cA : ClassId} {n : Nat} {f : Nat → Int32} (ha : w[q0]? = some (a, .inl (cA, n, .inl f))) (ht : tys[t0]? = some (cA, .int)) {i : Int32} (hin : vp_in i n) (hdg : decode cc pc = .ok (.iaload, 1))
    (kk : W p l e R s m args below meth c H locs cells slots Q (F0 m (pc + 1) ls (.int (f i.toNatClampNeg) :: rest))) : W p l e R s m args below meth c H locs cells slots Q (F0 m pc ls (.int i :: .ref a :: rest)) :=
  va_iald hx hb hC.2.2.2.1 hC.1 q0 t0 ha ht hin hdg kk
theorem t_zald (hx : p.tables.exec = Jvm.exec) (hb : c.code = cc) (hC : tC D cl tys A Z s w H locs) (q0 t0 : Nat) {cA : ClassId} {n : Nat} {f : Nat → Int32} (ha : w[q0]? = some (a, .inl (cA, n, .inl f))) (ht : tys[t0]? = some (cA, .boolean)) {i : Int32} (hin : vp_in i n) (hdg : decode cc pc = .ok (.baload, 1))
    (kk : W p l e R s m args below meth c H locs cells slots Q (F0 m (pc + 1) ls (.int (f i.toNatClampNeg) :: rest))) : W p l e R s m args below meth c H locs cells slots Q (F0 m pc ls (.int i :: .ref a :: rest)) :=
  va_zald hx hb hC.2.2.2.1 hC.1 q0 t0 ha ht hin hdg kk
theorem t_lald (hx : p.tables.exec = Jvm.exec) (hb : c.code = cc) (hC : tC D cl tys A Z s w H locs) (q0 t0 : Nat) {cA : ClassId} {n : Nat} {f : Nat → Int64} (ha : w[q0]? = some (a, .inl (cA, n, .inr (.inl f)))) (ht : tys[t0]? = some (cA, .long)) {i : Int32} (hin : vp_in i n) (hdg : decode cc pc = .ok (.laload, 1))
    (kk : W p l e R s m args below meth c H locs cells slots Q (F0 m (pc + 1) ls (.long (f i.toNatClampNeg) :: rest))) : W p l e R s m args below meth c H locs cells slots Q (F0 m pc ls (.int i :: .ref a :: rest)) :=
  va_lald hx hb hC.2.2.2.1 hC.1 q0 t0 ha ht hin hdg kk
theorem t_aldq (hx : p.tables.exec = Jvm.exec) (hb : c.code = cc) (hC : tC D cl tys A Z s w H locs) (q0 t0 : Nat) {cA : ClassId} {C : String} {n : Nat} {f : Nat → Option Nat} (ha : w[q0]? = some (a, .inl (cA, n, .inr (.inr (.inr (.inr f)))))) (ht : tys[t0]? = some (cA, .object C)) {i : Int32} (hin : vp_in i n) (hdg : decode cc pc = .ok (.aaload, 1))
    (kk : W p l e R s m args below meth c H locs cells slots Q (F0 m (pc + 1) ls (va_rf (f i.toNatClampNeg) :: rest))) : W p l e R s m args below meth c H locs cells slots Q (F0 m pc ls (.int i :: .ref a :: rest)) :=
  va_aldq hx hb hC.2.2.2.1 hC.1 q0 t0 ha ht hin hdg kk
theorem t_alen (hx : p.tables.exec = Jvm.exec) (hb : c.code = cc) (hC : tC D cl tys A Z s w H locs) (q0 t0 : Nat) {cA : ClassId} {x : vp_A} (ha : w[q0]? = some (a, .inl (cA, x))) {ty : FieldType} (ht : tys[t0]? = some (cA, ty)) {v : Int32} (hv : Int32.ofNat x.1 = v) (hdg : decode cc pc = .ok (.arraylength, 1))
    (kk : W p l e R s m args below meth c H locs cells slots Q (F0 m (pc + 1) ls (.int v :: rest))) : W p l e R s m args below meth c H locs cells slots Q (F0 m pc ls (.ref a :: rest)) :=
  va_alen hx hb hC.2.2.2.1 hC.1 q0 t0 ha ht hv hdg kk
theorem t_iast (hx : p.tables.exec = Jvm.exec) (hb : c.code = cc) (hC : tC D cl tys A Z s w H locs) (q0 t0 : Nat) {cA : ClassId} {n : Nat} {f : Nat → Int32} (ha : w[q0]? = some (a, .inl (cA, n, .inl f))) (ht : tys[t0]? = some (cA, .int)) {i : Int32} {x : Int32} (hin : vp_in i n) (hdg : decode cc pc = .ok (.iastore, 1))
    (kk : ∀ (H1 : Heap) (locs1 : List Loc), tC D cl tys A Z s (w.set q0 (a, .inl (cA, n, .inl (upd f i.toNatClampNeg x)))) H1 locs1 → W p l e R s m args below meth c H1 locs1 cells slots Q (F0 m (pc + 1) ls rest)) : W p l e R s m args below meth c H locs cells slots Q (F0 m pc ls (.int x :: .int i :: .ref a :: rest)) :=
  va_iast hx hb hC.2.2.2.1 hC.1 hC.2.1 hC.2.2.1 q0 t0 ha ht hin hdg (fun H1 l1 h1 h2 h3 => kk H1 l1 ⟨h1, h2, h3, hC.2.2.2⟩)
theorem t_zast (hx : p.tables.exec = Jvm.exec) (hb : c.code = cc) (hC : tC D cl tys A Z s w H locs) (q0 t0 : Nat) {cA : ClassId} {n : Nat} {f : Nat → Int32} (ha : w[q0]? = some (a, .inl (cA, n, .inl f))) (ht : tys[t0]? = some (cA, .boolean)) {i : Int32} {x : Int32} (hin : vp_in i n) (hz : x = 0 ∨ x = 1) (hdg : decode cc pc = .ok (.bastore, 1))
    (kk : ∀ (H1 : Heap) (locs1 : List Loc), tC D cl tys A Z s (w.set q0 (a, .inl (cA, n, .inl (upd f i.toNatClampNeg x)))) H1 locs1 → W p l e R s m args below meth c H1 locs1 cells slots Q (F0 m (pc + 1) ls rest)) : W p l e R s m args below meth c H locs cells slots Q (F0 m pc ls (.int x :: .int i :: .ref a :: rest)) := by
  have hv : vp_nar .boolean x = x := by rcases hz with rfl | rfl <;> rfl
  refine va_zast hx hb hC.2.2.2.1 hC.1 hC.2.1 hC.2.2.1 q0 t0 ha ht hin hdg (fun H1 l1 h1 h2 h3 => kk H1 l1 ⟨?_, ?_, h3, hC.2.2.2⟩)
  · rw [hv] at h1; exact h1
  · rw [hv] at h2; exact h2
theorem t_last (hx : p.tables.exec = Jvm.exec) (hb : c.code = cc) (hC : tC D cl tys A Z s w H locs) (q0 t0 : Nat) {cA : ClassId} {n : Nat} {f : Nat → Int64} (ha : w[q0]? = some (a, .inl (cA, n, .inr (.inl f)))) (ht : tys[t0]? = some (cA, .long)) {i : Int32} {x : Int64} (hin : vp_in i n) (hdg : decode cc pc = .ok (.lastore, 1))
    (kk : ∀ (H1 : Heap) (locs1 : List Loc), tC D cl tys A Z s (w.set q0 (a, .inl (cA, n, .inr (.inl (vp_updL f i.toNatClampNeg x))))) H1 locs1 → W p l e R s m args below meth c H1 locs1 cells slots Q (F0 m (pc + 1) ls rest)) : W p l e R s m args below meth c H locs cells slots Q (F0 m pc ls (.long x :: .int i :: .ref a :: rest)) :=
  va_last hx hb hC.2.2.2.1 hC.1 hC.2.1 hC.2.2.1 q0 t0 ha ht hin hdg (fun H1 l1 h1 h2 h3 => kk H1 l1 ⟨h1, h2, h3, hC.2.2.2⟩)
theorem t_newa (hx : p.tables.exec = Jvm.exec) (hb : c.code = cc) {atype : ArrayType} (harr : (Cond.arrayClass (newarray.typeOf atype)).before args s = true) {ty : FieldType} (hty : newarray.typeOf atype = ty) (hC : tC D cl tys A Z s w H locs) (t0 : Nat) {cT : ClassId} (ht : tys[t0]? = some (cT, ty)) (hob : ∀ C, ty ≠ .object C)
    {n : Int32} {N' : Nat} {a0 : vp_A} (ha : ∀ cA : ClassId, vp_cell cA a0 = arrV cA N' (fun _ => defaultValue ty)) (hn : ¬ n < 0) (hN : n.toNatClampNeg = N') (hbytes : N' * componentBytes ty ≤ 536870912) (hcells : cells + 1 ≤ R.cells) (hslots : slots + N' ≤ R.slots) (hdg : decode cc pc = .ok (.newarray atype, 2))
    (kk : ∀ (q : Nat) (H1 : Heap), tC D cl tys A Z s (w ++ [(q, .inl (cT, a0))]) H1 locs → W p l e R s m args below meth c H1 locs (cells + 1) (slots + N') Q (F0 m (pc + 2) ls (.ref q :: rest))) : W p l e R s m args below meth c H locs cells slots Q (F0 m pc ls (.int n :: rest)) := by
  refine va_newa hx hb harr hty hC.2.2.2.1 hC.1 hC.2.1 hC.2.2.1 hC.2.2.2.2.1 ha hn hN hbytes hcells hslots hdg (fun q cA H1 hK hP hD hS => ?_)
  have h1 := (hK.2 tys.length (cA, ty) (by simp)).2
  have h2 := (hC.2.2.2.1.2 t0 _ ht).2
  have e1 : cA = cT := by
    cases ty with
    | object C => exact absurd rfl (hob C)
    | _ => exact Option.some.inj (Eq.trans (Eq.symm h1) h2)
  subst e1
  exact kk q H1 ⟨hP, hD, hS, hC.2.2.2⟩
theorem t_new (hx : p.tables.exec = Jvm.exec) (hb : c.code = cc) {own C : String} {T : u_T} {N ci index : Nat} (hts : ∀ z ∈ Ts, z.before args s = true) (hin : ∀ z ∈ u_ws C T N, z ∈ Ts) (ty : Nat → FieldType) (hty : ∀ k, k < N → parseFieldDescriptor (T k).2.2.1 = some (ty k)) (hown : s.vm.findClass own = some m.cls) (hcl : (Cond.classLink own index C).before args s = true) (hinst : (Cond.instantiable C N).before args s = true) (hini : (Cond.initialized C).before args s = true)
    (hC : tC D cl tys A Z s w H locs) (hc : cl[ci]? = some (C, T, N)) {fs : List Value} (hfs : ∀ j, j < N → defaultValue (ty j) = vp_V fs j) (hcells : cells + 1 ≤ R.cells) (hslots : slots + N ≤ R.slots) (hdg : decode cc pc = .ok (.new index, 3))
    (kk : ∀ (q : Nat) (H1 : Heap), tC D cl tys A Z s (w ++ [(q, .inr (ci, fs))]) H1 locs → W p l e R s m args below meth c H1 locs (cells + 1) (slots + N) Q (F0 m (pc + 3) ls (.ref q :: rest))) : W p l e R s m args below meth c H locs cells slots Q (F0 m pc ls rest) :=
  va_new hx hb hts hin ty hty hown hcl hinst hini hC.2.2.2.1 hC.1 hC.2.1 hC.2.2.1 hC.2.2.2.2.1 hc hfs hcells hslots hdg (fun q H1 hP hD hS => kk q H1 ⟨hP, hD, hS, hC.2.2.2⟩)
/-! pools in the middle of a world -/
theorem t_apart {X Y : va_W} (hD : va_D A (X ++ Y)) {q r : Nat × va_E} (hq : q ∈ X) (hr : r ∈ Y) : q.1 ≠ r.1 := by
  intro h
  obtain ⟨i, hi⟩ := List.getElem?_of_mem hq
  obtain ⟨j, hj⟩ := List.getElem?_of_mem hr
  have hl := (List.getElem?_eq_some_iff.mp hi).1
  have h1 : (X ++ Y)[i]? = some q := by rw [List.getElem?_append_left hl]; exact hi
  have h2 : (X ++ Y)[X.length + j]? = some r := by rw [List.getElem?_append_right (by omega), Nat.add_sub_cancel_left]; exact hj
  have := hD.1 _ _ _ _ h1 h2 h
  omega
theorem t_setmap (hD : va_D A w) {k b : Nat} {e0 e1 : va_E} (hk : w[k]? = some (b, e0)) : w.set k (b, e1) = w.map (fun q => if q.1 = b then (b, e1) else q) := by
  apply List.ext_getElem?
  intro j
  rw [List.getElem?_map]
  by_cases hj : j = k
  · subst hj
    have hl := (List.getElem?_eq_some_iff.mp hk).1
    rw [List.getElem?_set_self hl, hk]
    simp
  · rw [List.getElem?_set_ne (Ne.symm hj)]
    cases hq : w[j]? with
    | none => rfl
    | some q =>
      have h1 : q.1 ≠ b := fun h => hj (hD.1 j k q (b, e0) hq hk h)
      simp [h1]
theorem t_mapfix {X : va_W} {b : Nat} {e1 : va_E} (h : ∀ q ∈ X, q.1 ≠ b) : X.map (fun q => if q.1 = b then (b, e1) else q) = X := by
  have h1 : X.map (fun q => if q.1 = b then (b, e1) else q) = X.map id := List.map_congr_left (fun q hq => by simp [h q hq])
  rw [h1, List.map_id]
theorem t_mappl {L : List Nat} {f : Nat → va_E} {b : Nat} {e1 : va_E} : (va_pl L f).map (fun q => if q.1 = b then (b, e1) else q) = va_pl L (va_up f b e1) := by
  simp only [va_pl, List.map_map]
  apply List.map_congr_left
  intro x _
  by_cases hb : x = b
  · subst hb; simp [va_up]
  · simp [va_up, hb]
theorem t_plm {L : List Nat} {f : Nat → va_E} {b : Nat} (h : b ∈ L) : (b, f b) ∈ va_pl L f := List.mem_map.mpr ⟨b, h, rfl⟩
theorem t_plg {X r : va_W} {L : List Nat} {f : Nat → va_E} {b : Nat} (h : b ∈ L) : ∃ k : Nat, (X ++ (va_pl L f ++ r))[k]? = some (b, f b) :=
  List.getElem?_of_mem (List.mem_append_right _ (List.mem_append_left _ (t_plm h)))
theorem t_pls {X r : va_W} {L : List Nat} {f : Nat → va_E} {b k : Nat} {e1 : va_E} (hD : va_D A (X ++ (va_pl L f ++ r))) (h : b ∈ L) (hk : (X ++ (va_pl L f ++ r))[k]? = some (b, f b)) : (X ++ (va_pl L f ++ r)).set k (b, e1) = X ++ (va_pl L (va_up f b e1) ++ r) := by
  have hm : (b, f b) ∈ va_pl L f := t_plm h
  rw [t_setmap hD hk, List.map_append, List.map_append, t_mappl, t_mapfix, t_mapfix]
  · intro q hq h1
    have hD2 : va_D A ((X ++ va_pl L f) ++ r) := by rw [List.append_assoc]; exact hD
    exact t_apart hD2 (List.mem_append_right _ hm) hq h1.symm
  · intro q hq
    exact t_apart hD hq (List.mem_append_left _ hm)
/-- objects whose fields are all ints: field k of the object at b is fv b k -/
def tO (ci N : Nat) (fv : Nat → Nat → Int32) : Nat → va_E := fun b => .inr (ci, (List.range N).map (fun j => .int (fv b j)))
theorem tO_get {N k : Nat} {g : Nat → Int32} (hk : k < N) : ((List.range N).map (fun j => Value.int (g j)))[k]? = some (.int (g k)) := by
  rw [List.getElem?_map, List.getElem?_range hk]; rfl
theorem tO_set {N k : Nat} {g : Nat → Int32} {x : Int32} : ((List.range N).map (fun j => Value.int (g j))).set k (.int x) = (List.range N).map (fun j => Value.int (upd g k x j)) := by
  apply List.ext_getElem?
  intro j
  by_cases hj : j = k
  · subst hj
    by_cases hn : j < N
    · rw [List.getElem?_set_self (by simpa using hn), tO_get hn]; simp [upd]
    · rw [List.getElem?_eq_none (by simp; omega), List.getElem?_eq_none (by simp; omega)]
  · rw [List.getElem?_set_ne (Ne.symm hj), List.getElem?_map, List.getElem?_map]
    cases h9 : (List.range N)[j]? with
    | none => rfl
    | some i =>
      have hi : i = j := by
        have h8 := List.getElem?_eq_some_iff.mp h9
        obtain ⟨h7, h6⟩ := h8
        simpa using h6.symm
      subst hi
      simp [upd, hj]
theorem tO_up {ci N b k : Nat} {fv : Nat → Nat → Int32} {x : Int32} : va_up (tO ci N fv) b (.inr (ci, (List.range N).map (fun j => .int (upd (fv b) k x j)))) = tO ci N (va_up fv b (upd (fv b) k x)) := by
  funext z
  by_cases hz : z = b
  · subst hz; simp [va_up, tO]
  · simp [va_up, tO, hz]
theorem t_getP (hx : p.tables.exec = Jvm.exec) (hb : c.code = cc) {own ref C : String} {T : u_T} {N ci index : Nat} (hts : ∀ z ∈ Ts, z.before args s = true) (hin : ∀ z ∈ u_ws C T N, z ∈ Ts) (hown : s.vm.findClass own = some m.cls) {X r : va_W} {L : List Nat} {fv : Nat → Nat → Int32} (hC : tC D cl tys A Z s (X ++ (va_pl L (tO ci N fv) ++ r)) H locs) (ha : a ∈ L) (hc : cl[ci]? = some (C, T, N)) (k : Nat) (hk : k < N) (hlink : (Cond.fieldLink own index ref (T k).2.1 (T k).2.2.1).before args s = true) (hsame : ∀ x, s.fieldFound? (T k).1 (T k).2.1 (T k).2.2.1 = some x → s.fieldFound? ref (T k).2.1 (T k).2.2.1 = some x) (hdg : decode cc pc = .ok (.getfield index, 3))
    (kk : W p l e R s m args below meth c H locs cells slots Q (F0 m (pc + 3) ls (.int (fv a k) :: rest))) : W p l e R s m args below meth c H locs cells slots Q (F0 m pc ls (.ref a :: rest)) := by
  obtain ⟨q0, hq⟩ := t_plg (X := X) (r := r) (f := tO ci N fv) ha
  exact va_get hx hb hts hin hown hC.2.2.2.1 hC.1 q0 hq hc k hk hlink hsame (tO_get hk) hdg kk
theorem t_putP (hx : p.tables.exec = Jvm.exec) (hb : c.code = cc) {own ref C : String} {T : u_T} {N ci index : Nat} (hts : ∀ z ∈ Ts, z.before args s = true) (hin : ∀ z ∈ u_ws C T N, z ∈ Ts) (ty0 : Nat → FieldType) (hty : ∀ k, k < N → parseFieldDescriptor (T k).2.2.1 = some (ty0 k)) (hnm : ∀ a, a < N → ∀ b, b < N → a ≠ b → (T a).2.1 ≠ (T b).2.1) (hown : s.vm.findClass own = some m.cls) {X r : va_W} {L : List Nat} {fv : Nat → Nat → Int32} (hC : tC D cl tys A Z s (X ++ (va_pl L (tO ci N fv) ++ r)) H locs) (ha : a ∈ L) (hc : cl[ci]? = some (C, T, N)) (k : Nat) (hk : k < N) (hlink : (Cond.fieldLink own index ref (T k).2.1 (T k).2.2.1).before args s = true) (hsame : ∀ x, s.fieldFound? (T k).1 (T k).2.1 (T k).2.2.1 = some x → s.fieldFound? ref (T k).2.1 (T k).2.2.1 = some x) (hfin : (T k).2.2.2 = false ∨ ((T k).2.2.2 = true ∧ meth.name = "<init>" ∧ (T k).1 = own)) {ty : FieldType} {v : Int32} (hd : parseFieldDescriptor (T k).2.2.1 = some ty) (hn : narrow ty (.int v) = .int v) (hfit : fits ty (.int v) = true)
    (hdg : decode cc pc = .ok (.putfield index, 3)) (kk : ∀ (H1 : Heap) (locs1 : List Loc), tC D cl tys A Z s (X ++ (va_pl L (tO ci N (va_up fv a (upd (fv a) k v))) ++ r)) H1 locs1 → W p l e R s m args below meth c H1 locs1 cells slots Q (F0 m (pc + 3) ls rest)) : W p l e R s m args below meth c H locs cells slots Q (F0 m pc ls (.int v :: .ref a :: rest)) := by
  obtain ⟨q0, hq⟩ := t_plg (X := X) (r := r) (f := tO ci N fv) ha
  have hfs : k < ((List.range N).map (fun j => Value.int (fv a j))).length := by simpa using hk
  have key : ∀ (H1 : Heap) (l1 : List Loc), tC D cl tys A Z s ((X ++ (va_pl L (tO ci N fv) ++ r)).set q0 (a, .inr (ci, ((List.range N).map (fun j => Value.int (fv a j))).set k (.int v)))) H1 l1 → W p l e R s m args below meth c H1 l1 cells slots Q (F0 m (pc + 3) ls rest) := by
    intro H1 l1 h
    rw [tO_set, t_pls hC.2.1 ha hq, tO_up] at h
    exact kk H1 l1 h
  rcases hfin with hf | ⟨h1, h2, h3⟩
  · exact t_put hx hb hts hin ty0 hty hnm hown hC q0 hq hc k hk hlink hsame hf hd hn hfit hfs hdg key
  · exact t_putF hx hb hts hin ty0 hty hnm hown hC q0 hq hc k hk hlink hsame h1 h2 h3 hd hn hfit hfs hdg key
theorem t_recvP {X r : va_W} {L : List Nat} {f : Nat → va_E} {ci : Nat} {fs : List Value} {q : vw_C} (hC : tC D cl tys A Z s (X ++ (va_pl L f ++ r)) H locs) (ha : a ∈ L) (hf : f a = .inr (ci, fs)) (hc : cl[ci]? = some q) : ∃ cell : Cell, H[a]? = some cell ∧ cell.vm.isStatics = false ∧ s.vm.findClass q.1 = some cell.cls := by
  obtain ⟨q0, hq⟩ := t_plg (X := X) (r := r) (f := f) ha
  rw [hf] at hq
  exact va_recv hC.2.2.2.1 hC.1 hc hq
theorem t_recv {q0 ci : Nat} {fs : List Value} {q : vw_C} (hC : tC D cl tys A Z s w H locs) (he : w[q0]? = some (a, .inr (ci, fs))) (hc : cl[ci]? = some q) : ∃ cell : Cell, H[a]? = some cell ∧ cell.vm.isStatics = false ∧ s.vm.findClass q.1 = some cell.cls := va_recv hC.2.2.2.1 hC.1 hc he
end TP
section TQ
variable {D : va_G} {cl : List vw_C} {tys : List (ClassId × FieldType)} {A : Nat → Prop} {Z : State → Heap → Prop} {s : State} {H : Heap} {locs : List Loc} {w w2 : va_W}
theorem t_P_iff : va_P D cl w H ↔ ∀ q ∈ w, va_at D cl q H := by
  constructor
  · intro h q hq
    obtain ⟨k, hk⟩ := List.getElem?_of_mem hq
    exact h k q hk
  · intro h k q hk
    exact h q (List.mem_of_getElem? hk)
theorem t_D_iff : va_D A w ↔ (w.map (·.1)).Nodup ∧ ∀ q ∈ w, A q.1 := by
  constructor
  · intro h
    refine ⟨?_, fun q hq => ?_⟩
    · unfold List.Nodup
      rw [List.pairwise_iff_getElem]
      intro i j hi hj hij heq
      rw [List.length_map] at hi hj
      rw [List.getElem_map, List.getElem_map] at heq
      have h1 := h.1 i j _ _ (List.getElem?_eq_getElem hi) (List.getElem?_eq_getElem hj) heq
      omega
    · obtain ⟨k, hk⟩ := List.getElem?_of_mem hq
      exact h.2 k q hk
  · intro h
    refine ⟨fun i j p q hi hj hpq => ?_, fun k q hk => h.2 q (List.mem_of_getElem? hk)⟩
    have hn := List.pairwise_iff_getElem.mp h.1
    obtain ⟨hil, hie⟩ := List.getElem?_eq_some_iff.mp hi
    obtain ⟨hjl, hje⟩ := List.getElem?_eq_some_iff.mp hj
    rcases Nat.lt_trichotomy i j with h1 | h1 | h1
    · exact absurd (by rw [List.getElem_map, List.getElem_map, hie, hje]; exact hpq) (hn i j (by rw [List.length_map]; exact hil) (by rw [List.length_map]; exact hjl) h1)
    · exact h1
    · exact absurd (by rw [List.getElem_map, List.getElem_map, hie, hje]; exact hpq.symm) (hn j i (by rw [List.length_map]; exact hjl) (by rw [List.length_map]; exact hil) h1)
/-- the same cells, in another order -/
theorem t_perm (hp : w.Perm w2) (hC : tC D cl tys A Z s w H locs) : tC D cl tys A Z s w2 H locs := by
  obtain ⟨h1, h2, h3⟩ := hC
  have h2 := t_D_iff.mp h2
  refine ⟨t_P_iff.mpr (fun q hq => t_P_iff.mp h1 q (hp.mem_iff.mpr hq)), t_D_iff.mpr ⟨(hp.map (·.1)).nodup_iff.mp h2.1, fun q hq => h2.2 q (hp.mem_iff.mpr hq)⟩, h3⟩
/-- fewer cells -/
theorem t_less (hp : List.Sublist w2 w) (hC : tC D cl tys A Z s w H locs) : tC D cl tys A Z s w2 H locs := by
  obtain ⟨h1, h2, h3⟩ := hC
  have h2 := t_D_iff.mp h2
  exact ⟨t_P_iff.mpr (fun q hq => t_P_iff.mp h1 q (hp.subset hq)), t_D_iff.mpr ⟨h2.1.sublist (hp.map _), fun q hq => h2.2 q (hp.subset hq)⟩, h3⟩
theorem t_permW (hp : w.Perm w2) {U : State} (hC : tw D cl tys A Z w U) : tw D cl tys A Z w2 U := by
  obtain ⟨h1, h0, h2, h3⟩ := hC
  have h2 := t_D_iff.mp h2
  refine ⟨t_P_iff.mpr (fun q hq => t_P_iff.mp h1 q (hp.mem_iff.mpr hq)), h0, t_D_iff.mpr ⟨(hp.map (·.1)).nodup_iff.mp h2.1, fun q hq => h2.2 q (hp.mem_iff.mpr hq)⟩, h3⟩
theorem t_nodupL {X r : va_W} {L : List Nat} {f : Nat → va_E} (hC : tC D cl tys A Z s (X ++ (va_pl L f ++ r)) H locs) : L.Nodup := by
  have h := (t_D_iff.mp hC.2.1).1
  rw [List.map_append, List.map_append] at h
  have h2 := ((List.nodup_append.mp h).2.1)
  have h3 := (List.nodup_append.mp h2).1
  have e : (va_pl L f).map (·.1) = L := by simp [va_pl, Function.comp_def]
  rw [e] at h3
  exact h3
theorem t_freshL {X r : va_W} {L : List Nat} {f : Nat → va_E} {q : Nat} {e : va_E} (hC : tC D cl tys A Z s ((X ++ (va_pl L f ++ r)) ++ [(q, e)]) H locs) : q ∉ L := by
  intro hq
  exact t_apart hC.2.1 (List.mem_append_right _ (List.mem_append_left _ (t_plm (f := f) hq))) (List.mem_singleton.mpr rfl) rfl
/-- a new object joins the pool -/
theorem t_join {X r : va_W} {L : List Nat} {ci N : Nat} {fv : Nat → Nat → Int32} {q : Nat} {g : Nat → Int32} (hC : tC D cl tys A Z s ((X ++ (va_pl L (tO ci N fv) ++ r)) ++ [(q, .inr (ci, (List.range N).map (fun j => .int (g j))))]) H locs) : tC D cl tys A Z s (X ++ (va_pl (L ++ [q]) (tO ci N (va_up fv q g)) ++ r)) H locs := by
  have hq := t_freshL hC
  have e : va_pl (L ++ [q]) (tO ci N (va_up fv q g)) = va_pl L (tO ci N fv) ++ [(q, .inr (ci, (List.range N).map (fun j => .int (g j))))] := by
    simp only [va_pl, List.map_append, List.map_cons, List.map_nil]
    congr 1
    · apply List.map_congr_left
      intro b hb
      have hne : b ≠ q := fun h => hq (h ▸ hb)
      simp [tO, va_up, hne]
    · simp [tO, va_up]
  rw [e]
  refine t_perm ?_ hC
  simp only [List.append_assoc]
  exact List.Perm.append_left _ (List.Perm.append_left _ List.perm_append_comm)
end TQ
end
section
/-! Exceptions: the search of a method's table (its classes linked or not yet), and 'throw new E("text")' -/
section TF
/-- one row of the table, whose class links: it takes the object, or the search goes on; the tables note the class -/
theorem tf_link {E9 : CtlPost} {e : Env} {d : Bool} {acts : List Action} {s : State} {f : JFrame} {a : Addr} {Q : Handler → Pre} {x : ExceptionTableEntry} {t : List ExceptionTableEntry} {c : ClassId} {cell : Cell} (hx : covers x f.pc = true) (h0 : x.catchType ≠ 0)
    (hl : s.vm.ClassLinks e.platform f.method.cls x.catchType c) (hcell : s.heap[a]? = some cell) (hobj : ∀ k, cell.vm ≠ .statics k)
    (hk : ∃ k, s.vm.classes[cell.cls]? = some k) (hc : ∃ k, s.vm.classes[c]? = some k) :
    wp (findHandler.go f a (x :: t)) Q E9 e d acts s ↔ if s.vm.assignable cell.cls c = true then Q (.found x.handlerPc) d acts (s.setVm (s.vm.noted f.method.cls x.catchType (.cls c))) else wp (findHandler.go f a t) Q E9 e d acts (s.setVm (s.vm.noted f.method.cls x.catchType (.cls c))) := by
  simp only [covers] at hx
  obtain ⟨ha, ht⟩ := (resolveClass_links e.toSetting hl).op (op := VmOp.resolveClass f.method.cls x.catchType) rfl
  have hal : s.vm.Alike (s.vm.noted f.method.cls x.catchType (.cls c)) := (Vm.Alike.refl s.vm).noted _ _ _
  obtain ⟨k1, hk1⟩ := hk
  obtain ⟨k2, hk2⟩ := hc
  obtain ⟨k1', hk1', -⟩ := hal.2.2 _ _ hk1
  obtain ⟨k2', hk2', -⟩ := hal.2.2 _ _ hk2
  have hb : (s.vm.noted f.method.cls x.catchType (.cls c)).assignable cell.cls c = s.vm.assignable cell.cls c := hal.assignable _ _
  cases hfit : s.vm.assignable cell.cls c <;> rw [hfit] at hb <;> simp [findHandler.go, hx, h0, ha, ht, hcell, hobj, hk1', hk2', hb, VmOp.dirties, VmOp.acts]
/-- rows that don't take it, then one that does -/
theorem tf_go {e : Env} {s0 : State} {f : JFrame} {a : Addr} {cell : Cell} (hobj : ∀ k, cell.vm ≠ .statics k) (hk0 : ∃ k, s0.vm.classes[cell.cls]? = some k) (x : ExceptionTableEntry) (suf : List ExceptionTableEntry) (hx : covers x f.pc = true) {c : ClassId} (h0 : x.catchType ≠ 0) (hl : s0.vm.ClassLinks e.platform f.method.cls x.catchType c) (hy : s0.vm.assignable cell.cls c = true) :
    ∀ (pre : List ExceptionTableEntry) (S : State), s0.WarmedH S.vm → S.heap[a]? = some cell → (∀ z ∈ pre, covers z f.pc = true ∧ z.catchType ≠ 0 ∧ ∃ c9, s0.vm.ClassLinks e.platform f.method.cls z.catchType c9 ∧ s0.vm.assignable cell.cls c9 = false) →
      ∃ vm', s0.WarmedH vm' ∧ ∀ (Q : Handler → Pre) (E9 : CtlPost) (d : Bool) (acts : List Action), wp (findHandler.go f a (pre ++ x :: suf)) Q E9 e d acts S ↔ Q (.found x.handlerPc) d acts (S.setVm vm') := by
  obtain ⟨k0, hk0⟩ := hk0
  intro pre
  induction pre with
  | nil =>
    intro S hW hcell _
    obtain ⟨k0', hk0', -⟩ := hW.alike.2.2 _ _ hk0
    obtain ⟨dk, _, _, kt, hd, _, _, _, _, hkt, _, hopen⟩ := hl.here
    obtain ⟨kt', hkt', -⟩ := hW.alike.2.2 _ _ hkt
    refine ⟨_, hW.noted hd hopen (State.rightAt_cls hl), fun Q E9 d acts => ?_⟩
    rw [List.nil_append, tf_link hx h0 (hW.classLinks hl) hcell hobj ⟨k0', hk0'⟩ ⟨kt', hkt'⟩, if_pos (by rw [hW.alike.assignable]; exact hy)]
  | cons z zs ih =>
    intro S hW hcell hpass
    obtain ⟨k0', hk0', -⟩ := hW.alike.2.2 _ _ hk0
    obtain ⟨hz, hz0, c9, hl9, hn9⟩ := hpass z List.mem_cons_self
    obtain ⟨dk, _, _, kt, hd, _, _, _, _, hkt, _, hopen⟩ := hl9.here
    obtain ⟨kt', hkt', -⟩ := hW.alike.2.2 _ _ hkt
    obtain ⟨vm', hW', hq⟩ := ih (S.setVm (S.vm.noted f.method.cls z.catchType (.cls c9))) (hW.noted hd hopen (State.rightAt_cls hl9)) hcell (fun y hy => hpass y (List.mem_cons_of_mem _ hy))
    refine ⟨vm', hW', fun Q E9 d acts => ?_⟩
    rw [List.cons_append, tf_link hz hz0 (hW.classLinks hl9) hcell hobj ⟨k0', hk0'⟩ ⟨kt', hkt'⟩, if_neg (by rw [hW.alike.assignable, hn9]; decide)]
    exact hq Q E9 d acts
/-- .. so the machine goes to that row's handler -/
theorem tf_caught {tb : Tables} {e : Env} {s target : State} {g : JFrame} {c : Code} {below : List Frame} {a : Addr} (h : At s g.method c below) {pc : Nat} {vm' : Vm}
    (hfind : ∀ (Q : Handler → Pre) (E9 : CtlPost) (d : Bool) (acts : List Action), wp (findHandler g a) Q E9 e d acts ((s.setTop g).pushFrame (.throwing a)) ↔ Q (.found pc) d acts (((s.setTop g).pushFrame (.throwing a)).setVm vm'))
    (hrest : Steps tb e below ((s.setVm vm').setTop { g with pc := pc, stack := [.ref a] }) target) : Steps tb e below ((s.setTop g).pushFrame (.throwing a)) target := by
  obtain ⟨hgo, hw⟩ := h.throwing a
  refine Steps.head hgo hw ?_
  have hstep : (stepThrowing e ((s.setTop g).pushFrame (.throwing a)) a (.java g :: s.frames.tail)).Is ((((s.setTop g).pushFrame (.throwing a)).setVm vm').setFrames (.java { g with pc := pc, stack := [.ref a] } :: s.frames.tail)) [] := by
    simp only [stepThrowing, searchFrame, vmDo]
    generalize hr : Sem.go _ e false [] ((s.setTop g).pushFrame (.throwing a)) = res
    obtain ⟨as, rfl, ha⟩ := Sem.eq_ok_of hr (a := Handler.found pc) (s' := ((s.setTop g).pushFrame (.throwing a)).setVm vm') (acts' := []) (by simp [hfind _ _ _ _])
    exact ⟨rfl, ha⟩
  rw [stepThread_throwing (frames_entered h.top _), hstep.1]
  obtain ⟨g₀, hg⟩ := Option.isSome_iff_exists.mp h.top
  obtain ⟨r, hr⟩ := State.topJava?_eq_some.mp hg
  have hr' : (s.setVm vm').frames = .java g₀ :: r := hr
  have key : ∀ (F G : List Frame), ((s.setFrames F).setVm vm').setFrames G = (s.setVm vm').setFrames G := by
    intro F G
    have h1 : (s.setFrames F).setVm vm' = (s.setVm vm').setFrames F := rfl
    rw [h1, State.setFrames_setFrames]
  rw [State.setTop_of_frames _ hr'] at hrest
  rw [hr, List.tail_cons, State.pushFrame, State.setTop_of_frames _ hr, State.setFrames_setFrames, key]
  exact hrest
end TF
section TG
variable {p : Program} {l : Launch} {e : Env} {R : Room} {s : State} {m : MethodId} {args : Array Value} {below : List Frame} {meth : Method} {c : Code} {H : Heap} {locs : List Loc} {cells slots : Nat} {Q : State → Prop} {pc : Nat} {ls : Array Slot} {rest : List Value}
/-- caught by the row x of this method's own table, behind rows that name other classes -/
theorem t_catch {own name E : String} {q : Addr} {ce : Cell} (hown : s.vm.findClass own = some m.cls) (pre : List ExceptionTableEntry) (x : ExceptionTableEntry) (suf : List ExceptionTableEntry) (htab : c.exceptionTable.toList = pre ++ x :: suf)
    (hpass : ∀ z ∈ pre, covers z pc = true ∧ z.catchType ≠ 0 ∧ ∃ nm : String, (Cond.classLink own z.catchType nm).before args s = true ∧ va_Nc E nm s) (hx : covers x pc = true) (h0 : x.catchType ≠ 0)
    (hlink : (Cond.classLink own x.catchType name).before args s = true) (hcast : (Cond.castable E name).before args s = true) (hce : H[q]? = some ce) (hcv : ce.vm = .none) (hcl : s.vm.findClass E = some ce.cls)
    (kk : W p l e R s m args below meth c H locs cells slots Q (F0 m x.handlerPc ls [.ref q])) : tT p l e R s m args below meth c H locs cells slots Q (F0 m pc ls rest) q := by
  intro T hT X
  have hpl : e.platform.magicAccessors = ({} : Platform).magicAccessors := by rw [X.admits.platform]
  obtain ⟨c3, c4, hc3, hc4, hasg⟩ := Cond.castable_spec hcast
  cases Option.some.inj (hc3.symm.trans hcl)
  obtain ⟨c5, hc5, hcl5⟩ := Cond.classLink_spec hown hlink e.platform hpl
  cases Option.some.inj (hc4.symm.trans hc5)
  obtain ⟨vm', hW', hq⟩ := tf_go (e := e) (s0 := s) (f := F0 m pc ls rest) (a := q) (cell := ce) (fun k h => by rw [hcv] at h; cases h) (by obtain ⟨k9, h9, -⟩ := Vm.findClass_spec hcl; exact ⟨k9, h9⟩) x suf hx h0 hcl5 hasg pre ((T.setTop (F0 m pc ls rest)).pushFrame (.throwing q)) (by rw [throwing_vm]; exact X.warmed) (by rw [throwing_heap, hT]; exact hce) (fun z hz => by
    obtain ⟨h1, h2, nm, h3, a8, b8, h4, h5, h6⟩ := hpass z hz
    obtain ⟨c6, hc6, hcl6⟩ := Cond.classLink_spec hown h3 e.platform hpl
    cases Option.some.inj (h4.symm.trans hcl)
    cases Option.some.inj (h5.symm.trans hc6)
    exact ⟨h1, h2, _, hcl6, h6⟩)
  obtain ⟨t, a1, b1⟩ := kk (T.setVm vm') hT (X.noted hW')
  refine ⟨t, ?_, b1⟩
  refine tf_caught (g := F0 m pc ls rest) X.here (fun Q9 E9 d acts => ?_) a1
  rw [_root_.Jvm.W.findHandler_eq (meth := meth) (code := c) (by rw [throwing_vm]; exact X.method') X.code, htab]
  exact hq Q9 E9 d acts
end TG
section TS
/-- a static field that holds a reference, in a statics cell outside A -/
def tS (C n d : String) (v : Value) (A : Nat → Prop) (U : State) (H : Heap) : Prop := ∃ (c : ClassId) (k : Class) (i : Nat) (f : Field) (a : Nat) (cell : Cell), U.vm.findClass C = some c ∧ U.fieldFound? C n d = some (c, k, i, f) ∧ f.isStatic = true ∧ k.statics = some a ∧ H[a]? = some cell ∧ cell.vm.isStatics = true ∧ cell.cls = c ∧ f.slot < cell.slots.size ∧ k.staticTypes[f.slot]? = some f.type ∧ cell.slots[f.slot]? = some v ∧ k.init = .initialized ∧ ¬ A a
theorem tS.moved {C n d : String} {v : Value} {A : Nat → Prop} {u U : State} {H : Heap} (hvm : u.vm.Alike U.vm) (h : tS C n d v A u H) : tS C n d v A U H := by
  obtain ⟨c, k, i, f, a, cell, h1, h2, h3, h4, h5, h6, h7, h8, h9, h10, h11, h12⟩ := h
  obtain ⟨k', hi', he⟩ := State.fieldFound?_setVm hvm h2
  exact ⟨c, k', i, f, a, cell, by rw [hvm.findClass]; exact h1, hi', h3, by rw [he]; exact h4, h5, h6, h7, h8, by rw [he]; exact h9, h10, by rw [he]; exact h11, h12⟩
theorem tS.kept {C n d : String} {v : Value} {A : Nat → Prop} {U : State} {H H1 : Heap} (hq : ∀ a : Nat, a < H.size → ¬ A a → H1[a]? = H[a]?) (h : tS C n d v A U H) : tS C n d v A U H1 := by
  obtain ⟨c, k, i, f, a, cell, h1, h2, h3, h4, h5, h6⟩ := h
  exact ⟨c, k, i, f, a, cell, h1, h2, h3, h4, by rw [hq a (Array.getElem?_eq_some_iff.mp h5).1 h6.2.2.2.2.2.2]; exact h5, h6⟩
theorem tS.lays {C n d : String} {v : Value} {A : Nat → Prop} {s : State} {args : Array Value} (h : tS C n d v A s s.heap) : (Cond.laysStatic C n d).before args s = true := by
  obtain ⟨c, k, i, f, a, cell, h1, h2, h3, h4, h5, h6, h7, h8, h9, -⟩ := h
  show (Cond.laysStatic C n d).holds args s none s [] = true
  exact Cond.laysStatic_of h1 h2 h3 h4 h5 h6 h7 h8 h9
theorem tS.isRef {C n d : String} {v : Value} {A : Nat → Prop} {s : State} {args : Array Value} (h : tS C n d v A s s.heap) (hv : v.isRef = true) : (Cond.isRef (.static C n d)).before args s = true := by
  obtain ⟨c, k, i, f, a, cell, h1, h2, h3, h4, h5, h6, h7, h8, h9, h10, -⟩ := h
  have he : (Term.static C n d).eval args s none [] s = some v := by
    simp [Term.eval, State.fieldNamed?, h2, h3, h4, h5, h6, h10]
  simp only [Cond.before, Cond.holds, Cond.value, he]
  cases v <;> simp_all [Value.isRef]
theorem tS.Z {C n d : String} {v : Value} {A : Nat → Prop} {U : State} {H : Heap} (h : tS C n d v A U H) : va_Z C n d v A U H := by
  obtain ⟨c, k, i, f, a, cell, h1, h2, h3, h4, h5, h6, h7, h8, h9, h10, h11, h12⟩ := h
  exact ⟨c, k, i, f, a, cell, h2, h3, h11, h4, h5, h6, h10, h12⟩
theorem tS.of {args : Array Value} {s : State} {C n d : String} {A : Nat → Prop} (hl : (Cond.laysStatic C n d).before args s = true) (hini : (Cond.initialized C).before args s = true) (h : (Cond.isRef (.static C n d)).before args s = true) (hA : ∀ a : Nat, a < s.heap.size → ¬ A a) : ∃ v : Value, v.isRef = true ∧ tS C n d v A s s.heap := by
  obtain ⟨c, k, i, f, a, cell, h1, h2, h3, h4, h5, h6, h7, h8, h9⟩ := Cond.laysStatic_spec hl
  cases hv : (Term.static C n d).eval args s none [] s with
  | none => simp [Cond.before, Cond.holds, Cond.value, hv] at h
  | some v =>
    have hr : v.isRef = true := by
      simp only [Cond.before, Cond.holds, Cond.value, hv] at h
      cases v <;> simp_all [Value.isRef]
    obtain ⟨hst', a', cell', ha', hcell', -, hslot⟩ := Term.static_spec h2 hv
    cases h4.symm.trans ha'
    cases h5.symm.trans hcell'
    exact ⟨v, hr, c, k, i, f, a, cell, h1, h2, h3, h4, h5, h6, h7, h8, h9, hslot, Cond.initialized_spec h1 (State.fieldFound?_spec h2).1 hini, hA a (Array.getElem?_eq_some_iff.mp h5).1⟩
end TS
section TH
variable {p : Program} {l : Launch} {e : Env} {R : Room} {s : State} {m : MethodId} {args : Array Value} {below : List Frame} {meth : Method} {c : Code} {H : Heap} {locs : List Loc} {cells slots : Nat} {Q : State → Prop}
/-- the same frame, as if its method were called here and now -/
theorem t_rebase {T : State} (X : Stand p l e R s m args below meth c T locs cells slots) {R' : Room} (hf : R'.frames ≤ R.frames) (hl : R'.locals ≤ R.locals) (hc : cells + R'.cells ≤ R.cells) (hs : slots + R'.slots ≤ R.slots) :
    Stand p l e R' ((T.setVm s.vm).setFrames (.invoking m args :: below)) m args below meth c T [] 0 0 := by
  have htop : (T.setVm s.vm).topJava?.isSome := X.here.top
  have hF : ((T.setVm s.vm).setFrames (.invoking m args :: below)).frames = .invoking m args :: below := State.frames_setFrames _ (State.cur_lt_of_top htop)
  obtain ⟨g₀, hg0⟩ := Option.isSome_iff_exists.mp htop
  obtain ⟨r, hr⟩ := State.topJava?_eq_some.mp hg0
  have hl9 : e.platform.stackLimits (T.setVm s.vm).me = e.platform.stackLimits s.me := X.limits
  have hb9 : (T.setVm s.vm).me.stackBytes = s.me.stackBytes := X.bytes
  have hroom : ((T.setVm s.vm).setFrames (.invoking m args :: below)).hasRoom e.platform R' = true := by
    have h := X.room
    have hU : ((T.setVm s.vm).setFrames (.invoking m args :: below)).localsInUse = s.localsInUse := by
      rw [State.localsInUse_invoking hF (meth := meth) (c := c) X.method X.code, State.localsInUse_invoking X.frames X.method X.code]
    have q1 := X.heapSize
    have q2 := X.used
    have q3 : ((T.setVm s.vm).setFrames (.invoking m args :: below)).heap.size = T.heap.size := rfl
    have q4 : ((T.setVm s.vm).setFrames (.invoking m args :: below)).slotsUsed = T.slotsUsed := rfl
    have q5 : ((T.setVm s.vm).setFrames (.invoking m args :: below)).slotsTrue = true := X.book
    simp only [State.hasRoom, Bool.and_eq_true, decide_eq_true_eq] at h ⊢
    obtain ⟨⟨⟨⟨h1, h2, h3, h4, h5, h6⟩, h7⟩, h8⟩, h9⟩ := h
    rw [X.frames, List.length_cons] at h2 h3
    rw [q3, q4]
    simp only [hF, hU, List.length_cons, State.stackLimits_setFrames, State.stackBytes_setFrames, hl9, hb9]
    exact ⟨⟨⟨⟨by omega, by omega, by omega, by omega, by omega, h6⟩, by omega⟩, by omega⟩, q5⟩
  refine ⟨X.admits, X.cas, X.clock, hF, hroom, X.hears, X.method, X.code, X.here, X.tail, X.warmed, ?_, ?_, ?_⟩
  · rw [State.stackLimits_setFrames]; rfl
  · rw [State.stackBytes_setFrames]; rfl
  · have hd : T.heap.toList.drop T.heap.size = [] := List.drop_eq_nil_of_le (Nat.le_of_eq Array.length_toList)
    refine ⟨?_, Nat.le_refl _, Nat.le_refl _, ?_, ?_, fun a c9 h9 => ⟨c9, h9, rfl, rfl, fun _ _ => rfl⟩⟩
    · obtain ⟨t, ht, -⟩ := State.frames_cons hr
      show T.setVm s.vm = { ((T.setVm s.vm).setFrames (.invoking m args :: below)).setFrames (T.setVm s.vm).frames with heap := T.heap, slotsUsed := T.slotsUsed }
      rw [State.setFrames_setFrames, State.setFrames_self ht]
      rfl
    · show T.slotsUsed = T.slotsUsed + ((T.heap.toList.drop T.heap.size).map (·.slots.size)).sum
      rw [hd]; rfl
    · show ((T.heap.toList.drop T.heap.size).map (·.slots.size)).sum ≤ 0
      rw [hd]; exact Nat.le_refl _
theorem t_frameOf {U : State} {k n : Nat} (h : s.sameButNew ({ U with vm := s.vm } : State) [] k n) : s.heap.size ≤ U.heap.size ∧ ∀ q : Nat, q < s.heap.size → U.heap[q]? = s.heap[q]? := by
  obtain ⟨-, h2, -, -, -, h6⟩ := h
  refine ⟨h2, fun q hq => ?_⟩
  obtain ⟨c9, e1, e2, e3, e4⟩ := h6 q _ (Array.getElem?_eq_getElem hq)
  have hs : c9.slots = (s.heap[q]).slots := Array.ext_getElem? fun i => e4 i (by simp)
  have h9 : c9 = s.heap[q] := by rw [hs] at e2; exact e2
  have e5 : U.heap[q]? = some c9 := e1
  rw [e5, h9, Array.getElem?_eq_getElem hq]
end TH
section TJ
variable {p : Program} {l : Launch} {e : Env} {R : Room} {s : State} {m : MethodId} {args : Array Value} {below : List Frame} {meth : Method} {c : Code} {V9 : State} {locs : List Loc} {cells slots : Nat}
/-- the words of 'throw new X("text")', X's own constructor handing on by the entry ix of its pool -/
def tAtoms (own : String) (ic : Nat) (X : String) (ix : Nat) (by9 : ByteArray) (Y : String) (r : List String) : List Cond :=
  Bundle.throwableAtoms ++ (Bundle.throwableSAtoms ++ (Bundle.passSAtoms X Y ix by9 ++ (Bundle.chainSAtoms Y r ++
  [.methodLink own ic (Bundle.initS X), .instantiable X 6, .castable X X, .selects X Bundle.tFill0 Bundle.tFill0, .selects X Bundle.tFill Bundle.tFill,
   .lays X Bundle.tN "cause" "Ljava/lang/Throwable;", .lays X Bundle.tN "stackTrace" Bundle.steD, .lays X Bundle.tN "suppressedExceptions" Bundle.listD, .lays X Bundle.tN "detailMessage" "Ljava/lang/String;",
   .isRef (.static Bundle.tN "UNASSIGNED_STACK" Bundle.steD), .isRef (.static Bundle.tN "SUPPRESSED_SENTINEL" Bundle.listD),
   .fieldLink Bundle.tN 198 Bundle.tN "backtrace" "Ljava/lang/Object;", .lays Bundle.tN Bundle.tN "backtrace" "Ljava/lang/Object;", .lays X Bundle.tN "backtrace" "Ljava/lang/Object;"])))
set_option maxHeartbeats 2000000 in
/-- the constructor and the throw (after the library's law for constructors that hand on by entry 7) -/
theorem t_ctor (X : Stand p l e R s m args below meth c V9 locs cells slots) (hx : p.tables.exec = Jvm.exec) (htr : e.platform.stackTraces = false) {own cl Y9 : String} {r : List String} {ic ix : Nat} {by9 : ByteArray}
    (b0 : decode by9 0 = .ok (.aload_n 0, 1)) (b1 : decode by9 1 = .ok (.aload_n 1, 1)) (b2 : decode by9 2 = .ok (.invokespecial ix, 3)) (b5 : decode by9 5 = .ok (.return_, 1))
    (hown : s.vm.findClass own = some m.cls) (hcl : Bundle.fit cl = true) (hY9 : Bundle.fit Y9 = true) (hr9 : ∀ n ∈ r, Bundle.fit n = true) (h : ∀ z ∈ tAtoms own ic cl ix by9 Y9 r, z.before args s = true)
    {a : Addr} {cX : ClassId} {kX : Class} (hfX : s.vm.findClass cl = some cX) (hkX : s.vm.classes[cX]? = some kX) (hcell : V9.heap[a]? = some (freshCell cX kX)) (hnew : s.heap.size ≤ a) (hlocs : locs = []) {msg : Value} (hmsg : msg.isRef = true)
    {g : JFrame} (hg : g.method = m) (hsize : g.locals.size = c.maxLocals) (hlocked : g.locked = none) (hentered : g.entered = []) {rest : List Value} (hstack : g.stack = msg :: .ref a :: .ref a :: rest)
    (hd6 : decode c.code g.pc = .ok (.invokespecial ic, 3)) (hd9 : decode c.code (g.pc + 3) = .ok (.athrow, 1)) (hout : ∀ x ∈ c.exceptionTable.toList, covers x (g.pc + 3) = false)
    (hRf : r.length + 4 < R.frames) (hRl : 2 * g.monitorRoom + ((Value.ref a :: rest).map fun v => v.category).sum + (13 * (r.length + 2) + 42) ≤ R.locals) (hlk : meth.locks = false) :
    ∃ U : State, Steps p.tables e below (V9.setTop g) U ∧ U.status = .running ∧ Ended U below (.threw a) ∧ s.WarmedH U.vm ∧ s.sameButNew ({ U with vm := s.vm } : State) locs cells slots ∧
      ∃ ce : Cell, U.heap[a]? = some ce ∧ ce.vm = .none ∧ s.vm.findClass cl = some ce.cls := by
  have howns : e.platform.frameOwnsMonitors = true := by rw [X.admits.platform]
  have hfin : e.platform.finalization = false := by rw [X.admits.platform]
  have hpl : e.platform.magicAccessors = ({} : Platform).magicAccessors := by rw [X.admits.platform]
  have a' : ∀ z, z ∈ tAtoms own ic cl ix by9 Y9 r → z.holds args s none s [] = true := fun z hz => h z hz
  have hT : ∀ z ∈ Bundle.throwableAtoms, z.before args s = true := fun z hz => h z (List.mem_append_left _ hz)
  have hTS : ∀ z ∈ Bundle.throwableSAtoms, z.before args s = true := fun z hz => h z (List.mem_append_right _ (List.mem_append_left _ hz))
  have hPS : ∀ z ∈ Bundle.passSAtoms cl Y9 ix by9, z.before args s = true := fun z hz => h z (List.mem_append_right _ (List.mem_append_right _ (List.mem_append_left _ hz)))
  have hCS : ∀ z ∈ Bundle.chainSAtoms Y9 r, z.before args s = true := fun z hz => h z (List.mem_append_right _ (List.mem_append_right _ (List.mem_append_right _ (List.mem_append_left _ hz))))
  obtain ⟨T, Z0, L, -, Y⟩ := ThrowableC.of_atoms (args := args) howns hfin hpl hT
  obtain ⟨Z, M, LZ, LM, hnZ⟩ := Init0T.ofS_atoms (args := args) hpl L Y hTS
  obtain ⟨P1, L1, hP1m, hs1⟩ := PassC.ofS_atoms (args := args) (s := s) hpl (X := cl) (Y := Y9) (Bundle.fit_spec hcl).1 (Bundle.fit_spec hY9).2 b0 b1 b2 b5 hPS
  obtain ⟨P2, Ps, hlen, L2, hL, hP2m, hlink2, hlink⟩ := Bundle.chainS (args := args) hpl hnZ r Y9 hY9 hr9 hCS
  have hlink1 : P1.sup = P2.m := Option.some.inj (hs1.symm.trans hP2m)
  have hfound : s.vm.findClass cl = some P1.m.cls := findClass_of_methodNamed hP1m
  cases Option.some.inj (hfX.symm.trans hfound)
  obtain ⟨c1, kX', hc1, hk, hord, -, -, hn6⟩ := Cond.instantiable_spec (a' (.instantiable cl 6) (by simp [tAtoms]))
  cases Option.some.inj (hc1.symm.trans hfound)
  cases Option.some.inj (hkX.symm.trans hk)
  have hsel0 : selectMethod e.platform s.vm P1.m.cls T.fill0 = .method T.fill0 := by
    obtain ⟨c2, r2, m2, q1, q2, q3, q4, -⟩ := Cond.selects_spec (a' (.selects cl Bundle.tFill0 Bundle.tFill0) (by simp [tAtoms]))
    cases Option.some.inj (q1.symm.trans hfound)
    cases Option.some.inj (q2.symm.trans (State.methodFound?_of_named Y.fill0 (by decide)))
    cases Option.some.inj (q3.symm.trans Y.fill0)
    rw [Launch.admits_selectMethod X.admits]; exact q4
  have hselF : selectMethod e.platform s.vm P1.m.cls T.fill = .method T.fill := by
    obtain ⟨c2, r2, m2, q1, q2, q3, q4, -⟩ := Cond.selects_spec (a' (.selects cl Bundle.tFill Bundle.tFill) (by simp [tAtoms]))
    cases Option.some.inj (q1.symm.trans hfound)
    cases Option.some.inj (q2.symm.trans (State.methodFound?_of_named Y.fill (by decide)))
    cases Option.some.inj (q3.symm.trans Y.fill)
    rw [Launch.admits_selectMethod X.admits]; exact q4
  obtain ⟨cellS0, hcS0, hiss⟩ := Y.statics
  obtain ⟨u0, hu0⟩ := Cond.staticRefV Y.unassigned L.unassignedStatic L.statics hcS0 hiss (a' (.isRef (.static Bundle.tN "UNASSIGNED_STACK" Bundle.steD)) (by simp [tAtoms]))
  obtain ⟨sen, hsen⟩ := Cond.staticRefV Y.sentinel L.sentinelStatic L.statics hcS0 hiss (a' (.isRef (.static Bundle.tN "SUPPRESSED_SENTINEL" Bundle.listD)) (by simp [tAtoms]))
  obtain ⟨ci198, i198, fB, hk198, hg198, ha198, hsB, -, hnB, htB, hffB⟩ := Cond.ownField (t := .object "java/lang/Object") Y.found L.cls (by decide +kernel) (a' (.fieldLink Bundle.tN 198 Bundle.tN "backtrace" "Ljava/lang/Object;") (by simp [tAtoms])) (a' (.lays Bundle.tN Bundle.tN "backtrace" "Ljava/lang/Object;") (by simp [tAtoms])) e.platform hpl
  obtain ⟨cellS, hcS', heS, -, hkeep⟩ := X.same.2.2.2.2.2 T.aS cellS0 hcS0
  have hcellS : V9.heap[T.aS]? = some cellS := hcS'
  have hout' : ∀ i, (⟨T.aS, i⟩ : Loc) ∉ locs := fun i hmem => by rw [hlocs] at hmem; cases hmem
  have hknownS : cellS.vm ≠ .unknown := by
    rw [heS]; intro hu
    rw [show cellS0.vm = .unknown from hu] at hiss
    cases hiss
  have hneS : T.aS ≠ a := Nat.ne_of_lt (Nat.lt_of_lt_of_le (Array.getElem?_eq_some_iff.mp hcS0).1 hnew)
  obtain ⟨iM, hffM⟩ := Y.msg
  obtain ⟨tyC, dC, hdC, hdnC⟩ := Cond.laysAt hfound hk Y.cause (a' (.lays cl Bundle.tN "cause" "Ljava/lang/Throwable;") (by simp [tAtoms]))
  obtain ⟨tyS, dS, hdS, hdnS⟩ := Cond.laysAt hfound hk Y.stack (a' (.lays cl Bundle.tN "stackTrace" Bundle.steD) (by simp [tAtoms]))
  obtain ⟨tyP, dP, hdP, hdnP⟩ := Cond.laysAt hfound hk Y.supp (a' (.lays cl Bundle.tN "suppressedExceptions" Bundle.listD) (by simp [tAtoms]))
  obtain ⟨tyM, dM, hdM, hdnM⟩ := Cond.laysAt hfound hk hffM (a' (.lays cl Bundle.tN "detailMessage" "Ljava/lang/String;") (by simp [tAtoms]))
  obtain ⟨tyB, dB, hdB, hdnB⟩ := Cond.laysAt hfound hk hffB (a' (.lays cl Bundle.tN "backtrace" "Ljava/lang/Object;") (by simp [tAtoms]))
  have bC := Cond.laysApart hdB hdC hdnB hdnC (by rw [hnB, Y.causeName]; decide)
  have bS := Cond.laysApart hdB hdS hdnB hdnS (by rw [hnB, Y.stackName]; decide)
  have bP := Cond.laysApart hdB hdP hdnB hdnP (by rw [hnB, Y.suppName]; decide)
  have hskip : SkipFacts T e.platform s (fun u => u) u0 ((preparedCellV T.toThrowableT (freshCell P1.m.cls kX) a u0 sen).withEntry V9.cur) :=
    ⟨{ ci198 := ci198, i198 := i198, fBack := fB }, ⟨hk198, hg198, ha198, hsB⟩, by
      have h9 := fresh_default (c := P1.m.cls) tyB
      rw [htB] at h9
      simpa [preparedCellV, Cell.setSlot, Cell.withEntry, Array.getElem?_setIfInBounds, bC, bS, bP, bC.symm, bS.symm, bP.symm, defaultValue] using h9, fun _ _ => rfl⟩
  obtain ⟨tm, methC, cdC, kC, vm₁, hnC, -, -, -, -, -, -, -, hW₁, st1⟩ := Steps.initColdS (tb := p.tables) (e := e) (below := below) (s := s) (U := V9) X.here hx X.warmed hpl hown (t := Bundle.initS cl) rfl rfl (Bundle.fit_spec hcl).2
    (a' (.methodLink own ic (Bundle.initS cl)) (by simp [tAtoms])) (hPS (.instanceMethod (Bundle.initS cl)) (by simp [Bundle.passSAtoms])) (bytes := by9) (maxL := 2) (hPS (.code (Bundle.initS cl) by9 2 none) (by simp [Bundle.passSAtoms]))
    (f := g) hg (a := a) (msg := msg) (rest := .ref a :: rest) hstack hd6
  cases Option.some.inj (hnC.symm.trans hP1m)
  have X₁ := X.noted hW₁
  obtain ⟨vm₂, X₂, st2⟩ := X₁.ctorMessageOffV hx (g := { g with stack := .ref a :: rest }) hg hsize T L Z LZ M LM (P1 :: P2 :: Ps)
    (fun P hP => by
      rcases List.mem_cons.mp hP with rfl | hP
      · exact L1
      · rcases List.mem_cons.mp hP with rfl | hP
        · exact L2
        · exact hL P hP) ⟨hlink1, hlink2, hlink⟩ (u0 := u0) (sen := sen) (self := a) hmsg (cell := freshCell P1.m.cls kX) (cellS := cellS)
    hcell (fun _ => by simp) (by simp) rfl rfl hsel0 hselF hcellS hneS hknownS (by rw [hkeep _ (hout' _)]; exact hu0) (by rw [hkeep _ (hout' _)]; exact hsen)
    (Takes.of_laid hk hord tyC (by rw [Y.causeType]; rfl)) (Takes.of_laid hk hord tyS (by rw [Y.stackType]; exact fits_refV_array _ u0)) (Takes.of_laid hk hord tyP (by rw [Y.suppType]; exact fits_refV_object _ sen))
    (Takes.of_laid hk hord tyM (by rw [Y.msgType]; exact fits_refV_object _ ⟨msg, hmsg⟩)) Y.objLocals hskip htr [] hd6
    (by simp only [List.length_cons, hlen]; omega) (by simp only [List.length_cons, hlen]; exact hRl)
  obtain ⟨hwalk, hrun, hended, hWU, hsame⟩ := X₂.athrowLeaves hx (g := { g with stack := .ref a :: rest, pc := g.pc + 3 }) hg hlocked hentered hout (a := a) (rest := rest) rfl hd9
  have hlt : a < ((V9.setVm vm₁).setVm vm₂).heap.size := (Array.getElem?_eq_some_iff.mp hcell).1
  have hU := heapAt_setCell_self (s := (V9.setVm vm₁).setVm vm₂) (plainBareV T.toThrowableT (freshCell P1.m.cls kX) a u0 sen msg) hlt
  refine ⟨_, st1 _ (fun acts => ?_), hrun, hended, hWU, hsame.weaken (fun y hy hlt' => ?_) (Nat.le_refl _) (Nat.le_refl _), _, hU, rfl, hfound⟩
  · rw [doInvoke_state]
    exact st2 _ hwalk
  · rcases List.mem_append.mp hy with h1 | h1
    · exact h1
    · exfalso
      have hb : y.base = a := by
        simp only [List.mem_cons, List.not_mem_nil, or_false] at h1
        rcases h1 with rfl | rfl | rfl | rfl | rfl <;> rfl
      rw [hb] at hlt'
      exact Nat.not_lt.mpr hnew hlt'
end TJ
section TI
variable {p : Program} {l : Launch} {e : Env} {R : Room} {s : State} {m : MethodId} {args : Array Value} {below : List Frame} {meth : Method} {c : Code} {H : Heap} {locs : List Loc} {cells slots : Nat} {Q : State → Prop}
variable {Ts : List Cond} {D : va_G} {cl : List vw_C} {tys : List (ClassId × FieldType)} {A : Nat → Prop} {Z : State → Heap → Prop} {w : va_W} {pc : Nat} {ls : Array Slot} {rest : List Value} {cc : ByteArray} {Po : Option Value → va_W → Prop} {Xo : String → va_W → Prop} {mc ms : Nat}
theorem t_str_vm {u U : State} {A A' : Array Value} {cl t : String} {i : Nat} (h : u.vm = U.vm) (hp : (Cond.stringRef cl i t).before A u = true) : (Cond.stringRef cl i t).before A' U = true := by
  simp only [Cond.before, Cond.holds, Cond.value, State.names, State.poolOf?, State.resolvedAt?, ← h] at hp ⊢
  exact hp
/-- the words of a throw that speak of the heap -/
def tX4 : List Cond := [.isRef (.static Bundle.tN "UNASSIGNED_STACK" Bundle.steD), .isRef (.static Bundle.tN "SUPPRESSED_SENTINEL" Bundle.listD), .laysStatic Bundle.tN "UNASSIGNED_STACK" Bundle.steD, .laysStatic Bundle.tN "SUPPRESSED_SENTINEL" Bundle.listD]
/-- 'throw new E("text")': new; dup; ldc; invokespecial; athrow, in a method that doesn't catch it -/
theorem t_throw (hx : p.tables.exec = Jvm.exec) (hb : c.code = cc) (hl : l.stackTraces = false) {own cls text Y9 : String} {r9 : List String} {X4 : List Cond} {ik is ic ix : Nat} {by9 : ByteArray}
    (b0 : decode by9 0 = .ok (.aload_n 0, 1)) (b1 : decode by9 1 = .ok (.aload_n 1, 1)) (b2 : decode by9 2 = .ok (.invokespecial ix, 3)) (b5 : decode by9 5 = .ok (.return_, 1))
    (hown : s.vm.findClass own = some m.cls) (hG : GoodIn Ts Ts) (hts : ∀ z ∈ Ts, z.before args s = true) (hcls : Bundle.fit cls = true) (hY9 : Bundle.fit Y9 = true) (hr9 : ∀ n ∈ r9, Bundle.fit n = true)
    (hk : Cond.classLink own ik cls ∈ Ts) (hini : Cond.initialized cls ∈ Ts) (hstr : (Cond.stringRef own is text).before args s = true) (hat : ∀ z ∈ tAtoms own ic cls ix by9 Y9 r9, z ∈ Ts ∨ z ∈ X4)
    (hZc : tZ A Z) (hZ4 : ∀ U : State, Z U U.heap → ∀ z ∈ X4, z.before args U = true) (hC : tC D cl tys A Z s w H locs) (hsize : ls.size = c.maxLocals) (hex : ∀ x ∈ c.exceptionTable.toList, False) (hlk : meth.locks = false)
    (d0 : decode cc pc = .ok (.new ik, 3)) (d3 : decode cc (pc + 3) = .ok (.dup, 1)) (d4 : decode cc (pc + 4) = .ok (.ldc is, 2)) (d6 : decode cc (pc + 6) = .ok (.invokespecial ic, 3)) (d9 : decode cc (pc + 9) = .ok (.athrow, 1))
    (hrm : r9.length + 4 < R.frames ∧ (rest.map fun v => v.category).sum + (13 * (r9.length + 2) + 43) ≤ R.locals ∧ cells + 1 ≤ R.cells ∧ slots + 6 ≤ R.slots) (h1 : cells + 1 ≤ mc) (h2 : slots + 6 ≤ ms) (hp : Xo cls w) :
    W p l e R s m args below meth c H locs cells slots (tE below (tR D cl tys A Z Po) (tR D cl tys A Z Xo) mc ms A args s) (F0 m pc ls rest) := by
  intro T hT X
  obtain ⟨hRf, hRl, hRc, hRs⟩ := hrm
  have htr : e.platform.stackTraces = false := (show e.platform.stackTraces = l.stackTraces by rw [X.admits.platform]).trans hl
  have Y := t_rebase X (R' := { frames := R.frames, locals := R.locals, cells := 1, slots := 6 }) (Nat.le_refl _) (Nat.le_refl _) hRc hRs
  obtain ⟨s', hs'⟩ : ∃ z, z = (T.setVm s.vm).setFrames (.invoking m args :: below) := ⟨_, rfl⟩
  rw [← hs'] at Y
  have hvm : s'.vm = s.vm := by rw [hs']; rfl
  have hhp : s'.heap = H := by rw [hs']; exact hT
  have hW0 : s.WarmedH s'.vm := by rw [hvm]; exact State.WarmedH.refl s
  have hts' : ∀ z ∈ Ts, z.before args s' = true := fun z hz => word_at hW0 (hG z hz).2 (hts z hz)
  have hZs : Z s' s'.heap := by rw [hhp]; exact hZc.2 s' s.heap H hC.2.2.1.2.1 (hZc.1 s s' s.heap hW0 hC.2.2.2.2.2)
  have h : ∀ z ∈ tAtoms own ic cls ix by9 Y9 r9, z.before args s' = true := fun z hz => (hat z hz).elim (hts' z) (hZ4 s' hZs z)
  have hown' : s'.vm.findClass own = some m.cls := by rw [hvm]; exact hown
  have hins : (Cond.instantiable cls 6).before args s' = true := h _ (by simp [tAtoms])
  have hstr' : (Cond.stringRef own is text).before args s' = true := by
    have h9 := Cond.stringRef_warmed (args := args) hW0 hstr
    exact t_str_vm (by rw [hvm]; rfl) h9
  obtain ⟨k9, cf9, i9, sa, -, -, -, -, -, hev⟩ := Cond.stringRef_spec hown' hstr'
  obtain ⟨vm₁, cX, kX, hfX, hkX, -, -, X₁, st1⟩ := Y.newCold hx (own := own) (C := cls) (index := ik) (n := 6) hown' (hts' _ hk) hins (hts' _ hini) (g := F0 m pc ls rest) rfl (by rw [hb]; exact d0) (Nat.le_refl _) (Nat.le_refl _)
  generalize hT1 : (T.setVm vm₁).pushCell { cls := cX, slots := kX.instanceTypes.map defaultValue, vm := .none } = T1 at X₁ st1
  have hcat : (Value.ref T.heap.size).category = 1 := rfl
  have hcellA : T1.heap[T.heap.size]? = some (freshCell cX kX) := by rw [← hT1]; exact State.heap_pushCell_size _ _
  have d3' : decode c.code (pc + 3) = .ok (.dup, 1) := by rw [hb]; exact d3
  have d4' : decode c.code (pc + 4) = .ok (.ldc is, 2) := by rw [hb]; exact d4
  obtain ⟨U, hsteps, hrun, hend, hW, hsame, ce, hce, hOv, hOc⟩ := t_ctor X₁ hx htr b0 b1 b2 b5 hown' hcls hY9 hr9 h hfX hkX hcellA (by rw [hhp, hT]; exact Nat.le_refl _) rfl (msg := .ref sa) rfl
    (g := { method := m, pc := pc + 6, locals := ls, stack := .ref sa :: .ref T.heap.size :: .ref T.heap.size :: rest, locked := none }) rfl hsize rfl rfl (rest := rest) rfl
    (by rw [hb]; exact d6) (by rw [hb]; exact d9) (fun x hx => (hex x hx).elim) hRf (by simp only [List.map_cons, List.sum_cons, hcat]; omega) hlk
  obtain ⟨f1, f2⟩ := t_frameOf hsame
  rw [hhp] at f1 f2
  have hWs : s.WarmedH U.vm := State.WarmedH.trans hW0 hW
  have hcl : s.vm.findClass cls = some ce.cls := by
    rw [hvm] at hOc
    exact hOc
  have hall : s.sameButNew ({ U with vm := s.vm } : State) locs mc ms := by
    subst hs'
    obtain ⟨e1, e2⟩ := hsame
    rw [State.setFrames_setFrames] at e1
    have h8 : (T.setVm s.vm).sameButNew ({ U with vm := s.vm } : State) [] (0 + 1) (0 + 6) := ⟨e1, e2⟩
    have h3 := X.same.trans h8
    rw [List.append_nil] at h3
    exact h3.mono h1 h2
  obtain ⟨hP, hD, hS, hK, hA, hZ⟩ := hC
  have hS2 : va_S A s.heap U.heap locs := ⟨Nat.le_trans hS.1 f1, fun q q1 q2 => by rw [f2 q (Nat.lt_of_lt_of_le q1 hS.1)]; exact hS.2.1 q q1 q2, hS.2.2⟩
  have hC2 : tC D cl tys A Z s w U.heap locs := ⟨hP.kept (fun k q hk => f2 q.1 (hP k q hk).lt), hD, hS2, hK, hA, hZ⟩
  refine ⟨U, ?_, .threw T.heap.size, hrun, hend, Or.inr ⟨T.heap.size, cls, ce, locs, rfl, ⟨hS2.F rfl, w, hp, hC2.tw hZc rfl hWs⟩, hce, hOv, hcl, hWs, hall, hS.2.2⟩⟩
  refine st1 _ ?_
  show Steps p.tables e below (T1.setTop { method := m, pc := pc + 3, locals := ls, stack := .ref T.heap.size :: rest, locked := none }) _
  jvm_step X₁.here [X₁.here.top, hx, d3', Value.category]
  exact X₁.ldcString hx (own := own) (text := text) (index := is) (a := sa) hown' hstr' hev
    (g := { method := m, pc := pc + 4, locals := ls, stack := .ref T.heap.size :: .ref T.heap.size :: rest, locked := none }) rfl d4' _ hsteps
end TI
end
section
/-! Pure words: rows of the table of versions, the log; the latest version of a key -/
abbrev RW : Type := Nat → Int32
def rw0 : RW := fun _ => 0
def rw_at (rows : List RW) (i : Nat) : RW := rows.getD i rw0
def lg_mix (ch : Int64) (x : Int32) : Int64 := (ch ^^^ x.toInt64) * 1099511628211
abbrev LG : Type := (Nat → Int32) × Nat × Int64
/-- an entry of four numbers -/
def lg_wr (L : LG) (a b c d : Int32) : LG := (upd (upd (upd (upd L.1 (L.2.1 % 64 * 4) a) (L.2.1 % 64 * 4 + 1) b) (L.2.1 % 64 * 4 + 2) c) (L.2.1 % 64 * 4 + 3) d, L.2.1 + 1, lg_mix (lg_mix (lg_mix (lg_mix L.2.2 a) b) c) d)
/-- the last row below n with this key -/
def rw_last (rows : List RW) (key : Int32) : Nat → Option Nat
  | 0 => none
  | i + 1 => if rw_at rows i 1 = key then some i else rw_last rows key i
def rw_latest (rows : List RW) (key : Int32) : Option Nat := rw_last rows key rows.length
theorem rw_last_some {rows : List RW} {key : Int32} {o : Nat} : ∀ {n : Nat}, rw_last rows key n = some o ↔ o < n ∧ rw_at rows o 1 = key ∧ ∀ j, o < j → j < n → rw_at rows j 1 ≠ key := by
  intro n
  induction n with
  | zero => simp [rw_last]
  | succ n ih =>
    unfold rw_last
    by_cases h : rw_at rows n 1 = key
    · rw [if_pos h]
      constructor
      · intro e
        cases e
        exact ⟨by omega, h, fun j h1 h2 => by omega⟩
      · rintro ⟨h1, h2, h3⟩
        by_cases ho : o = n
        · rw [ho]
        · exact absurd h (h3 n (by omega) (by omega))
    · rw [if_neg h, ih]
      constructor
      · rintro ⟨h1, h2, h3⟩
        refine ⟨by omega, h2, fun j h4 h5 => ?_⟩
        by_cases hj : j = n
        · rw [hj]; exact h
        · exact h3 j h4 (by omega)
      · rintro ⟨h1, h2, h3⟩
        have hn : o ≠ n := fun e => h (e ▸ h2)
        exact ⟨by omega, h2, fun j h4 h5 => h3 j h4 (by omega)⟩
theorem rw_last_none {rows : List RW} {key : Int32} : ∀ {n : Nat}, rw_last rows key n = none ↔ ∀ j, j < n → rw_at rows j 1 ≠ key := by
  intro n
  induction n with
  | zero => simp [rw_last]
  | succ n ih =>
    unfold rw_last
    by_cases h : rw_at rows n 1 = key
    · rw [if_pos h]
      constructor
      · intro e; cases e
      · intro h1; exact absurd h (h1 n (by omega))
    · rw [if_neg h, ih]
      constructor
      · intro h1 j hj
        by_cases hn : j = n
        · rw [hn]; exact h
        · exact h1 j (by omega)
      · intro h1 j hj
        exact h1 j (by omega)
theorem rw_at_get {rows : List RW} {i : Nat} (h : i < rows.length) : rw_at rows i = rows[i] := by
  simp [rw_at, List.getD_eq_getElem?_getD, List.getElem?_eq_getElem h]
theorem rw_at_map {α : Type} {vs : List α} {fv : α → RW} {i : Nat} {a : α} (h : vs[i]? = some a) : rw_at (vs.map fv) i = fv a := by
  simp [rw_at, List.getD_eq_getElem?_getD, List.getElem?_map, h]
theorem rw_at_set {rows : List RW} {i j : Nat} {r : RW} (h : i < rows.length) : rw_at (rows.set i r) j = if j = i then r else rw_at rows j := by
  by_cases hj : j = i
  · subst hj
    simp [rw_at, List.getD_eq_getElem?_getD, List.getElem?_set_self h]
  · simp [rw_at, List.getD_eq_getElem?_getD, List.getElem?_set_ne (Ne.symm hj), hj]
theorem rw_at_app {rows : List RW} {j : Nat} {r : RW} (h : j ≤ rows.length) : rw_at (rows ++ [r]) j = if j = rows.length then r else rw_at rows j := by
  by_cases hj : j = rows.length
  · subst hj
    simp [rw_at, List.getD_eq_getElem?_getD]
  · have h1 : j < rows.length := by omega
    simp [rw_at, List.getD_eq_getElem?_getD, List.getElem?_append_left h1, hj]
theorem rw_at_erase {rows : List RW} {i j : Nat} : rw_at (rows.eraseIdx i) j = if j < i then rw_at rows j else rw_at rows (j + 1) := by
  simp only [rw_at, List.getD_eq_getElem?_getD, List.getElem?_eraseIdx]
  by_cases h : j < i <;> simp [h]
theorem rw_last_congr {r1 r2 : List RW} {key : Int32} : ∀ {n : Nat}, (∀ j, j < n → rw_at r1 j 1 = rw_at r2 j 1) → rw_last r1 key n = rw_last r2 key n := by
  intro n
  induction n with
  | zero => intro _; rfl
  | succ n ih =>
    intro h
    unfold rw_last
    rw [h n (by omega), ih (fun j hj => h j (by omega))]
/-- the class's table with a row more: the latest of its key is current no more, and has ceased today -/
def rw_old (rows : List RW) (day key : Int32) : List RW := match rw_latest rows key with
  | none => rows
  | some o => rows.set o (upd (upd (rw_at rows o) 6 0) 7 day)
def rw_add (rows : List RW) (day : Int32) (row : RW) : List RW := rw_old rows day (row 1) ++ [row]
/-- a row less: the latest that is left of its key is current -/
def rw_new (rows : List RW) (key : Int32) : List RW := match rw_latest rows key with
  | none => rows
  | some o => rows.set o (upd (rw_at rows o) 6 1)
def rw_take (rows : List RW) (i : Nat) : List RW := rw_new (rows.eraseIdx i) (rw_at rows i 1)
/-- column 6 says which rows are current -/
def rw_CurOK (rows : List RW) : Prop := ∀ i, i < rows.length → rw_at rows i 6 = if rw_latest rows (rw_at rows i 1) = some i then 1 else 0
theorem rw_old_len {rows : List RW} {day key : Int32} : (rw_old rows day key).length = rows.length := by
  unfold rw_old; split <;> simp
theorem rw_new_len {rows : List RW} {key : Int32} : (rw_new rows key).length = rows.length := by
  unfold rw_new; split <;> simp
theorem rw_old_at {rows : List RW} {day key : Int32} {j : Nat} : rw_at (rw_old rows day key) j = if rw_latest rows key = some j then upd (upd (rw_at rows j) 6 0) 7 day else rw_at rows j := by
  unfold rw_old
  cases h : rw_latest rows key with
  | none => simp
  | some o =>
    have ho := (rw_last_some.mp h).1
    simp only
    rw [rw_at_set ho]
    by_cases hj : j = o
    · subst hj; simp
    · rw [if_neg hj, if_neg (fun e => hj (Option.some.inj e).symm)]
theorem rw_new_at {rows : List RW} {key : Int32} {j : Nat} : rw_at (rw_new rows key) j = if rw_latest rows key = some j then upd (rw_at rows j) 6 1 else rw_at rows j := by
  unfold rw_new
  cases h : rw_latest rows key with
  | none => simp
  | some o =>
    have ho := (rw_last_some.mp h).1
    simp only
    rw [rw_at_set ho]
    by_cases hj : j = o
    · subst hj; simp
    · rw [if_neg hj, if_neg (fun e => hj (Option.some.inj e).symm)]
theorem rw_upd_ne {r : RW} {k j : Nat} {x : Int32} (h : j ≠ k) : upd r k x j = r j := by simp [upd, h]
theorem rw_upd_eq {r : RW} {k : Nat} {x : Int32} : upd r k x k = x := by simp [upd]
theorem rw_old_key {rows : List RW} {day key : Int32} {j : Nat} : rw_at (rw_old rows day key) j 1 = rw_at rows j 1 := by
  rw [rw_old_at]; split <;> simp [upd]
theorem rw_new_key {rows : List RW} {key : Int32} {j : Nat} : rw_at (rw_new rows key) j 1 = rw_at rows j 1 := by
  rw [rw_new_at]; split <;> simp [upd]
theorem rw_new_latest {rows : List RW} {key k : Int32} : rw_latest (rw_new rows key) k = rw_latest rows k := by
  unfold rw_latest
  rw [rw_new_len]
  exact rw_last_congr (fun j _ => rw_new_key)
theorem rw_add_latest {rows : List RW} {day k : Int32} {row : RW} : rw_latest (rw_add rows day row) k = if row 1 = k then some rows.length else rw_latest rows k := by
  unfold rw_latest rw_add
  have hl : (rw_old rows day (row 1) ++ [row]).length = rows.length + 1 := by simp [rw_old_len]
  rw [hl]
  show (if rw_at (rw_old rows day (row 1) ++ [row]) rows.length 1 = k then some rows.length else rw_last (rw_old rows day (row 1) ++ [row]) k rows.length) = _
  have h1 : rw_at (rw_old rows day (row 1) ++ [row]) rows.length = row := by
    rw [rw_at_app (by rw [rw_old_len]; exact Nat.le_refl _), if_pos rw_old_len.symm]
  rw [h1]
  have h2 : rw_last (rw_old rows day (row 1) ++ [row]) k rows.length = rw_last rows k rows.length := rw_last_congr (fun j hj => by
    rw [rw_at_app (by rw [rw_old_len]; omega), if_neg (by rw [rw_old_len]; omega), rw_old_key])
  rw [h2]
theorem rw_add_at {rows : List RW} {day : Int32} {row : RW} {j : Nat} (hj : j ≤ rows.length) : rw_at (rw_add rows day row) j = if j = rows.length then row else if rw_latest rows (row 1) = some j then upd (upd (rw_at rows j) 6 0) 7 day else rw_at rows j := by
  unfold rw_add
  rw [rw_at_app (by rw [rw_old_len]; exact hj), rw_old_len, rw_old_at]
theorem rw_add_cur {rows : List RW} {day : Int32} {row : RW} (h : rw_CurOK rows) (hr : row 6 = 1) : rw_CurOK (rw_add rows day row) := by
  intro i hi
  have hi2 : i ≤ rows.length := by
    have hl : (rw_add rows day row).length = rows.length + 1 := by simp [rw_add, rw_old_len]
    omega
  rw [rw_add_latest, rw_add_at hi2]
  by_cases hn : i = rows.length
  · rw [if_pos hn, hr, if_pos rfl, if_pos (congrArg some hn.symm)]
  · have hlt : i < rows.length := by omega
    rw [if_neg hn]
    by_cases ho : rw_latest rows (row 1) = some i
    · rw [if_pos ho]
      have hk := (rw_last_some.mp ho).2.1
      have e6 : upd (upd (rw_at rows i) 6 0) 7 day 6 = 0 := by simp [upd]
      have e1 : upd (upd (rw_at rows i) 6 0) 7 day 1 = row 1 := by simp [upd]; exact hk
      rw [e6, e1, if_pos rfl, if_neg (fun e => hn (Option.some.inj e).symm)]
    · rw [if_neg ho, h i hlt]
      by_cases hk : row 1 = rw_at rows i 1
      · rw [if_pos hk, if_neg (fun e => hn (Option.some.inj e).symm), if_neg (by rw [← hk]; exact ho)]
      · rw [if_neg hk]
/-- places of the table behind a row taken away -/
def rw_up (i j : Nat) : Nat := if j < i then j else j + 1
theorem rw_erase_up {rows : List RW} {i j : Nat} : rw_at (rows.eraseIdx i) j = rw_at rows (rw_up i j) := by
  rw [rw_at_erase]; unfold rw_up; split <;> rfl
theorem rw_erase_some {rows : List RW} {i j : Nat} {k : Int32} (hi : i < rows.length) (h : rw_latest rows k = some (rw_up i j)) : rw_latest (rows.eraseIdx i) k = some j := by
  obtain ⟨h1, h2, h3⟩ := rw_last_some.mp h
  have hl : (rows.eraseIdx i).length = rows.length - 1 := by rw [List.length_eraseIdx, if_pos hi]
  refine rw_last_some.mpr ⟨?_, ?_, ?_⟩
  · unfold rw_up at h1; split at h1 <;> omega
  · rw [rw_erase_up]; exact h2
  · intro x hx1 hx2
    rw [rw_erase_up]
    refine h3 _ ?_ ?_
    · unfold rw_up; split <;> split <;> omega
    · unfold rw_up; split <;> omega
theorem rw_erase_back {rows : List RW} {i j : Nat} {k : Int32} (hi : i < rows.length) (hk : rw_at rows i 1 ≠ k) (h : rw_latest (rows.eraseIdx i) k = some j) : rw_latest rows k = some (rw_up i j) := by
  obtain ⟨h1, h2, h3⟩ := rw_last_some.mp h
  have hl : (rows.eraseIdx i).length = rows.length - 1 := by rw [List.length_eraseIdx, if_pos hi]
  refine rw_last_some.mpr ⟨?_, ?_, ?_⟩
  · unfold rw_up; split <;> omega
  · rw [← rw_erase_up]; exact h2
  · intro x hx1 hx2
    by_cases hx : x = i
    · rw [hx]; exact hk
    · have hx3 : ∃ y, rw_up i y = x := by
        by_cases hxi : x < i
        · exact ⟨x, by unfold rw_up; rw [if_pos hxi]⟩
        · exact ⟨x - 1, by unfold rw_up; split <;> omega⟩
      obtain ⟨y, hy⟩ := hx3
      rw [← hy, ← rw_erase_up]
      refine h3 y ?_ ?_
      · rw [← hy] at hx1
        unfold rw_up at hx1
        split at hx1 <;> split at hx1 <;> omega
      · rw [← hy] at hx2
        unfold rw_up at hx2
        split at hx2 <;> omega
theorem rw_take_cur {rows : List RW} {i : Nat} (h : rw_CurOK rows) (hi : i < rows.length) : rw_CurOK (rw_take rows i) := by
  intro j hj
  unfold rw_take at hj ⊢
  rw [rw_new_len, List.length_eraseIdx, if_pos hi] at hj
  rw [rw_new_latest, rw_new_at]
  have hup : rw_up i j < rows.length := by unfold rw_up; split <;> omega
  have hne : rw_up i j ≠ i := by unfold rw_up; split <;> omega
  have h9 := h _ hup
  by_cases ho : rw_latest (rows.eraseIdx i) (rw_at rows i 1) = some j
  · have hk := (rw_last_some.mp ho).2.1
    have e6 : upd (rw_at (rows.eraseIdx i) j) 6 1 6 = 1 := rw_upd_eq
    have e1 : upd (rw_at (rows.eraseIdx i) j) 6 1 1 = rw_at rows i 1 := by rw [rw_upd_ne (by decide)]; exact hk
    rw [if_pos ho, e6, e1, if_pos ho]
  · rw [if_neg ho, rw_erase_up, h9]
    by_cases hk : rw_at rows i 1 = rw_at rows (rw_up i j) 1
    · rw [← hk, if_neg (fun e => ho (rw_erase_some hi e)), if_neg ho]
    · by_cases hy : rw_latest rows (rw_at rows (rw_up i j) 1) = some (rw_up i j)
      · rw [if_pos hy, if_pos (rw_erase_some hi hy)]
      · rw [if_neg hy, if_neg (fun e => hy (rw_erase_back hi hk e))]
end
section
/-! What holds at the start and stays: statics of Throwable and ArrayList, words that warmer tables keep. Laid by program (wip/whole/zz.py) -/
def zD : List MethodName := [⟨"java/lang/RuntimeException", "<init>", "()V"⟩, ⟨"java/lang/RuntimeException", "<init>", "(Ljava/lang/String;)V"⟩, ⟨"java/lang/Exception", "<init>", "()V"⟩, ⟨"java/lang/Exception", "<init>", "(Ljava/lang/String;)V"⟩, ⟨"java/lang/Throwable", "<init>", "()V"⟩, ⟨"java/lang/Throwable", "<init>", "(Ljava/lang/String;)V"⟩, ⟨"java/lang/Object", "getClass", "()Ljava/lang/Class;"⟩]
def zC : List (String × String) := [("java/lang/IllegalArgumentException", "java/lang/IllegalArgumentException"), ("java/lang/IllegalStateException", "java/lang/IllegalStateException"), ("java/util/NoSuchElementException", "java/util/NoSuchElementException"), ("java/lang/IndexOutOfBoundsException", "java/lang/IndexOutOfBoundsException"), ("RetentionVault$Version", "RetentionVault$Version"), ("RetentionVault", "java/lang/Object"), ("RetentionVault$Rule", "java/lang/Object"), ("RetentionVault$Log", "java/lang/Object"), ("RetentionVaultModel", "java/lang/Object"), ("RetentionVault$Version", "java/lang/Object"), ("java/lang/String", "java/lang/Object")]
def zN : List (String × Nat × MethodName × String) := [("RetentionVault", 22, ⟨"RetentionVault$Rule", "<init>", "()V"⟩, "RetentionVault"), ("RetentionVault", 25, ⟨"RetentionVault$Log", "<init>", "()V"⟩, "RetentionVault")]
def zO : List String := ["RetentionVault$Rule", "java/lang/Object"]
def zT : List (Nat × String) := [(198, "an argument is out of its range"), (203, "there are 40 versions"), (222, "the key has no current object"), (211, "there is no version with this number"), (82, "the version is guarded"), (217, "the version is a marker"), (100, "strict retention cannot be weakened"), (129, "the object is not cold"), (143, "the object is cold and not fetched for this day"), (169, "what is not 0 .. 7"), (177, "there is no such entry, or none any more"), (196, "k is not 0 .. 5")]
def zX : List (String × String) := [("java/lang/IllegalArgumentException", "java/lang/IllegalStateException"), ("java/lang/IllegalArgumentException", "java/util/NoSuchElementException"), ("java/lang/IllegalArgumentException", "java/lang/IndexOutOfBoundsException"), ("java/lang/IllegalStateException", "java/lang/IllegalArgumentException"), ("java/lang/IllegalStateException", "java/util/NoSuchElementException"), ("java/lang/IllegalStateException", "java/lang/IndexOutOfBoundsException"), ("java/util/NoSuchElementException", "java/lang/IllegalArgumentException"), ("java/util/NoSuchElementException", "java/lang/IllegalStateException"), ("java/util/NoSuchElementException", "java/lang/IndexOutOfBoundsException"), ("java/lang/IndexOutOfBoundsException", "java/lang/IllegalArgumentException"), ("java/lang/IndexOutOfBoundsException", "java/lang/IllegalStateException"), ("java/lang/IndexOutOfBoundsException", "java/util/NoSuchElementException")]
def zz (e0 : Nat → Nat) (A : Nat → Prop) (U : State) (H : Heap) : Prop :=
  (∃ v : Value, v.isRef = true ∧ tS Bundle.tN "UNASSIGNED_STACK" Bundle.steD v A U H) ∧ (∃ v : Value, v.isRef = true ∧ tS Bundle.tN "SUPPRESSED_SENTINEL" Bundle.listD v A U H) ∧
  (tS "java/util/ArrayList" "DEFAULTCAPACITY_EMPTY_ELEMENTDATA" "[Ljava/lang/Object;" (.ref (e0 0)) A U H ∧ ¬ A (e0 0) ∧ ∃ cell : Cell, H[e0 0]? = some cell ∧ U.isArrayOf cell (.object "java/lang/Object") ∧ cell.vm ≠ .unknown ∧ cell.slots.size = 0) ∧
  (∀ y ∈ zD, va_Nw (.declares y) U) ∧ (∀ q ∈ zC, va_Nw (.castable q.1 q.2) U) ∧ (∀ q ∈ zN, va_Nw (.methodLinkNest q.1 q.2.1 q.2.2.1 q.2.2.2) U) ∧ (∀ C ∈ zO, va_AO C U) ∧ (∀ q ∈ zT, va_Nw (.stringRef "RetentionVault" q.1 q.2) U) ∧ (∀ q ∈ zX, va_Nc q.1 q.2 U) ∧ va_Mi "[Ljava/lang/Object;" (e0 1) U
theorem zz_c {e0 : Nat → Nat} {A : Nat → Prop} : tZ A (zz e0 A) := by
  constructor
  · intro u U H hW h
    obtain ⟨⟨v1, a1, b1⟩, ⟨v2, a2, b2⟩, ⟨h3, h4, cell, h5, h6, h7⟩, hD, hC, hN, hO, hT, hX, hMi⟩ := h
    refine ⟨⟨v1, a1, b1.moved hW.alike⟩, ⟨v2, a2, b2.moved hW.alike⟩, ⟨h3.moved hW.alike, h4, cell, h5, State.isArrayOf_alike hW.alike h6, h7⟩, fun y hy => va_Nw.warmD hW (hD y hy), fun q hq => va_Nw.warmC hW (hC q hq), fun q hq => va_Nw.warmM hW (hN q hq), fun C hC => (hO C hC).moved hW.alike, fun q hq => ?_, fun q hq => (hX q hq).moved hW.alike, hMi.moved hW.alike⟩
    exact t_str_vm (rfl : (u.setVm U.vm).vm = U.vm) (Cond.stringRef_warmed (args := #[]) hW (hT q hq))
  · intro U H H1 hq h
    obtain ⟨⟨v1, a1, b1⟩, ⟨v2, a2, b2⟩, ⟨h3, h4, cell, h5, h6⟩, h7⟩ := h
    exact ⟨⟨v1, a1, b1.kept hq⟩, ⟨v2, a2, b2.kept hq⟩, ⟨h3.kept hq, h4, cell, by rw [hq (e0 0) (Array.getElem?_eq_some_iff.mp h5).1 h4]; exact h5, h6⟩, h7⟩
def zX4 : List Cond := tX4 ++ (zD.map Cond.declares ++ zC.map (fun q => Cond.castable q.1 q.2))
theorem zz_X4 {e0 : Nat → Nat} {A : Nat → Prop} {args : Array Value} (U : State) (h : zz e0 A U U.heap) : ∀ z ∈ zX4, z.before args U = true := by
  obtain ⟨⟨v1, a1, b1⟩, ⟨v2, a2, b2⟩, -, hD, hC, -⟩ := h
  intro z hz
  rcases List.mem_append.mp hz with hz | hz
  · simp only [tX4, List.mem_cons, List.not_mem_nil, or_false] at hz
    rcases hz with rfl | rfl | rfl | rfl
    · exact b1.isRef a1
    · exact b2.isRef a2
    · exact b1.lays
    · exact b2.lays
  · rcases List.mem_append.mp hz with hz | hz
    · obtain ⟨y, hy, rfl⟩ := List.mem_map.mp hz
      exact va_Nw.use rfl (hD y hy)
    · obtain ⟨q, hq, rfl⟩ := List.mem_map.mp hz
      exact va_Nw.use rfl (hC q hq)
theorem zz_str {e0 : Nat → Nat} {A : Nat → Prop} {args : Array Value} {U : State} {H : Heap} (h : zz e0 A U H) {k : Nat} {t : String} (hk : (k, t) ∈ zT) : (Cond.stringRef "RetentionVault" k t).before args U = true := t_str_vm rfl (h.2.2.2.2.2.2.2.1 (k, t) hk)
end
section
/-! The class's world: vault, list, Rule[], log, ring; the pools of versions and of rules; whatever else -/
abbrev ty0 (ca : Nat → ClassId) : List (ClassId × FieldType) := [(ca 0, .int), (ca 1, .boolean), (ca 2, .long), (ca 3, .object "java/lang/Object"), (ca 4, .object "RetentionVault$Rule")]
def wF (K : Nat → Nat) (ca : Nat → ClassId) (RL : List Nat) (day ever mo n : Int32) (ea : Nat) (wr : Int32) (ch : Int64) (ring : Nat → Int32) : va_W := [
  (K 0, .inr (0, [.ref (K 1), .ref (K 2), .ref (K 3), .int day, .int ever])),
  (K 1, .inr (5, [.int mo, .ref ea, .int n])),
  (K 2, .inl (ca 4, 6, .inr (.inr (.inr (.inr (fun i => RL[i]?)))))),
  (K 3, .inr (1, [.ref (K 4), .int wr, .long ch])),
  (K 4, .inl (ca 0, 256, .inl ring))]
def wC (K : Nat → Nat) (ca : Nat → ClassId) (RL LP : List Nat) (fv FR : Nat → RW) (day ever mo n : Int32) (ea : Nat) (wr : Int32) (ch : Int64) (ring : Nat → Int32) (rest : va_W) : va_W :=
  wF K ca RL day ever mo n ea wr ch ring ++ (va_pl LP (tO 3 13 fv) ++ (va_pl RL (tO 2 4 FR) ++ rest))
section CW
variable {D : va_G} {cl : List vw_C} {tys : List (ClassId × FieldType)} {A : Nat → Prop} {Z : State → Heap → Prop} {s : State} {H : Heap} {locs : List Loc}
variable {K : Nat → Nat} {ca : Nat → ClassId} {RL LP : List Nat} {fv FR : Nat → RW} {day ever mo n : Int32} {ea : Nat} {wr : Int32} {ch : Int64} {ring : Nat → Int32} {rest : va_W}
/-- .. seen from the rules -/
theorem wC_R (hC : tC D cl tys A Z s (wC K ca RL LP fv FR day ever mo n ea wr ch ring rest) H locs) : tC D cl tys A Z s ((wF K ca RL day ever mo n ea wr ch ring ++ va_pl LP (tO 3 13 fv)) ++ (va_pl RL (tO 2 4 FR) ++ rest)) H locs := by
  rw [List.append_assoc]; exact hC
theorem wC_ofR (hC : tC D cl tys A Z s ((wF K ca RL day ever mo n ea wr ch ring ++ va_pl LP (tO 3 13 fv)) ++ (va_pl RL (tO 2 4 FR) ++ rest)) H locs) : tC D cl tys A Z s (wC K ca RL LP fv FR day ever mo n ea wr ch ring rest) H locs := by
  rw [List.append_assoc] at hC; exact hC
end CW
abbrev tB (p : Program) (l : Launch) (e : Env) (rm : Room) (s : State) (m : MethodId) (av : List Value) (below : List Frame) (meth : Method) (c : Code) (D : va_G) (tys : List (ClassId × FieldType)) (A : Nat → Prop) (Z : State → Heap → Prop) (Po : Option Value → va_W → Prop) (Xo : String → va_W → Prop) (H : Heap) (locs : List Loc) (cells slots : Nat) (g : JFrame) : Prop :=
  W p l e rm s m av.toArray below meth c H locs cells slots (tE below (tR D cls tys A Z Po) (tR D cls tys A Z Xo) rm.cells rm.slots A av.toArray s) g
/-- a method that answers r and changes nothing -/
def pR (r : Value) (w : va_W) : Option Value → va_W → Prop := fun v w2 => v = some r ∧ w2 = w
def pN (w : va_W) : Option Value → va_W → Prop := fun v w2 => v = none ∧ w2 = w
def xN : String → va_W → Prop := fun _ _ => False
def xE (E : String) (w : va_W) : String → va_W → Prop := fun E2 w2 => E2 = E ∧ w2 = w
/-- a truth as an int -/
def bI (q : Prop) [Decidable q] : Int32 := if q then 1 else 0
theorem bI_t {q : Prop} [Decidable q] (h : q) : bI q = 1 := if_pos h
theorem bI_f {q : Prop} [Decidable q] (h : ¬ q) : bI q = 0 := if_neg h
theorem bI_01 {q : Prop} [Decidable q] : bI q = 0 ∨ bI q = 1 := by unfold bI; by_cases h : q <;> simp [h]
theorem bI_ne {q : Prop} [Decidable q] : bI q = 0 ↔ ¬ q := by unfold bI; by_cases h : q <;> simp [h]
end
section
/-! Version: what its small methods answer, in any world with versions. Laid by program (wip/whole/p10.py) -/
set_option maxRecDepth 100000 in
set_option maxHeartbeats 4000000 in
theorem c_N_isMarker {l : Launch} {D : va_G} {tys : List (ClassId × FieldType)} {A : Nat → Prop} {Z : State → Heap → Prop} (hZc : tZ A Z) {X r : va_W} {L : List Nat} {fv : Nat → RW} {a : Nat} (ha : a ∈ L) : tM l y_N_isMarker tb ({ frames := 0, cells := 0, slots := 0, locals := 0 }) D cls tys A Z [.ref a] (X ++ (va_pl L (tO 3 13 fv) ++ r)) (pR (.int (bI (fv a 5 = -1))) (X ++ (va_pl L (tO 3 13 fv) ++ r))) (xN) := by
  refine t_ofW (by decide) w_375 (Nat.le_of_ble_eq_true rfl) ?_
  intro p e s m below meth c ls hx hb hr hts hown hlk hnm hml hex hl hC
  have hown : s.vm.findClass "RetentionVault$Version" = some m.cls := hown
  have hl : lv_has ls 1 [(0, .ref a)] := hl
  refine lv_aload_n hx hb d_N_isMarker_0 rfl (lv_at hl 0 rfl) ?_
  refine t_getP hx hb hts inN hown hC ha rfl 5 (by decide) (hts _ w_245) (fun _ h => h) d_N_isMarker_1 ?_
  refine lv_iconst (v := (-1)) hx hb d_N_isMarker_4 (by decide) ?_
  refine lv_icmp_ne (tgt := 12) hx hb d_N_isMarker_5 (by decide) (fun c5 => ?_) (fun c5 => ?_)
  · skip
    refine lv_iconst (v := 0) hx hb d_N_isMarker_12 (by decide) ?_
    exact t_zret hx hb hr hlk (Or.inl rfl) hZc hC (⟨by first | rfl | (simp only [bI, *]; rfl) | (simp [bI, *]; done) | (simp_all [bI, Int32.not_lt, Int32.not_le]; done) | (unfold bI; simp only [Int32.lt_iff_toInt_lt, Int32.le_iff_toInt_le] at *; split <;> first | rfl | (exfalso; omega)), rfl⟩) (Nat.le_of_ble_eq_true rfl) (Nat.le_of_ble_eq_true rfl) d_N_isMarker_13
  · skip
    refine lv_iconst (v := 1) hx hb d_N_isMarker_8 (by decide) ?_
    refine lv_goto (tgt := 13) hx hb d_N_isMarker_9 (by decide) ?_
    exact t_zret hx hb hr hlk (Or.inr rfl) hZc hC (⟨by first | rfl | (simp only [bI, *]; rfl) | (simp [bI, *]; done) | (simp_all [bI, Int32.not_lt, Int32.not_le]; done) | (unfold bI; simp only [Int32.lt_iff_toInt_lt, Int32.le_iff_toInt_le] at *; split <;> first | rfl | (exfalso; omega)), rfl⟩) (Nat.le_of_ble_eq_true rfl) (Nat.le_of_ble_eq_true rfl) d_N_isMarker_13

set_option maxRecDepth 100000 in
set_option maxHeartbeats 4000000 in
theorem c_N_isCold {l : Launch} {D : va_G} {tys : List (ClassId × FieldType)} {A : Nat → Prop} {Z : State → Heap → Prop} (hZc : tZ A Z) {X r : va_W} {L : List Nat} {fv : Nat → RW} {a : Nat} (ha : a ∈ L) : tM l y_N_isCold tb ({ frames := 0, cells := 0, slots := 0, locals := 0 }) D cls tys A Z [.ref a] (X ++ (va_pl L (tO 3 13 fv) ++ r)) (pR (.int (bI (2 ≤ fv a 5))) (X ++ (va_pl L (tO 3 13 fv) ++ r))) (xN) := by
  refine t_ofW (by decide) w_507 (Nat.le_of_ble_eq_true rfl) ?_
  intro p e s m below meth c ls hx hb hr hts hown hlk hnm hml hex hl hC
  have hown : s.vm.findClass "RetentionVault$Version" = some m.cls := hown
  have hl : lv_has ls 1 [(0, .ref a)] := hl
  refine lv_aload_n hx hb d_N_isCold_0 rfl (lv_at hl 0 rfl) ?_
  refine t_getP hx hb hts inN hown hC ha rfl 5 (by decide) (hts _ w_245) (fun _ h => h) d_N_isCold_1 ?_
  refine lv_iconst (v := 2) hx hb d_N_isCold_4 (by decide) ?_
  refine lv_icmp_lt (tgt := 12) hx hb d_N_isCold_5 (by decide) (fun c5 => ?_) (fun c5 => ?_)
  · skip
    refine lv_iconst (v := 0) hx hb d_N_isCold_12 (by decide) ?_
    exact t_zret hx hb hr hlk (Or.inl rfl) hZc hC (⟨by first | rfl | (simp only [bI, *]; rfl) | (simp [bI, *]; done) | (simp_all [bI, Int32.not_lt, Int32.not_le]; done) | (unfold bI; simp only [Int32.lt_iff_toInt_lt, Int32.le_iff_toInt_le] at *; split <;> first | rfl | (exfalso; omega)), rfl⟩) (Nat.le_of_ble_eq_true rfl) (Nat.le_of_ble_eq_true rfl) d_N_isCold_13
  · skip
    refine lv_iconst (v := 1) hx hb d_N_isCold_8 (by decide) ?_
    refine lv_goto (tgt := 13) hx hb d_N_isCold_9 (by decide) ?_
    exact t_zret hx hb hr hlk (Or.inr rfl) hZc hC (⟨by first | rfl | (simp only [bI, *]; rfl) | (simp [bI, *]; done) | (simp_all [bI, Int32.not_lt, Int32.not_le]; done) | (unfold bI; simp only [Int32.lt_iff_toInt_lt, Int32.le_iff_toInt_le] at *; split <;> first | rfl | (exfalso; omega)), rfl⟩) (Nat.le_of_ble_eq_true rfl) (Nat.le_of_ble_eq_true rfl) d_N_isCold_13

set_option maxRecDepth 100000 in
set_option maxHeartbeats 4000000 in
theorem c_N_since {l : Launch} {D : va_G} {tys : List (ClassId × FieldType)} {A : Nat → Prop} {Z : State → Heap → Prop} (hZc : tZ A Z) {X r : va_W} {L : List Nat} {fv : Nat → RW} {a : Nat} (ha : a ∈ L) : tM l y_N_since tb ({ frames := 0, cells := 0, slots := 0, locals := 0 }) D cls tys A Z [.ref a] (X ++ (va_pl L (tO 3 13 fv) ++ r)) (pR (.int (if fv a 6 = 0 then fv a 7 else fv a 2)) (X ++ (va_pl L (tO 3 13 fv) ++ r))) (xN) := by
  refine t_ofW (by decide) w_544 (Nat.le_of_ble_eq_true rfl) ?_
  intro p e s m below meth c ls hx hb hr hts hown hlk hnm hml hex hl hC
  have hown : s.vm.findClass "RetentionVault$Version" = some m.cls := hown
  have hl : lv_has ls 1 [(0, .ref a)] := hl
  refine lv_aload_n hx hb d_N_since_0 rfl (lv_at hl 0 rfl) ?_
  refine t_getP hx hb hts inN hown hC ha rfl 6 (by decide) (hts _ w_247) (fun _ h => h) d_N_since_1 ?_
  refine lv_if_eq (tgt := 14) hx hb d_N_since_4 (by decide) (fun c4 => ?_) (fun c4 => ?_)
  · skip
    refine lv_aload_n hx hb d_N_since_14 rfl (lv_at hl 0 rfl) ?_
    refine t_getP hx hb hts inN hown hC ha rfl 7 (by decide) (hts _ w_250) (fun _ h => h) d_N_since_15 ?_
    exact t_iret hx hb hr hlk hZc hC (⟨by first | rfl | (simp only [bI, *]; rfl) | (simp [bI, *]; done) | (simp_all [bI, Int32.not_lt, Int32.not_le]; done) | (unfold bI; simp only [Int32.lt_iff_toInt_lt, Int32.le_iff_toInt_le] at *; split <;> first | rfl | (exfalso; omega)), rfl⟩) (Nat.le_of_ble_eq_true rfl) (Nat.le_of_ble_eq_true rfl) d_N_since_18
  · skip
    refine lv_aload_n hx hb d_N_since_7 rfl (lv_at hl 0 rfl) ?_
    refine t_getP hx hb hts inN hown hC ha rfl 2 (by decide) (hts _ w_240) (fun _ h => h) d_N_since_8 ?_
    refine lv_goto (tgt := 18) hx hb d_N_since_11 (by decide) ?_
    exact t_iret hx hb hr hlk hZc hC (⟨by first | rfl | (simp only [bI, *]; rfl) | (simp [bI, *]; done) | (simp_all [bI, Int32.not_lt, Int32.not_le]; done) | (unfold bI; simp only [Int32.lt_iff_toInt_lt, Int32.le_iff_toInt_le] at *; split <;> first | rfl | (exfalso; omega)), rfl⟩) (Nat.le_of_ble_eq_true rfl) (Nat.le_of_ble_eq_true rfl) d_N_since_18

set_option maxRecDepth 100000 in
set_option maxHeartbeats 4000000 in
theorem c_N_isHeld {l : Launch} {D : va_G} {tys : List (ClassId × FieldType)} {A : Nat → Prop} {Z : State → Heap → Prop} (hZc : tZ A Z) {X r : va_W} {L : List Nat} {fv : Nat → RW} {a : Nat} (ha : a ∈ L) : tM l y_N_isHeld tb ({ frames := 0, cells := 0, slots := 0, locals := 0 }) D cls tys A Z [.ref a] (X ++ (va_pl L (tO 3 13 fv) ++ r)) (pR (.int (bI (fv a 10 ≠ 0))) (X ++ (va_pl L (tO 3 13 fv) ++ r))) (xN) := by
  refine t_ofW (by decide) w_439 (Nat.le_of_ble_eq_true rfl) ?_
  intro p e s m below meth c ls hx hb hr hts hown hlk hnm hml hex hl hC
  have hown : s.vm.findClass "RetentionVault$Version" = some m.cls := hown
  have hl : lv_has ls 1 [(0, .ref a)] := hl
  refine lv_aload_n hx hb d_N_isHeld_0 rfl (lv_at hl 0 rfl) ?_
  refine t_getP hx hb hts inN hown hC ha rfl 10 (by decide) (hts _ w_256) (fun _ h => h) d_N_isHeld_1 ?_
  refine lv_if_eq (tgt := 11) hx hb d_N_isHeld_4 (by decide) (fun c4 => ?_) (fun c4 => ?_)
  · skip
    refine lv_iconst (v := 0) hx hb d_N_isHeld_11 (by decide) ?_
    exact t_zret hx hb hr hlk (Or.inl rfl) hZc hC (⟨by first | rfl | (simp only [bI, *]; rfl) | (simp [bI, *]; done) | (simp_all [bI, Int32.not_lt, Int32.not_le]; done) | (unfold bI; simp only [Int32.lt_iff_toInt_lt, Int32.le_iff_toInt_le] at *; split <;> first | rfl | (exfalso; omega)), rfl⟩) (Nat.le_of_ble_eq_true rfl) (Nat.le_of_ble_eq_true rfl) d_N_isHeld_12
  · skip
    refine lv_iconst (v := 1) hx hb d_N_isHeld_7 (by decide) ?_
    refine lv_goto (tgt := 12) hx hb d_N_isHeld_8 (by decide) ?_
    exact t_zret hx hb hr hlk (Or.inr rfl) hZc hC (⟨by first | rfl | (simp only [bI, *]; rfl) | (simp [bI, *]; done) | (simp_all [bI, Int32.not_lt, Int32.not_le]; done) | (unfold bI; simp only [Int32.lt_iff_toInt_lt, Int32.le_iff_toInt_le] at *; split <;> first | rfl | (exfalso; omega)), rfl⟩) (Nat.le_of_ble_eq_true rfl) (Nat.le_of_ble_eq_true rfl) d_N_isHeld_12

set_option maxRecDepth 100000 in
set_option maxHeartbeats 4000000 in
theorem c_N_isRetained {l : Launch} {D : va_G} {tys : List (ClassId × FieldType)} {A : Nat → Prop} {Z : State → Heap → Prop} (hZc : tZ A Z) {X r : va_W} {L : List Nat} {fv : Nat → RW} {a : Nat} (ha : a ∈ L) {today : Int32} : tM l y_N_isRetained tb ({ frames := 0, cells := 0, slots := 0, locals := 0 }) D cls tys A Z [.ref a, .int today] (X ++ (va_pl L (tO 3 13 fv) ++ r)) (pR (.int (bI (today < fv a 8))) (X ++ (va_pl L (tO 3 13 fv) ++ r))) (xN) := by
  refine t_ofW (by decide) w_435 (Nat.le_of_ble_eq_true rfl) ?_
  intro p e s m below meth c ls hx hb hr hts hown hlk hnm hml hex hl hC
  have hown : s.vm.findClass "RetentionVault$Version" = some m.cls := hown
  have hl : lv_has ls 2 [(0, .ref a), (1, .int today)] := hl
  refine lv_iload_n hx hb d_N_isRetained_0 rfl (lv_at hl 1 rfl) ?_
  refine lv_aload_n hx hb d_N_isRetained_1 rfl (lv_at hl 0 rfl) ?_
  refine t_getP hx hb hts inN hown hC ha rfl 8 (by decide) (hts _ w_253) (fun _ h => h) d_N_isRetained_2 ?_
  refine lv_icmp_ge (tgt := 12) hx hb d_N_isRetained_5 (by decide) (fun c5 => ?_) (fun c5 => ?_)
  · skip
    refine lv_iconst (v := 0) hx hb d_N_isRetained_12 (by decide) ?_
    exact t_zret hx hb hr hlk (Or.inl rfl) hZc hC (⟨by first | rfl | (simp only [bI, *]; rfl) | (simp [bI, *]; done) | (simp_all [bI, Int32.not_lt, Int32.not_le]; done) | (unfold bI; simp only [Int32.lt_iff_toInt_lt, Int32.le_iff_toInt_le] at *; split <;> first | rfl | (exfalso; omega)), rfl⟩) (Nat.le_of_ble_eq_true rfl) (Nat.le_of_ble_eq_true rfl) d_N_isRetained_13
  · skip
    refine lv_iconst (v := 1) hx hb d_N_isRetained_8 (by decide) ?_
    refine lv_goto (tgt := 13) hx hb d_N_isRetained_9 (by decide) ?_
    exact t_zret hx hb hr hlk (Or.inr rfl) hZc hC (⟨by first | rfl | (simp only [bI, *]; rfl) | (simp [bI, *]; done) | (simp_all [bI, Int32.not_lt, Int32.not_le]; done) | (unfold bI; simp only [Int32.lt_iff_toInt_lt, Int32.le_iff_toInt_le] at *; split <;> first | rfl | (exfalso; omega)), rfl⟩) (Nat.le_of_ble_eq_true rfl) (Nat.le_of_ble_eq_true rfl) d_N_isRetained_13

set_option maxRecDepth 100000 in
set_option maxHeartbeats 4000000 in
theorem c_N_isRetainedStrictly {l : Launch} {D : va_G} {tys : List (ClassId × FieldType)} {A : Nat → Prop} {Z : State → Heap → Prop} (hZc : tZ A Z) {X r : va_W} {L : List Nat} {fv : Nat → RW} {a : Nat} (ha : a ∈ L) {today : Int32} : tM l y_N_isRetainedStrictly tb ({ frames := 1, cells := 0, slots := 0, locals := 21 }) D cls tys A Z [.ref a, .int today] (X ++ (va_pl L (tO 3 13 fv) ++ r)) (pR (.int (bI (fv a 9 ≠ 0 ∧ today < fv a 8))) (X ++ (va_pl L (tO 3 13 fv) ++ r))) (xN) := by
  refine t_ofW (by decide) w_431 (Nat.le_of_ble_eq_true rfl) ?_
  intro p e s m below meth c ls hx hb hr hts hown hlk hnm hml hex hl hC
  have hown : s.vm.findClass "RetentionVault$Version" = some m.cls := hown
  have hl : lv_has ls 2 [(0, .ref a), (1, .int today)] := hl
  refine lv_aload_n hx hb d_N_isRetainedStrictly_0 rfl (lv_at hl 0 rfl) ?_
  refine t_getP hx hb hts inN hown hC ha rfl 9 (by decide) (hts _ w_255) (fun _ h => h) d_N_isRetainedStrictly_1 ?_
  refine lv_if_eq (tgt := 19) hx hb d_N_isRetainedStrictly_4 (by decide) (fun c4 => ?_) (fun c4 => ?_)
  · skip
    refine lv_iconst (v := 0) hx hb d_N_isRetainedStrictly_19 (by decide) ?_
    exact t_zret hx hb hr hlk (Or.inl rfl) hZc hC (⟨by first | rfl | (simp only [bI, *]; rfl) | (simp [bI, *]; done) | (simp_all [bI, Int32.not_lt, Int32.not_le]; done) | (unfold bI; simp only [Int32.lt_iff_toInt_lt, Int32.le_iff_toInt_le] at *; split <;> first | rfl | (exfalso; omega)), rfl⟩) (Nat.le_of_ble_eq_true rfl) (Nat.le_of_ble_eq_true rfl) d_N_isRetainedStrictly_20
  · skip
    refine lv_aload_n hx hb d_N_isRetainedStrictly_7 rfl (lv_at hl 0 rfl) ?_
    refine lv_iload_n hx hb d_N_isRetainedStrictly_8 rfl (lv_at hl 1 rfl) ?_
    refine t_call (t_invV (As := [.int today]) (rest := []) hx hb hown (hts _ w_432) (hts _ w_433) (hts _ w_434) (hts _ w_435) ⟨by decide, by decide⟩ (t_recvP hC ha rfl rfl) rfl d_N_isRetainedStrictly_9) (c_N_isRetained hZc ha) hZc tb_good hts w_13 hC (hl.1.trans hml.symm) ⟨Nat.le_of_ble_eq_true rfl, Nat.le_of_ble_eq_true rfl, Nat.le_of_ble_eq_true rfl, Nat.le_of_ble_eq_true rfl⟩ (Nat.le_of_ble_eq_true rfl) (fun E q ce w1 H1 l1 hp => hp.elim) (fun v w1 H locs hp hC => ?_)
    obtain ⟨rfl, hwe9⟩ := hp
    rw [hwe9] at hC
    have hC : tC D cls tys A Z s (X ++ (va_pl L (tO 3 13 fv) ++ r)) H locs := hC
    refine W.eq (g2 := F0 m 12 ls [.int (bI (today < fv a 8))]) rfl ?_
    refine lv_if_eq (tgt := 19) hx hb d_N_isRetainedStrictly_12 (by decide) (fun c12 => ?_) (fun c12 => ?_)
    · skip
      refine lv_iconst (v := 0) hx hb d_N_isRetainedStrictly_19 (by decide) ?_
      exact t_zret hx hb hr hlk (Or.inl rfl) hZc hC (⟨by first | rfl | (simp only [bI, *]; rfl) | (simp [bI, *]; done) | (simp_all [bI, Int32.not_lt, Int32.not_le]; done) | (unfold bI; simp only [Int32.lt_iff_toInt_lt, Int32.le_iff_toInt_le] at *; split <;> first | rfl | (exfalso; omega)), rfl⟩) (Nat.le_of_ble_eq_true rfl) (Nat.le_of_ble_eq_true rfl) d_N_isRetainedStrictly_20
    · skip
      refine lv_iconst (v := 1) hx hb d_N_isRetainedStrictly_15 (by decide) ?_
      refine lv_goto (tgt := 20) hx hb d_N_isRetainedStrictly_16 (by decide) ?_
      exact t_zret hx hb hr hlk (Or.inr rfl) hZc hC (⟨by first | rfl | (simp only [bI, *]; rfl) | (simp [bI, *]; done) | (simp_all [bI, Int32.not_lt, Int32.not_le]; done) | (unfold bI; simp only [Int32.lt_iff_toInt_lt, Int32.le_iff_toInt_le] at *; split <;> first | rfl | (exfalso; omega)), rfl⟩) (Nat.le_of_ble_eq_true rfl) (Nat.le_of_ble_eq_true rfl) d_N_isRetainedStrictly_20

set_option maxRecDepth 100000 in
set_option maxHeartbeats 4000000 in
theorem c_N_isGuarded {l : Launch} {D : va_G} {tys : List (ClassId × FieldType)} {A : Nat → Prop} {Z : State → Heap → Prop} (hZc : tZ A Z) {X r : va_W} {L : List Nat} {fv : Nat → RW} {a : Nat} (ha : a ∈ L) {today : Int32} : tM l y_N_isGuarded tb ({ frames := 1, cells := 0, slots := 0, locals := 21 }) D cls tys A Z [.ref a, .int today] (X ++ (va_pl L (tO 3 13 fv) ++ r)) (pR (.int (bI (fv a 10 ≠ 0 ∨ today < fv a 8))) (X ++ (va_pl L (tO 3 13 fv) ++ r))) (xN) := by
  refine t_ofW (by decide) w_556 (Nat.le_of_ble_eq_true rfl) ?_
  intro p e s m below meth c ls hx hb hr hts hown hlk hnm hml hex hl hC
  have hown : s.vm.findClass "RetentionVault$Version" = some m.cls := hown
  have hl : lv_has ls 2 [(0, .ref a), (1, .int today)] := hl
  refine lv_aload_n hx hb d_N_isGuarded_0 rfl (lv_at hl 0 rfl) ?_
  refine t_call (t_invV (As := []) (rest := []) hx hb hown (hts _ w_557) (hts _ w_437) (hts _ w_438) (hts _ w_439) ⟨by decide, by decide⟩ (t_recvP hC ha rfl rfl) rfl d_N_isGuarded_1) (c_N_isHeld hZc ha) hZc tb_good hts w_13 hC (hl.1.trans hml.symm) ⟨Nat.le_of_ble_eq_true rfl, Nat.le_of_ble_eq_true rfl, Nat.le_of_ble_eq_true rfl, Nat.le_of_ble_eq_true rfl⟩ (Nat.le_of_ble_eq_true rfl) (fun E q ce w1 H1 l1 hp => hp.elim) (fun v w1 H locs hp hC => ?_)
  obtain ⟨rfl, hwe9⟩ := hp
  rw [hwe9] at hC
  have hC : tC D cls tys A Z s (X ++ (va_pl L (tO 3 13 fv) ++ r)) H locs := hC
  refine W.eq (g2 := F0 m 4 ls [.int (bI (fv a 10 ≠ 0))]) rfl ?_
  refine lv_if_ne (tgt := 15) hx hb d_N_isGuarded_4 (by decide) (fun c4 => ?_) (fun c4 => ?_)
  · skip
    refine lv_iconst (v := 1) hx hb d_N_isGuarded_15 (by decide) ?_
    refine lv_goto (tgt := 20) hx hb d_N_isGuarded_16 (by decide) ?_
    exact t_zret hx hb hr hlk (Or.inr rfl) hZc hC (⟨by first | rfl | (simp only [bI, *]; rfl) | (simp [bI, *]; done) | (simp_all [bI, Int32.not_lt, Int32.not_le]; done) | (unfold bI; simp only [Int32.lt_iff_toInt_lt, Int32.le_iff_toInt_le] at *; split <;> first | rfl | (exfalso; omega)), rfl⟩) (Nat.le_of_ble_eq_true rfl) (Nat.le_of_ble_eq_true rfl) d_N_isGuarded_20
  · skip
    refine lv_aload_n hx hb d_N_isGuarded_7 rfl (lv_at hl 0 rfl) ?_
    refine lv_iload_n hx hb d_N_isGuarded_8 rfl (lv_at hl 1 rfl) ?_
    refine t_call (t_invV (As := [.int today]) (rest := []) hx hb hown (hts _ w_432) (hts _ w_433) (hts _ w_434) (hts _ w_435) ⟨by decide, by decide⟩ (t_recvP hC ha rfl rfl) rfl d_N_isGuarded_9) (c_N_isRetained hZc ha) hZc tb_good hts w_13 hC (hl.1.trans hml.symm) ⟨Nat.le_of_ble_eq_true rfl, Nat.le_of_ble_eq_true rfl, Nat.le_of_ble_eq_true rfl, Nat.le_of_ble_eq_true rfl⟩ (Nat.le_of_ble_eq_true rfl) (fun E q ce w1 H1 l1 hp => hp.elim) (fun v w1 H locs hp hC => ?_)
    obtain ⟨rfl, hwe9⟩ := hp
    rw [hwe9] at hC
    have hC : tC D cls tys A Z s (X ++ (va_pl L (tO 3 13 fv) ++ r)) H locs := hC
    refine W.eq (g2 := F0 m 12 ls [.int (bI (today < fv a 8))]) rfl ?_
    refine lv_if_eq (tgt := 19) hx hb d_N_isGuarded_12 (by decide) (fun c12 => ?_) (fun c12 => ?_)
    · skip
      refine lv_iconst (v := 0) hx hb d_N_isGuarded_19 (by decide) ?_
      exact t_zret hx hb hr hlk (Or.inl rfl) hZc hC (⟨by first | rfl | (simp only [bI, *]; rfl) | (simp [bI, *]; done) | (simp_all [bI, Int32.not_lt, Int32.not_le]; done) | (unfold bI; simp only [Int32.lt_iff_toInt_lt, Int32.le_iff_toInt_le] at *; split <;> first | rfl | (exfalso; omega)), rfl⟩) (Nat.le_of_ble_eq_true rfl) (Nat.le_of_ble_eq_true rfl) d_N_isGuarded_20
    · skip
      refine lv_iconst (v := 1) hx hb d_N_isGuarded_15 (by decide) ?_
      refine lv_goto (tgt := 20) hx hb d_N_isGuarded_16 (by decide) ?_
      exact t_zret hx hb hr hlk (Or.inr rfl) hZc hC (⟨by first | rfl | (simp only [bI, *]; rfl) | (simp [bI, *]; done) | (simp_all [bI, Int32.not_lt, Int32.not_le]; done) | (unfold bI; simp only [Int32.lt_iff_toInt_lt, Int32.le_iff_toInt_le] at *; split <;> first | rfl | (exfalso; omega)), rfl⟩) (Nat.le_of_ble_eq_true rfl) (Nat.le_of_ble_eq_true rfl) d_N_isGuarded_20

set_option maxRecDepth 100000 in
set_option maxHeartbeats 4000000 in
theorem c_N_isFetchedFor {l : Launch} {D : va_G} {tys : List (ClassId × FieldType)} {A : Nat → Prop} {Z : State → Heap → Prop} (hZc : tZ A Z) {X r : va_W} {L : List Nat} {fv : Nat → RW} {a : Nat} (ha : a ∈ L) {today : Int32} : tM l y_N_isFetchedFor tb ({ frames := 0, cells := 0, slots := 0, locals := 0 }) D cls tys A Z [.ref a, .int today] (X ++ (va_pl L (tO 3 13 fv) ++ r)) (pR (.int (bI (fv a 11 ≤ today ∧ today < fv a 12))) (X ++ (va_pl L (tO 3 13 fv) ++ r))) (xN) := by
  refine t_ofW (by decide) w_519 (Nat.le_of_ble_eq_true rfl) ?_
  intro p e s m below meth c ls hx hb hr hts hown hlk hnm hml hex hl hC
  have hown : s.vm.findClass "RetentionVault$Version" = some m.cls := hown
  have hl : lv_has ls 2 [(0, .ref a), (1, .int today)] := hl
  refine lv_aload_n hx hb d_N_isFetchedFor_0 rfl (lv_at hl 0 rfl) ?_
  refine t_getP hx hb hts inN hown hC ha rfl 11 (by decide) (hts _ w_259) (fun _ h => h) d_N_isFetchedFor_1 ?_
  refine lv_iload_n hx hb d_N_isFetchedFor_4 rfl (lv_at hl 1 rfl) ?_
  refine lv_icmp_gt (tgt := 20) hx hb d_N_isFetchedFor_5 (by decide) (fun c5 => ?_) (fun c5 => ?_)
  · skip
    refine lv_iconst (v := 0) hx hb d_N_isFetchedFor_20 (by decide) ?_
    exact t_zret hx hb hr hlk (Or.inl rfl) hZc hC (⟨by first | rfl | (simp only [bI, *]; rfl) | (simp [bI, *]; done) | (simp_all [bI, Int32.not_lt, Int32.not_le]; done) | (unfold bI; simp only [Int32.lt_iff_toInt_lt, Int32.le_iff_toInt_le] at *; split <;> first | rfl | (exfalso; omega)), rfl⟩) (Nat.le_of_ble_eq_true rfl) (Nat.le_of_ble_eq_true rfl) d_N_isFetchedFor_21
  · skip
    refine lv_iload_n hx hb d_N_isFetchedFor_8 rfl (lv_at hl 1 rfl) ?_
    refine lv_aload_n hx hb d_N_isFetchedFor_9 rfl (lv_at hl 0 rfl) ?_
    refine t_getP hx hb hts inN hown hC ha rfl 12 (by decide) (hts _ w_261) (fun _ h => h) d_N_isFetchedFor_10 ?_
    refine lv_icmp_ge (tgt := 20) hx hb d_N_isFetchedFor_13 (by decide) (fun c13 => ?_) (fun c13 => ?_)
    · skip
      refine lv_iconst (v := 0) hx hb d_N_isFetchedFor_20 (by decide) ?_
      exact t_zret hx hb hr hlk (Or.inl rfl) hZc hC (⟨by first | rfl | (simp only [bI, *]; rfl) | (simp [bI, *]; done) | (simp_all [bI, Int32.not_lt, Int32.not_le]; done) | (unfold bI; simp only [Int32.lt_iff_toInt_lt, Int32.le_iff_toInt_le] at *; split <;> first | rfl | (exfalso; omega)), rfl⟩) (Nat.le_of_ble_eq_true rfl) (Nat.le_of_ble_eq_true rfl) d_N_isFetchedFor_21
    · skip
      refine lv_iconst (v := 1) hx hb d_N_isFetchedFor_16 (by decide) ?_
      refine lv_goto (tgt := 21) hx hb d_N_isFetchedFor_17 (by decide) ?_
      exact t_zret hx hb hr hlk (Or.inr rfl) hZc hC (⟨by first | rfl | (simp only [bI, *]; rfl) | (simp [bI, *]; done) | (simp_all [bI, Int32.not_lt, Int32.not_le]; done) | (unfold bI; simp only [Int32.lt_iff_toInt_lt, Int32.le_iff_toInt_le] at *; split <;> first | rfl | (exfalso; omega)), rfl⟩) (Nat.le_of_ble_eq_true rfl) (Nat.le_of_ble_eq_true rfl) d_N_isFetchedFor_21
end
section
/-! Log and Rule. Laid by program (wip/whole/p11.py) -/
theorem lg_place {w : Nat} (h : w < 2 ^ 31) : (nI w &&& 63) * 4 = nI (w % 64 * 4) := by
  rw [pk_andN (n := w) (by omega) 6 (by decide)]
  exact pk_mul (w % 64) 4
theorem lg_cl {w i : Nat} (hi : i < 4) : (nI (w % 64 * 4) + nI i).toNatClampNeg = w % 64 * 4 + i := by
  rw [nI_add, nI_clamp (by omega)]
theorem lg_fold {K : Nat → Nat} {ca : Nat → ClassId} {RL LP : List Nat} {fv FR : Nat → RW} {day ever mo n : Int32} {ea : Nat} {ch : Int64} {ring : Nat → Int32} {rest : va_W} {a b c d : Int32} {w : Nat} (hw : w < 2 ^ 31) :
    wC K ca RL LP fv FR day ever mo n ea (nI w + 1) (lg_mix (lg_mix (lg_mix (lg_mix ch a) b) c) d) (upd (upd (upd (upd ring (nI (w % 64 * 4)).toNatClampNeg a) (nI (w % 64 * 4) + 1).toNatClampNeg b) (nI (w % 64 * 4) + 2).toNatClampNeg c) (nI (w % 64 * 4) + 3).toNatClampNeg d) rest =
    wC K ca RL LP fv FR day ever mo n ea (nI (w + 1)) (lg_wr (ring, w, ch) a b c d).2.2 (lg_wr (ring, w, ch) a b c d).1 rest := by
  have e0 : (nI (w % 64 * 4)).toNatClampNeg = w % 64 * 4 := nI_clamp (by omega)
  have e1 : (nI (w % 64 * 4) + 1).toNatClampNeg = w % 64 * 4 + 1 := lg_cl (i := 1) (by omega)
  have e2 : (nI (w % 64 * 4) + 2).toNatClampNeg = w % 64 * 4 + 2 := lg_cl (i := 2) (by omega)
  have e3 : (nI (w % 64 * 4) + 3).toNatClampNeg = w % 64 * 4 + 3 := lg_cl (i := 3) (by omega)
  rw [e0, e1, e2, e3, nI_1]
  rfl
theorem up_twice {α : Type} {f : Nat → α} {a : Nat} {x y : α} : va_up (va_up f a x) a y = va_up f a y := bx_uu f a x y
theorem up_fold4 {K : Nat → Nat} {ca : Nat → ClassId} {RL LP : List Nat} {fv FR : Nat → RW} {day ever mo n : Int32} {ea : Nat} {wr : Int32} {ch : Int64} {ring : Nat → Int32} {rest : va_W} {u : Nat} {x0 x1 x2 x3 : Int32} :
    wC K ca RL LP fv (va_up (va_up (va_up (va_up FR u (upd (FR u) 0 x0)) u (upd (va_up FR u (upd (FR u) 0 x0) u) 1 x1)) u (upd (va_up (va_up FR u (upd (FR u) 0 x0)) u (upd (va_up FR u (upd (FR u) 0 x0) u) 1 x1) u) 2 x2)) u (upd (va_up (va_up (va_up FR u (upd (FR u) 0 x0)) u (upd (va_up FR u (upd (FR u) 0 x0) u) 1 x1)) u (upd (va_up (va_up FR u (upd (FR u) 0 x0)) u (upd (va_up FR u (upd (FR u) 0 x0) u) 1 x1) u) 2 x2) u) 3 x3)) day ever mo n ea wr ch ring rest =
    wC K ca RL LP fv (va_up FR u (upd (upd (upd (upd (FR u) 0 x0) 1 x1) 2 x2) 3 x3)) day ever mo n ea wr ch ring rest := by
  simp only [up_twice, va_up_self]
set_option maxRecDepth 100000 in
set_option maxHeartbeats 4000000 in
theorem c_G_placeOf {l : Launch} {D : va_G} {tys : List (ClassId × FieldType)} {A : Nat → Prop} {Z : State → Heap → Prop} (hZc : tZ A Z) {w : va_W} {x : Int32} : tM l y_G_placeOf tb ({ frames := 0, cells := 0, slots := 0, locals := 0 }) D cls tys A Z [.int x] (w) (pR (.int ((x &&& 63) * 4)) w) (xN) := by
  refine t_ofW (by decide) w_382 (Nat.le_of_ble_eq_true rfl) ?_
  intro p e s m below meth c ls hx hb hr hts hown hlk hnm hml hex hl hC
  have hown : s.vm.findClass "RetentionVault$Log" = some m.cls := hown
  have hl : lv_has ls 1 [(0, .int x)] := hl
  refine lv_iload_n hx hb d_G_placeOf_0 rfl (lv_at hl 0 rfl) ?_
  refine lv_bipush (v := 63) hx hb d_G_placeOf_1 (by decide) ?_
  refine lv_iand hx hb d_G_placeOf_3 ?_
  refine lv_iconst (v := 4) hx hb d_G_placeOf_4 (by decide) ?_
  refine lv_imul hx hb d_G_placeOf_5 ?_
  exact t_iret hx hb hr hlk hZc hC (⟨rfl, rfl⟩) (Nat.le_of_ble_eq_true rfl) (Nat.le_of_ble_eq_true rfl) d_G_placeOf_6

set_option maxRecDepth 100000 in
set_option maxHeartbeats 4000000 in
theorem c_G_append {l : Launch} {D : va_G} {A : Nat → Prop} {e0 : Nat → Nat} {K : Nat → Nat} {ca : Nat → ClassId} {RL LP : List Nat} {fv FR : Nat → RW} {day ever mo n : Int32} {ea : Nat} {wr : Int32} {ch : Int64} {ring : Nat → Int32} {rest : va_W} {at9 x : Int32} (hin : vp_in at9 256) : tM l y_G_append tb ({ frames := 0, cells := 0, slots := 0, locals := 0 }) D cls (ty0 ca) A (zz e0 A) [.ref (K 3), .int at9, .int x] (wC K ca RL LP fv FR day ever mo n ea wr ch ring rest) (fun v w2 => v = none ∧ w2 = wC K ca RL LP fv FR day ever mo n ea wr (lg_mix ch x) (upd ring at9.toNatClampNeg x) rest) (xN) := by
  refine t_ofW (by decide) w_386 (Nat.le_of_ble_eq_true rfl) ?_
  intro p e s m below meth c ls hx hb hr hts hown hlk hnm hml hex hl hC
  have hown : s.vm.findClass "RetentionVault$Log" = some m.cls := hown
  have hl : lv_has ls 3 [(0, .ref (K 3)), (1, .int at9), (2, .int x)] := hl
  refine lv_aload_n hx hb d_G_append_0 rfl (lv_at hl 0 rfl) ?_
  refine t_get (v := .ref (K 4)) hx hb hts inG hown hC 3 rfl rfl 0 (by decide) (hts _ w_84) (fun _ h => h) rfl d_G_append_1 ?_
  refine lv_iload_n hx hb d_G_append_4 rfl (lv_at hl 1 rfl) ?_
  refine lv_iload_n hx hb d_G_append_5 rfl (lv_at hl 2 rfl) ?_
  refine t_iast hx hb hC 4 0 rfl rfl (hin) d_G_append_6 (fun H locs hC => ?_)
  have hC : tC D cls (ty0 ca) A (zz e0 A) s (wC K ca RL LP fv FR day ever mo n ea wr ch (upd ring at9.toNatClampNeg x) rest) H locs := hC
  refine lv_aload_n hx hb d_G_append_7 rfl (lv_at hl 0 rfl) ?_
  refine lv_aload_n hx hb d_G_append_8 rfl (lv_at hl 0 rfl) ?_
  refine t_get (v := .long ch) hx hb hts inG hown hC 3 rfl rfl 2 (by decide) (hts _ w_87) (fun _ h => h) rfl d_G_append_9 ?_
  refine lv_iload_n hx hb d_G_append_12 rfl (lv_at hl 2 rfl) ?_
  refine lv_i2l (v := x.toInt64) hx hb d_G_append_13 rfl ?_
  refine lv_lxor hx hb d_G_append_14 ?_
  refine lv_ldc2 (v := 1099511628211) hx hb hown (hts _ w_387) d_G_append_15 ?_
  refine lv_lmul hx hb d_G_append_18 ?_
  refine t_put (ty := .long) (v := .long ((ch ^^^ x.toInt64) * 1099511628211)) hx hb hts inG TG tyG nmG hown hC 3 rfl rfl 2 (by decide) (hts _ w_87) (fun _ h => h) rfl (by decide +kernel) rfl rfl (Nat.le_of_ble_eq_true rfl) d_G_append_19 (fun H locs hC => ?_)
  have hC : tC D cls (ty0 ca) A (zz e0 A) s (wC K ca RL LP fv FR day ever mo n ea wr ((ch ^^^ x.toInt64) * 1099511628211) (upd ring at9.toNatClampNeg x) rest) H locs := hC
  exact t_vret hx hb hr hlk zz_c hC (⟨rfl, rfl⟩) (Nat.le_of_ble_eq_true rfl) (Nat.le_of_ble_eq_true rfl) d_G_append_22

set_option maxRecDepth 100000 in
set_option maxHeartbeats 4000000 in
theorem c_G_write {l : Launch} {D : va_G} {A : Nat → Prop} {e0 : Nat → Nat} {K : Nat → Nat} {ca : Nat → ClassId} {RL LP : List Nat} {fv FR : Nat → RW} {day ever mo n : Int32} {ea : Nat} {ch : Int64} {ring : Nat → Int32} {rest : va_W} {today kind number detail : Int32} {w9 : Nat} (hw9 : w9 < 2 ^ 31) : tM l y_G_write tb ({ frames := 1, cells := 0, slots := 0, locals := 22 }) D cls (ty0 ca) A (zz e0 A) [.ref (K 3), .int today, .int kind, .int number, .int detail] (wC K ca RL LP fv FR day ever mo n ea (nI w9) ch ring rest) (fun v w2 => v = none ∧ w2 = wC K ca RL LP fv FR day ever mo n ea (nI (w9 + 1)) (lg_wr (ring, w9, ch) today kind number detail).2.2 (lg_wr (ring, w9, ch) today kind number detail).1 rest) (xN) := by
  refine t_ofW (by decide) w_379 (Nat.le_of_ble_eq_true rfl) ?_
  intro p e s m below meth c ls hx hb hr hts hown hlk hnm hml hex hl hC
  have hown : s.vm.findClass "RetentionVault$Log" = some m.cls := hown
  have hl : lv_has ls 6 [(0, .ref (K 3)), (1, .int today), (2, .int kind), (3, .int number), (4, .int detail)] := hl
  refine lv_aload_n hx hb d_G_write_0 rfl (lv_at hl 0 rfl) ?_
  refine t_get (v := .int (nI w9)) hx hb hts inG hown hC 3 rfl rfl 1 (by decide) (hts _ w_85) (fun _ h => h) rfl d_G_write_1 ?_
  refine t_call (t_invS (As := [.int (nI w9)]) (rest := []) hx hb hown (hts _ w_380) (hts _ w_381) (hts _ w_6) (hts _ w_382) ⟨by decide, by decide⟩ rfl d_G_write_4) (c_G_placeOf zz_c) zz_c tb_good hts w_6 hC (hl.1.trans hml.symm) ⟨Nat.le_of_ble_eq_true rfl, Nat.le_of_ble_eq_true rfl, Nat.le_of_ble_eq_true rfl, Nat.le_of_ble_eq_true rfl⟩ (Nat.le_of_ble_eq_true rfl) (fun E q ce w1 H1 l1 hp => hp.elim) (fun v w1 H locs hp hC => ?_)
  obtain ⟨rfl, hwe9⟩ := hp
  rw [hwe9] at hC
  have hC : tC D cls (ty0 ca) A (zz e0 A) s (wC K ca RL LP fv FR day ever mo n ea (nI w9) ch ring rest) H locs := hC
  refine W.eq (g2 := F0 m 7 ls [.int (((nI w9) &&& 63) * 4)]) rfl ?_
  have hp4 : (nI w9 &&& 63) * 4 = nI (w9 % 64 * 4) := lg_place hw9
  rw [hp4]
  refine lv_istore (lv' := [(5, .int (nI (w9 % 64 * 4))), (0, .ref (K 3)), (1, .int today), (2, .int kind), (3, .int number), (4, .int detail)]) hx hb d_G_write_7 hl (by decide) rfl (fun ls hl => ?_)
  refine lv_aload_n hx hb d_G_write_9 rfl (lv_at hl 1 rfl) ?_
  refine lv_iload hx hb d_G_write_10 (lv_at hl 0 rfl) ?_
  refine lv_iload_n hx hb d_G_write_12 rfl (lv_at hl 2 rfl) ?_
  refine t_call (t_invV (As := [.int (nI (w9 % 64 * 4)), .int today]) (rest := []) hx hb hown (hts _ w_383) (hts _ w_385) (hts _ s_G_append) (hts _ w_386) ⟨by decide, by decide⟩ (t_recv (q0 := 3) hC rfl rfl) rfl d_G_write_13) (c_G_append (vp_in_nI (by omega) (by decide))) zz_c tb_good hts w_6 hC (hl.1.trans hml.symm) ⟨Nat.le_of_ble_eq_true rfl, Nat.le_of_ble_eq_true rfl, Nat.le_of_ble_eq_true rfl, Nat.le_of_ble_eq_true rfl⟩ (Nat.le_of_ble_eq_true rfl) (fun E q ce w1 H1 l1 hp => hp.elim) (fun v w1 H locs hp hC => ?_)
  obtain ⟨rfl, rfl⟩ := hp
  have hC : tC D cls (ty0 ca) A (zz e0 A) s (wC K ca RL LP fv FR day ever mo n ea (nI w9) (lg_mix ch today) (upd ring (nI (w9 % 64 * 4)).toNatClampNeg today) rest) H locs := hC
  refine W.eq (g2 := F0 m 16 ls []) rfl ?_
  refine lv_aload_n hx hb d_G_write_16 rfl (lv_at hl 1 rfl) ?_
  refine lv_iload hx hb d_G_write_17 (lv_at hl 0 rfl) ?_
  refine lv_iconst (v := 1) hx hb d_G_write_19 (by decide) ?_
  refine lv_iadd hx hb d_G_write_20 ?_
  refine lv_iload_n hx hb d_G_write_21 rfl (lv_at hl 3 rfl) ?_
  refine t_call (t_invV (As := [.int ((nI (w9 % 64 * 4)) + 1), .int kind]) (rest := []) hx hb hown (hts _ w_383) (hts _ w_385) (hts _ s_G_append) (hts _ w_386) ⟨by decide, by decide⟩ (t_recv (q0 := 3) hC rfl rfl) rfl d_G_write_22) (c_G_append (by rw [show nI (w9 % 64 * 4) + 1 = nI (w9 % 64 * 4 + 1) from nI_add _ 1]; exact vp_in_nI (by omega) (by decide))) zz_c tb_good hts w_6 hC (hl.1.trans hml.symm) ⟨Nat.le_of_ble_eq_true rfl, Nat.le_of_ble_eq_true rfl, Nat.le_of_ble_eq_true rfl, Nat.le_of_ble_eq_true rfl⟩ (Nat.le_of_ble_eq_true rfl) (fun E q ce w1 H1 l1 hp => hp.elim) (fun v w1 H locs hp hC => ?_)
  obtain ⟨rfl, rfl⟩ := hp
  have hC : tC D cls (ty0 ca) A (zz e0 A) s (wC K ca RL LP fv FR day ever mo n ea (nI w9) (lg_mix (lg_mix ch today) kind) (upd (upd ring (nI (w9 % 64 * 4)).toNatClampNeg today) ((nI (w9 % 64 * 4)) + 1).toNatClampNeg kind) rest) H locs := hC
  refine W.eq (g2 := F0 m 25 ls []) rfl ?_
  refine lv_aload_n hx hb d_G_write_25 rfl (lv_at hl 1 rfl) ?_
  refine lv_iload hx hb d_G_write_26 (lv_at hl 0 rfl) ?_
  refine lv_iconst (v := 2) hx hb d_G_write_28 (by decide) ?_
  refine lv_iadd hx hb d_G_write_29 ?_
  refine lv_iload_n hx hb d_G_write_30 rfl (lv_at hl 4 rfl) ?_
  refine t_call (t_invV (As := [.int ((nI (w9 % 64 * 4)) + 2), .int number]) (rest := []) hx hb hown (hts _ w_383) (hts _ w_385) (hts _ s_G_append) (hts _ w_386) ⟨by decide, by decide⟩ (t_recv (q0 := 3) hC rfl rfl) rfl d_G_write_31) (c_G_append (by rw [show nI (w9 % 64 * 4) + 2 = nI (w9 % 64 * 4 + 2) from nI_add _ 2]; exact vp_in_nI (by omega) (by decide))) zz_c tb_good hts w_6 hC (hl.1.trans hml.symm) ⟨Nat.le_of_ble_eq_true rfl, Nat.le_of_ble_eq_true rfl, Nat.le_of_ble_eq_true rfl, Nat.le_of_ble_eq_true rfl⟩ (Nat.le_of_ble_eq_true rfl) (fun E q ce w1 H1 l1 hp => hp.elim) (fun v w1 H locs hp hC => ?_)
  obtain ⟨rfl, rfl⟩ := hp
  have hC : tC D cls (ty0 ca) A (zz e0 A) s (wC K ca RL LP fv FR day ever mo n ea (nI w9) (lg_mix (lg_mix (lg_mix ch today) kind) number) (upd (upd (upd ring (nI (w9 % 64 * 4)).toNatClampNeg today) ((nI (w9 % 64 * 4)) + 1).toNatClampNeg kind) ((nI (w9 % 64 * 4)) + 2).toNatClampNeg number) rest) H locs := hC
  refine W.eq (g2 := F0 m 34 ls []) rfl ?_
  refine lv_aload_n hx hb d_G_write_34 rfl (lv_at hl 1 rfl) ?_
  refine lv_iload hx hb d_G_write_35 (lv_at hl 0 rfl) ?_
  refine lv_iconst (v := 3) hx hb d_G_write_37 (by decide) ?_
  refine lv_iadd hx hb d_G_write_38 ?_
  refine lv_iload hx hb d_G_write_39 (lv_at hl 5 rfl) ?_
  refine t_call (t_invV (As := [.int ((nI (w9 % 64 * 4)) + 3), .int detail]) (rest := []) hx hb hown (hts _ w_383) (hts _ w_385) (hts _ s_G_append) (hts _ w_386) ⟨by decide, by decide⟩ (t_recv (q0 := 3) hC rfl rfl) rfl d_G_write_41) (c_G_append (by rw [show nI (w9 % 64 * 4) + 3 = nI (w9 % 64 * 4 + 3) from nI_add _ 3]; exact vp_in_nI (by omega) (by decide))) zz_c tb_good hts w_6 hC (hl.1.trans hml.symm) ⟨Nat.le_of_ble_eq_true rfl, Nat.le_of_ble_eq_true rfl, Nat.le_of_ble_eq_true rfl, Nat.le_of_ble_eq_true rfl⟩ (Nat.le_of_ble_eq_true rfl) (fun E q ce w1 H1 l1 hp => hp.elim) (fun v w1 H locs hp hC => ?_)
  obtain ⟨rfl, rfl⟩ := hp
  have hC : tC D cls (ty0 ca) A (zz e0 A) s (wC K ca RL LP fv FR day ever mo n ea (nI w9) (lg_mix (lg_mix (lg_mix (lg_mix ch today) kind) number) detail) (upd (upd (upd (upd ring (nI (w9 % 64 * 4)).toNatClampNeg today) ((nI (w9 % 64 * 4)) + 1).toNatClampNeg kind) ((nI (w9 % 64 * 4)) + 2).toNatClampNeg number) ((nI (w9 % 64 * 4)) + 3).toNatClampNeg detail) rest) H locs := hC
  refine W.eq (g2 := F0 m 44 ls []) rfl ?_
  refine lv_aload_n hx hb d_G_write_44 rfl (lv_at hl 1 rfl) ?_
  refine lv_dup hx hb d_G_write_45 rfl ?_
  refine t_get (v := .int (nI w9)) hx hb hts inG hown hC 3 rfl rfl 1 (by decide) (hts _ w_85) (fun _ h => h) rfl d_G_write_46 ?_
  refine lv_iconst (v := 1) hx hb d_G_write_49 (by decide) ?_
  refine lv_iadd hx hb d_G_write_50 ?_
  refine t_put (ty := .int) (v := .int ((nI w9) + 1)) hx hb hts inG TG tyG nmG hown hC 3 rfl rfl 1 (by decide) (hts _ w_85) (fun _ h => h) rfl (by decide +kernel) rfl rfl (Nat.le_of_ble_eq_true rfl) d_G_write_51 (fun H locs hC => ?_)
  have hC : tC D cls (ty0 ca) A (zz e0 A) s (wC K ca RL LP fv FR day ever mo n ea ((nI w9) + 1) (lg_mix (lg_mix (lg_mix (lg_mix ch today) kind) number) detail) (upd (upd (upd (upd ring (nI (w9 % 64 * 4)).toNatClampNeg today) ((nI (w9 % 64 * 4)) + 1).toNatClampNeg kind) ((nI (w9 % 64 * 4)) + 2).toNatClampNeg number) ((nI (w9 % 64 * 4)) + 3).toNatClampNeg detail) rest) H locs := hC
  exact t_vret hx hb hr hlk zz_c hC (⟨rfl, lg_fold hw9⟩) (Nat.le_of_ble_eq_true rfl) (Nat.le_of_ble_eq_true rfl) d_G_write_54

set_option maxRecDepth 100000 in
set_option maxHeartbeats 4000000 in
theorem c_G_keeps {l : Launch} {D : va_G} {A : Nat → Prop} {e0 : Nat → Nat} {K : Nat → Nat} {ca : Nat → ClassId} {RL LP : List Nat} {fv FR : Nat → RW} {day ever mo n : Int32} {ea : Nat} {wr : Int32} {ch : Int64} {ring : Nat → Int32} {rest : va_W} {back : Int32} : tM l y_G_keeps tb ({ frames := 0, cells := 0, slots := 0, locals := 0 }) D cls (ty0 ca) A (zz e0 A) [.ref (K 3), .int back] (wC K ca RL LP fv FR day ever mo n ea wr ch ring rest) (pR (.int (bI (0 ≤ back ∧ back < 64 ∧ back < wr))) (wC K ca RL LP fv FR day ever mo n ea wr ch ring rest)) (xN) := by
  refine t_ofW (by decide) w_593 (Nat.le_of_ble_eq_true rfl) ?_
  intro p e s m below meth c ls hx hb hr hts hown hlk hnm hml hex hl hC
  have hown : s.vm.findClass "RetentionVault$Log" = some m.cls := hown
  have hl : lv_has ls 2 [(0, .ref (K 3)), (1, .int back)] := hl
  refine lv_iconst (v := 0) hx hb d_G_keeps_0 (by decide) ?_
  refine lv_iload_n hx hb d_G_keeps_1 rfl (lv_at hl 1 rfl) ?_
  refine lv_icmp_gt (tgt := 23) hx hb d_G_keeps_2 (by decide) (fun c2 => ?_) (fun c2 => ?_)
  · skip
    refine lv_iconst (v := 0) hx hb d_G_keeps_23 (by decide) ?_
    exact t_zret hx hb hr hlk (Or.inl rfl) zz_c hC (⟨by first | rfl | (simp only [bI, *]; rfl) | (simp [bI, *]; done) | (simp_all [bI, Int32.not_lt, Int32.not_le]; done) | (unfold bI; simp only [Int32.lt_iff_toInt_lt, Int32.le_iff_toInt_le] at *; split <;> first | rfl | (exfalso; omega)), rfl⟩) (Nat.le_of_ble_eq_true rfl) (Nat.le_of_ble_eq_true rfl) d_G_keeps_24
  · skip
    refine lv_iload_n hx hb d_G_keeps_5 rfl (lv_at hl 1 rfl) ?_
    refine lv_bipush (v := 64) hx hb d_G_keeps_6 (by decide) ?_
    refine lv_icmp_ge (tgt := 23) hx hb d_G_keeps_8 (by decide) (fun c8 => ?_) (fun c8 => ?_)
    · skip
      refine lv_iconst (v := 0) hx hb d_G_keeps_23 (by decide) ?_
      exact t_zret hx hb hr hlk (Or.inl rfl) zz_c hC (⟨by first | rfl | (simp only [bI, *]; rfl) | (simp [bI, *]; done) | (simp_all [bI, Int32.not_lt, Int32.not_le]; done) | (unfold bI; simp only [Int32.lt_iff_toInt_lt, Int32.le_iff_toInt_le] at *; split <;> first | rfl | (exfalso; omega)), rfl⟩) (Nat.le_of_ble_eq_true rfl) (Nat.le_of_ble_eq_true rfl) d_G_keeps_24
    · skip
      refine lv_iload_n hx hb d_G_keeps_11 rfl (lv_at hl 1 rfl) ?_
      refine lv_aload_n hx hb d_G_keeps_12 rfl (lv_at hl 0 rfl) ?_
      refine t_get (v := .int wr) hx hb hts inG hown hC 3 rfl rfl 1 (by decide) (hts _ w_85) (fun _ h => h) rfl d_G_keeps_13 ?_
      refine lv_icmp_ge (tgt := 23) hx hb d_G_keeps_16 (by decide) (fun c16 => ?_) (fun c16 => ?_)
      · skip
        refine lv_iconst (v := 0) hx hb d_G_keeps_23 (by decide) ?_
        exact t_zret hx hb hr hlk (Or.inl rfl) zz_c hC (⟨by first | rfl | (simp only [bI, *]; rfl) | (simp [bI, *]; done) | (simp_all [bI, Int32.not_lt, Int32.not_le]; done) | (unfold bI; simp only [Int32.lt_iff_toInt_lt, Int32.le_iff_toInt_le] at *; split <;> first | rfl | (exfalso; omega)), rfl⟩) (Nat.le_of_ble_eq_true rfl) (Nat.le_of_ble_eq_true rfl) d_G_keeps_24
      · skip
        refine lv_iconst (v := 1) hx hb d_G_keeps_19 (by decide) ?_
        refine lv_goto (tgt := 24) hx hb d_G_keeps_20 (by decide) ?_
        exact t_zret hx hb hr hlk (Or.inr rfl) zz_c hC (⟨by first | rfl | (simp only [bI, *]; rfl) | (simp [bI, *]; done) | (simp_all [bI, Int32.not_lt, Int32.not_le]; done) | (unfold bI; simp only [Int32.lt_iff_toInt_lt, Int32.le_iff_toInt_le] at *; split <;> first | rfl | (exfalso; omega)), rfl⟩) (Nat.le_of_ble_eq_true rfl) (Nat.le_of_ble_eq_true rfl) d_G_keeps_24

set_option maxRecDepth 100000 in
set_option maxHeartbeats 4000000 in
theorem c_G_numberOf {l : Launch} {D : va_G} {A : Nat → Prop} {e0 : Nat → Nat} {K : Nat → Nat} {ca : Nat → ClassId} {RL LP : List Nat} {fv FR : Nat → RW} {day ever mo n : Int32} {ea : Nat} {wr : Int32} {ch : Int64} {ring : Nat → Int32} {rest : va_W} {back what : Int32} (hin : vp_in (((wr - 1 - back) &&& 63) * 4 + what) 256) : tM l y_G_numberOf tb ({ frames := 1, cells := 0, slots := 0, locals := 20 }) D cls (ty0 ca) A (zz e0 A) [.ref (K 3), .int back, .int what] (wC K ca RL LP fv FR day ever mo n ea wr ch ring rest) (pR (.int (ring (((wr - 1 - back) &&& 63) * 4 + what).toNatClampNeg)) (wC K ca RL LP fv FR day ever mo n ea wr ch ring rest)) (xN) := by
  refine t_ofW (by decide) w_613 (Nat.le_of_ble_eq_true rfl) ?_
  intro p e s m below meth c ls hx hb hr hts hown hlk hnm hml hex hl hC
  have hown : s.vm.findClass "RetentionVault$Log" = some m.cls := hown
  have hl : lv_has ls 3 [(0, .ref (K 3)), (1, .int back), (2, .int what)] := hl
  refine lv_aload_n hx hb d_G_numberOf_0 rfl (lv_at hl 0 rfl) ?_
  refine t_get (v := .ref (K 4)) hx hb hts inG hown hC 3 rfl rfl 0 (by decide) (hts _ w_84) (fun _ h => h) rfl d_G_numberOf_1 ?_
  refine lv_aload_n hx hb d_G_numberOf_4 rfl (lv_at hl 0 rfl) ?_
  refine t_get (v := .int wr) hx hb hts inG hown hC 3 rfl rfl 1 (by decide) (hts _ w_85) (fun _ h => h) rfl d_G_numberOf_5 ?_
  refine lv_iconst (v := 1) hx hb d_G_numberOf_8 (by decide) ?_
  refine lv_isub hx hb d_G_numberOf_9 ?_
  refine lv_iload_n hx hb d_G_numberOf_10 rfl (lv_at hl 1 rfl) ?_
  refine lv_isub hx hb d_G_numberOf_11 ?_
  refine t_call (t_invS (As := [.int ((wr - 1) - back)]) (rest := [.ref (K 4)]) hx hb hown (hts _ w_380) (hts _ w_381) (hts _ w_6) (hts _ w_382) ⟨by decide, by decide⟩ rfl d_G_numberOf_12) (c_G_placeOf zz_c) zz_c tb_good hts w_6 hC (hl.1.trans hml.symm) ⟨Nat.le_of_ble_eq_true rfl, Nat.le_of_ble_eq_true rfl, Nat.le_of_ble_eq_true rfl, Nat.le_of_ble_eq_true rfl⟩ (Nat.le_of_ble_eq_true rfl) (fun E q ce w1 H1 l1 hp => hp.elim) (fun v w1 H locs hp hC => ?_)
  obtain ⟨rfl, hwe9⟩ := hp
  rw [hwe9] at hC
  have hC : tC D cls (ty0 ca) A (zz e0 A) s (wC K ca RL LP fv FR day ever mo n ea wr ch ring rest) H locs := hC
  refine W.eq (g2 := F0 m 15 ls [.int ((((wr - 1) - back) &&& 63) * 4), .ref (K 4)]) rfl ?_
  refine lv_iload_n hx hb d_G_numberOf_15 rfl (lv_at hl 2 rfl) ?_
  refine lv_iadd hx hb d_G_numberOf_16 ?_
  refine t_iald hx hb hC 4 0 rfl rfl (hin) d_G_numberOf_17 ?_
  exact t_iret hx hb hr hlk zz_c hC (⟨by first | rfl | (simp only [bI, *]; rfl) | (simp [bI, *]; done) | (simp_all [bI, Int32.not_lt, Int32.not_le]; done) | (unfold bI; simp only [Int32.lt_iff_toInt_lt, Int32.le_iff_toInt_le] at *; split <;> first | rfl | (exfalso; omega)), rfl⟩) (Nat.le_of_ble_eq_true rfl) (Nat.le_of_ble_eq_true rfl) d_G_numberOf_18

set_option maxRecDepth 100000 in
set_option maxHeartbeats 4000000 in
theorem c_U_isEmpty {l : Launch} {D : va_G} {A : Nat → Prop} {e0 : Nat → Nat} {K : Nat → Nat} {ca : Nat → ClassId} {RL LP : List Nat} {fv FR : Nat → RW} {day ever mo n : Int32} {ea : Nat} {wr : Int32} {ch : Int64} {ring : Nat → Int32} {rest : va_W} {u : Nat} (hu : u ∈ RL) : tM l y_U_isEmpty tb ({ frames := 0, cells := 0, slots := 0, locals := 0 }) D cls (ty0 ca) A (zz e0 A) [.ref u] (wC K ca RL LP fv FR day ever mo n ea wr ch ring rest) (pR (.int (bI (FR u 3 = 0))) (wC K ca RL LP fv FR day ever mo n ea wr ch ring rest)) (xN) := by
  refine t_ofW (by decide) w_496 (Nat.le_of_ble_eq_true rfl) ?_
  intro p e s m below meth c ls hx hb hr hts hown hlk hnm hml hex hl hC
  have hown : s.vm.findClass "RetentionVault$Rule" = some m.cls := hown
  have hl : lv_has ls 1 [(0, .ref u)] := hl
  refine lv_aload_n hx hb d_U_isEmpty_0 rfl (lv_at hl 0 rfl) ?_
  refine t_getP hx hb hts inU hown (wC_R hC) hu rfl 3 (by decide) (hts _ w_66) (fun _ h => h) d_U_isEmpty_1 ?_
  refine lv_if_ne (tgt := 11) hx hb d_U_isEmpty_4 (by decide) (fun c4 => ?_) (fun c4 => ?_)
  · skip
    refine lv_iconst (v := 0) hx hb d_U_isEmpty_11 (by decide) ?_
    exact t_zret hx hb hr hlk (Or.inl rfl) zz_c hC (⟨by first | rfl | (simp only [bI, *]; rfl) | (simp [bI, *]; done) | (simp_all [bI, Int32.not_lt, Int32.not_le]; done) | (unfold bI; simp only [Int32.lt_iff_toInt_lt, Int32.le_iff_toInt_le] at *; split <;> first | rfl | (exfalso; omega)), rfl⟩) (Nat.le_of_ble_eq_true rfl) (Nat.le_of_ble_eq_true rfl) d_U_isEmpty_12
  · skip
    refine lv_iconst (v := 1) hx hb d_U_isEmpty_7 (by decide) ?_
    refine lv_goto (tgt := 12) hx hb d_U_isEmpty_8 (by decide) ?_
    exact t_zret hx hb hr hlk (Or.inr rfl) zz_c hC (⟨by first | rfl | (simp only [bI, *]; rfl) | (simp [bI, *]; done) | (simp_all [bI, Int32.not_lt, Int32.not_le]; done) | (unfold bI; simp only [Int32.lt_iff_toInt_lt, Int32.le_iff_toInt_le] at *; split <;> first | rfl | (exfalso; omega)), rfl⟩) (Nat.le_of_ble_eq_true rfl) (Nat.le_of_ble_eq_true rfl) d_U_isEmpty_12

set_option maxRecDepth 100000 in
set_option maxHeartbeats 4000000 in
theorem c_U_become {l : Launch} {D : va_G} {A : Nat → Prop} {e0 : Nat → Nat} {K : Nat → Nat} {ca : Nat → ClassId} {RL LP : List Nat} {fv FR : Nat → RW} {day ever mo n : Int32} {ea : Nat} {wr : Int32} {ch : Int64} {ring : Nat → Int32} {rest : va_W} {u : Nat} {tg cu da ac : Int32} (hu : u ∈ RL) (hb01 : cu = 0 ∨ cu = 1) : tM l y_U_become tb ({ frames := 0, cells := 0, slots := 0, locals := 0 }) D cls (ty0 ca) A (zz e0 A) [.ref u, .int tg, .int cu, .int da, .int ac] (wC K ca RL LP fv FR day ever mo n ea wr ch ring rest) (fun v w2 => v = none ∧ w2 = wC K ca RL LP fv (va_up FR u (upd (upd (upd (upd (FR u) 0 tg) 1 cu) 2 da) 3 ac)) day ever mo n ea wr ch ring rest) (xN) := by
  refine t_ofW (by decide) w_485 (Nat.le_of_ble_eq_true rfl) ?_
  intro p e s m below meth c ls hx hb hr hts hown hlk hnm hml hex hl hC
  have hown : s.vm.findClass "RetentionVault$Rule" = some m.cls := hown
  have hl : lv_has ls 5 [(0, .ref u), (1, .int tg), (2, .int cu), (3, .int da), (4, .int ac)] := hl
  refine lv_aload_n hx hb d_U_become_0 rfl (lv_at hl 0 rfl) ?_
  refine lv_iload_n hx hb d_U_become_1 rfl (lv_at hl 1 rfl) ?_
  refine t_putP (ty := .int) hx hb hts inU TU tyU nmU hown (wC_R hC) hu rfl 0 (by decide) (hts _ w_63) (fun _ h => h) (Or.inl rfl) (by decide +kernel) rfl rfl d_U_become_2 (fun H locs hC => ?_)
  have hC := wC_ofR hC
  have hC : tC D cls (ty0 ca) A (zz e0 A) s (wC K ca RL LP fv (va_up FR u (upd (FR u) 0 tg)) day ever mo n ea wr ch ring rest) H locs := hC
  refine lv_aload_n hx hb d_U_become_5 rfl (lv_at hl 0 rfl) ?_
  refine lv_iload_n hx hb d_U_become_6 rfl (lv_at hl 2 rfl) ?_
  refine t_putP (ty := .boolean) hx hb hts inU TU tyU nmU hown (wC_R hC) hu rfl 1 (by decide) (hts _ w_64) (fun _ h => h) (Or.inl rfl) (by decide +kernel) (by rcases hb01 with rfl | rfl <;> rfl) (by rcases hb01 with rfl | rfl <;> rfl) d_U_become_7 (fun H locs hC => ?_)
  have hC := wC_ofR hC
  have hC : tC D cls (ty0 ca) A (zz e0 A) s (wC K ca RL LP fv (va_up (va_up FR u (upd (FR u) 0 tg)) u (upd ((va_up FR u (upd (FR u) 0 tg)) u) 1 cu)) day ever mo n ea wr ch ring rest) H locs := hC
  refine lv_aload_n hx hb d_U_become_10 rfl (lv_at hl 0 rfl) ?_
  refine lv_iload_n hx hb d_U_become_11 rfl (lv_at hl 3 rfl) ?_
  refine t_putP (ty := .int) hx hb hts inU TU tyU nmU hown (wC_R hC) hu rfl 2 (by decide) (hts _ w_65) (fun _ h => h) (Or.inl rfl) (by decide +kernel) rfl rfl d_U_become_12 (fun H locs hC => ?_)
  have hC := wC_ofR hC
  have hC : tC D cls (ty0 ca) A (zz e0 A) s (wC K ca RL LP fv (va_up (va_up (va_up FR u (upd (FR u) 0 tg)) u (upd ((va_up FR u (upd (FR u) 0 tg)) u) 1 cu)) u (upd ((va_up (va_up FR u (upd (FR u) 0 tg)) u (upd ((va_up FR u (upd (FR u) 0 tg)) u) 1 cu)) u) 2 da)) day ever mo n ea wr ch ring rest) H locs := hC
  refine lv_aload_n hx hb d_U_become_15 rfl (lv_at hl 0 rfl) ?_
  refine lv_iload hx hb d_U_become_16 (lv_at hl 4 rfl) ?_
  refine t_putP (ty := .int) hx hb hts inU TU tyU nmU hown (wC_R hC) hu rfl 3 (by decide) (hts _ w_66) (fun _ h => h) (Or.inl rfl) (by decide +kernel) rfl rfl d_U_become_18 (fun H locs hC => ?_)
  have hC := wC_ofR hC
  have hC : tC D cls (ty0 ca) A (zz e0 A) s (wC K ca RL LP fv (va_up (va_up (va_up (va_up FR u (upd (FR u) 0 tg)) u (upd ((va_up FR u (upd (FR u) 0 tg)) u) 1 cu)) u (upd ((va_up (va_up FR u (upd (FR u) 0 tg)) u (upd ((va_up FR u (upd (FR u) 0 tg)) u) 1 cu)) u) 2 da)) u (upd ((va_up (va_up (va_up FR u (upd (FR u) 0 tg)) u (upd ((va_up FR u (upd (FR u) 0 tg)) u) 1 cu)) u (upd ((va_up (va_up FR u (upd (FR u) 0 tg)) u (upd ((va_up FR u (upd (FR u) 0 tg)) u) 1 cu)) u) 2 da)) u) 3 ac)) day ever mo n ea wr ch ring rest) H locs := hC
  exact t_vret hx hb hr hlk zz_c hC (⟨rfl, up_fold4⟩) (Nat.le_of_ble_eq_true rfl) (Nat.le_of_ble_eq_true rfl) d_U_become_21

set_option maxRecDepth 100000 in
set_option maxHeartbeats 4000000 in
theorem c_U_isDue {l : Launch} {D : va_G} {A : Nat → Prop} {e0 : Nat → Nat} {K : Nat → Nat} {ca : Nat → ClassId} {RL LP : List Nat} {fv FR : Nat → RW} {day ever mo n : Int32} {ea : Nat} {wr : Int32} {ch : Int64} {ring : Nat → Int32} {rest : va_W} {u a : Nat} {today : Int32} (hu : u ∈ RL) (ha : a ∈ LP) : tM l y_U_isDue tb ({ frames := 1, cells := 0, slots := 0, locals := 20 }) D cls (ty0 ca) A (zz e0 A) [.ref u, .ref a, .int today] (wC K ca RL LP fv FR day ever mo n ea wr ch ring rest) (pR (.int (bI (FR u 3 ≠ 0 ∧ (FR u 0 = -1 ∨ FR u 0 = fv a 4) ∧ FR u 1 = fv a 6 ∧ ¬ today < (if fv a 6 = 0 then fv a 7 else fv a 2) + FR u 2))) (wC K ca RL LP fv FR day ever mo n ea wr ch ring rest)) (xN) := by
  refine t_ofW (by decide) w_539 (Nat.le_of_ble_eq_true rfl) ?_
  intro p e s m below meth c ls hx hb hr hts hown hlk hnm hml hex hl hC
  have hown : s.vm.findClass "RetentionVault$Rule" = some m.cls := hown
  have hl : lv_has ls 3 [(0, .ref u), (1, .ref a), (2, .int today)] := hl
  refine lv_aload_n hx hb d_U_isDue_0 rfl (lv_at hl 0 rfl) ?_
  refine t_call (t_invV (As := []) (rest := []) hx hb hown (hts _ w_540) (hts _ w_494) (hts _ w_495) (hts _ w_496) ⟨by decide, by decide⟩ (t_recvP (wC_R hC) hu rfl rfl) rfl d_U_isDue_1) (c_U_isEmpty hu) zz_c tb_good hts w_5 hC (hl.1.trans hml.symm) ⟨Nat.le_of_ble_eq_true rfl, Nat.le_of_ble_eq_true rfl, Nat.le_of_ble_eq_true rfl, Nat.le_of_ble_eq_true rfl⟩ (Nat.le_of_ble_eq_true rfl) (fun E q ce w1 H1 l1 hp => hp.elim) (fun v w1 H locs hp hC => ?_)
  obtain ⟨rfl, hwe9⟩ := hp
  rw [hwe9] at hC
  have hC : tC D cls (ty0 ca) A (zz e0 A) s (wC K ca RL LP fv FR day ever mo n ea wr ch ring rest) H locs := hC
  refine W.eq (g2 := F0 m 4 ls [.int (bI (FR u 3 = 0))]) rfl ?_
  refine lv_if_ne (tgt := 54) hx hb d_U_isDue_4 (by decide) (fun c4 => ?_) (fun c4 => ?_)
  · skip
    refine lv_iconst (v := 0) hx hb d_U_isDue_54 (by decide) ?_
    exact t_zret hx hb hr hlk (Or.inl rfl) zz_c hC (⟨by first | rfl | (simp only [bI, *]; rfl) | (simp [bI, *]; done) | (simp_all [bI, Int32.not_lt, Int32.not_le]; done) | (unfold bI; simp only [Int32.lt_iff_toInt_lt, Int32.le_iff_toInt_le] at *; split <;> first | rfl | (exfalso; omega)), rfl⟩) (Nat.le_of_ble_eq_true rfl) (Nat.le_of_ble_eq_true rfl) d_U_isDue_55
  · skip
    refine lv_aload_n hx hb d_U_isDue_7 rfl (lv_at hl 0 rfl) ?_
    refine t_getP hx hb hts inU hown (wC_R hC) hu rfl 0 (by decide) (hts _ w_63) (fun _ h => h) d_U_isDue_8 ?_
    refine lv_iconst (v := (-1)) hx hb d_U_isDue_11 (by decide) ?_
    refine lv_icmp_eq (tgt := 26) hx hb d_U_isDue_12 (by decide) (fun c12 => ?_) (fun c12 => ?_)
    · skip
      refine lv_aload_n hx hb d_U_isDue_26 rfl (lv_at hl 0 rfl) ?_
      refine t_getP hx hb hts inU hown (wC_R hC) hu rfl 1 (by decide) (hts _ w_64) (fun _ h => h) d_U_isDue_27 ?_
      refine lv_aload_n hx hb d_U_isDue_30 rfl (lv_at hl 1 rfl) ?_
      refine t_getP hx hb hts inN hown hC ha rfl 6 (by decide) (hts _ w_248) (fun _ h => h) d_U_isDue_31 ?_
      refine lv_icmp_ne (tgt := 54) hx hb d_U_isDue_34 (by decide) (fun c34 => ?_) (fun c34 => ?_)
      · skip
        refine lv_iconst (v := 0) hx hb d_U_isDue_54 (by decide) ?_
        exact t_zret hx hb hr hlk (Or.inl rfl) zz_c hC (⟨by first | rfl | (simp only [bI, *]; rfl) | (simp [bI, *]; done) | (simp_all [bI, Int32.not_lt, Int32.not_le]; done) | (unfold bI; simp only [Int32.lt_iff_toInt_lt, Int32.le_iff_toInt_le] at *; split <;> first | rfl | (exfalso; omega)), rfl⟩) (Nat.le_of_ble_eq_true rfl) (Nat.le_of_ble_eq_true rfl) d_U_isDue_55
      · skip
        refine lv_iload_n hx hb d_U_isDue_37 rfl (lv_at hl 2 rfl) ?_
        refine lv_aload_n hx hb d_U_isDue_38 rfl (lv_at hl 1 rfl) ?_
        refine t_call (t_invV (As := []) (rest := [.int today]) hx hb hown (hts _ w_541) (hts _ w_542) (hts _ w_543) (hts _ w_544) ⟨by decide, by decide⟩ (t_recvP hC ha rfl rfl) rfl d_U_isDue_39) (c_N_since zz_c ha) zz_c tb_good hts w_13 hC (hl.1.trans hml.symm) ⟨Nat.le_of_ble_eq_true rfl, Nat.le_of_ble_eq_true rfl, Nat.le_of_ble_eq_true rfl, Nat.le_of_ble_eq_true rfl⟩ (Nat.le_of_ble_eq_true rfl) (fun E q ce w1 H1 l1 hp => hp.elim) (fun v w1 H locs hp hC => ?_)
        obtain ⟨rfl, hwe9⟩ := hp
        rw [hwe9] at hC
        have hC : tC D cls (ty0 ca) A (zz e0 A) s (wC K ca RL LP fv FR day ever mo n ea wr ch ring rest) H locs := hC
        refine W.eq (g2 := F0 m 42 ls [.int (if fv a 6 = 0 then fv a 7 else fv a 2), .int today]) rfl ?_
        refine lv_aload_n hx hb d_U_isDue_42 rfl (lv_at hl 0 rfl) ?_
        refine t_getP hx hb hts inU hown (wC_R hC) hu rfl 2 (by decide) (hts _ w_65) (fun _ h => h) d_U_isDue_43 ?_
        refine lv_iadd hx hb d_U_isDue_46 ?_
        refine lv_icmp_lt (tgt := 54) hx hb d_U_isDue_47 (by decide) (fun c47 => ?_) (fun c47 => ?_)
        · skip
          refine lv_iconst (v := 0) hx hb d_U_isDue_54 (by decide) ?_
          exact t_zret hx hb hr hlk (Or.inl rfl) zz_c hC (⟨by first | rfl | (simp only [bI, *]; rfl) | (simp [bI, *]; done) | (simp_all [bI, Int32.not_lt, Int32.not_le]; done) | (unfold bI; simp only [Int32.lt_iff_toInt_lt, Int32.le_iff_toInt_le] at *; split <;> first | rfl | (exfalso; omega)), rfl⟩) (Nat.le_of_ble_eq_true rfl) (Nat.le_of_ble_eq_true rfl) d_U_isDue_55
        · skip
          refine lv_iconst (v := 1) hx hb d_U_isDue_50 (by decide) ?_
          refine lv_goto (tgt := 55) hx hb d_U_isDue_51 (by decide) ?_
          exact t_zret hx hb hr hlk (Or.inr rfl) zz_c hC (⟨by first | rfl | (simp only [bI, *]; rfl) | (simp [bI, *]; done) | (simp_all [bI, Int32.not_lt, Int32.not_le]; done) | (unfold bI; simp only [Int32.lt_iff_toInt_lt, Int32.le_iff_toInt_le] at *; split <;> first | rfl | (exfalso; omega)), rfl⟩) (Nat.le_of_ble_eq_true rfl) (Nat.le_of_ble_eq_true rfl) d_U_isDue_55
    · skip
      refine lv_aload_n hx hb d_U_isDue_15 rfl (lv_at hl 0 rfl) ?_
      refine t_getP hx hb hts inU hown (wC_R hC) hu rfl 0 (by decide) (hts _ w_63) (fun _ h => h) d_U_isDue_16 ?_
      refine lv_aload_n hx hb d_U_isDue_19 rfl (lv_at hl 1 rfl) ?_
      refine t_getP hx hb hts inN hown hC ha rfl 4 (by decide) (hts _ w_244) (fun _ h => h) d_U_isDue_20 ?_
      refine lv_icmp_ne (tgt := 54) hx hb d_U_isDue_23 (by decide) (fun c23 => ?_) (fun c23 => ?_)
      · skip
        refine lv_iconst (v := 0) hx hb d_U_isDue_54 (by decide) ?_
        exact t_zret hx hb hr hlk (Or.inl rfl) zz_c hC (⟨by first | rfl | (simp only [bI, *]; rfl) | (simp [bI, *]; done) | (simp_all [bI, Int32.not_lt, Int32.not_le]; done) | (unfold bI; simp only [Int32.lt_iff_toInt_lt, Int32.le_iff_toInt_le] at *; split <;> first | rfl | (exfalso; omega)), rfl⟩) (Nat.le_of_ble_eq_true rfl) (Nat.le_of_ble_eq_true rfl) d_U_isDue_55
      · skip
        refine lv_aload_n hx hb d_U_isDue_26 rfl (lv_at hl 0 rfl) ?_
        refine t_getP hx hb hts inU hown (wC_R hC) hu rfl 1 (by decide) (hts _ w_64) (fun _ h => h) d_U_isDue_27 ?_
        refine lv_aload_n hx hb d_U_isDue_30 rfl (lv_at hl 1 rfl) ?_
        refine t_getP hx hb hts inN hown hC ha rfl 6 (by decide) (hts _ w_248) (fun _ h => h) d_U_isDue_31 ?_
        refine lv_icmp_ne (tgt := 54) hx hb d_U_isDue_34 (by decide) (fun c34 => ?_) (fun c34 => ?_)
        · skip
          refine lv_iconst (v := 0) hx hb d_U_isDue_54 (by decide) ?_
          exact t_zret hx hb hr hlk (Or.inl rfl) zz_c hC (⟨by first | rfl | (simp only [bI, *]; rfl) | (simp [bI, *]; done) | (simp_all [bI, Int32.not_lt, Int32.not_le]; done) | (unfold bI; simp only [Int32.lt_iff_toInt_lt, Int32.le_iff_toInt_le] at *; split <;> first | rfl | (exfalso; omega)), rfl⟩) (Nat.le_of_ble_eq_true rfl) (Nat.le_of_ble_eq_true rfl) d_U_isDue_55
        · skip
          refine lv_iload_n hx hb d_U_isDue_37 rfl (lv_at hl 2 rfl) ?_
          refine lv_aload_n hx hb d_U_isDue_38 rfl (lv_at hl 1 rfl) ?_
          refine t_call (t_invV (As := []) (rest := [.int today]) hx hb hown (hts _ w_541) (hts _ w_542) (hts _ w_543) (hts _ w_544) ⟨by decide, by decide⟩ (t_recvP hC ha rfl rfl) rfl d_U_isDue_39) (c_N_since zz_c ha) zz_c tb_good hts w_13 hC (hl.1.trans hml.symm) ⟨Nat.le_of_ble_eq_true rfl, Nat.le_of_ble_eq_true rfl, Nat.le_of_ble_eq_true rfl, Nat.le_of_ble_eq_true rfl⟩ (Nat.le_of_ble_eq_true rfl) (fun E q ce w1 H1 l1 hp => hp.elim) (fun v w1 H locs hp hC => ?_)
          obtain ⟨rfl, hwe9⟩ := hp
          rw [hwe9] at hC
          have hC : tC D cls (ty0 ca) A (zz e0 A) s (wC K ca RL LP fv FR day ever mo n ea wr ch ring rest) H locs := hC
          refine W.eq (g2 := F0 m 42 ls [.int (if fv a 6 = 0 then fv a 7 else fv a 2), .int today]) rfl ?_
          refine lv_aload_n hx hb d_U_isDue_42 rfl (lv_at hl 0 rfl) ?_
          refine t_getP hx hb hts inU hown (wC_R hC) hu rfl 2 (by decide) (hts _ w_65) (fun _ h => h) d_U_isDue_43 ?_
          refine lv_iadd hx hb d_U_isDue_46 ?_
          refine lv_icmp_lt (tgt := 54) hx hb d_U_isDue_47 (by decide) (fun c47 => ?_) (fun c47 => ?_)
          · skip
            refine lv_iconst (v := 0) hx hb d_U_isDue_54 (by decide) ?_
            exact t_zret hx hb hr hlk (Or.inl rfl) zz_c hC (⟨by first | rfl | (simp only [bI, *]; rfl) | (simp [bI, *]; done) | (simp_all [bI, Int32.not_lt, Int32.not_le]; done) | (unfold bI; simp only [Int32.lt_iff_toInt_lt, Int32.le_iff_toInt_le] at *; split <;> first | rfl | (exfalso; omega)), rfl⟩) (Nat.le_of_ble_eq_true rfl) (Nat.le_of_ble_eq_true rfl) d_U_isDue_55
          · skip
            refine lv_iconst (v := 1) hx hb d_U_isDue_50 (by decide) ?_
            refine lv_goto (tgt := 55) hx hb d_U_isDue_51 (by decide) ?_
            exact t_zret hx hb hr hlk (Or.inr rfl) zz_c hC (⟨by first | rfl | (simp only [bI, *]; rfl) | (simp [bI, *]; done) | (simp_all [bI, Int32.not_lt, Int32.not_le]; done) | (unfold bI; simp only [Int32.lt_iff_toInt_lt, Int32.le_iff_toInt_le] at *; split <;> first | rfl | (exfalso; omega)), rfl⟩) (Nat.le_of_ble_eq_true rfl) (Nat.le_of_ble_eq_true rfl) d_U_isDue_55
end
section
/-! Words of the throws; constructors of versions; reading the list; the vault's small methods. Laid by program (wip/whole/p12.py) -/
theorem at_IAE : ∀ z ∈ tAtoms "RetentionVault" 171 "java/lang/IllegalArgumentException" 7 prog_10_method_2_code "java/lang/RuntimeException" ["java/lang/Exception"], z ∈ tb ∨ z ∈ zX4 :=
  List.forall_mem_cons.mpr ⟨Or.inl w_8, List.forall_mem_cons.mpr ⟨Or.inl w_155, List.forall_mem_cons.mpr ⟨Or.inl w_164, List.forall_mem_cons.mpr ⟨Or.inl w_169, List.forall_mem_cons.mpr ⟨Or.inl w_172, List.forall_mem_cons.mpr ⟨Or.inl w_174, List.forall_mem_cons.mpr ⟨Or.inl w_156, List.forall_mem_cons.mpr ⟨Or.inl w_157, List.forall_mem_cons.mpr ⟨Or.inl w_28, List.forall_mem_cons.mpr ⟨Or.inl w_29, List.forall_mem_cons.mpr ⟨Or.inl w_158, List.forall_mem_cons.mpr ⟨Or.inl w_163, List.forall_mem_cons.mpr ⟨Or.inl w_170, List.forall_mem_cons.mpr ⟨Or.inl w_190, List.forall_mem_cons.mpr ⟨Or.inl w_145, List.forall_mem_cons.mpr ⟨Or.inl w_191, List.forall_mem_cons.mpr ⟨Or.inl w_147, List.forall_mem_cons.mpr ⟨Or.inl w_192, List.forall_mem_cons.mpr ⟨Or.inl w_149, List.forall_mem_cons.mpr ⟨Or.inl w_159, List.forall_mem_cons.mpr ⟨Or.inr (by decide +kernel), List.forall_mem_cons.mpr ⟨Or.inl w_161, List.forall_mem_cons.mpr ⟨Or.inr (by decide +kernel), List.forall_mem_cons.mpr ⟨Or.inl w_151, List.forall_mem_cons.mpr ⟨Or.inl w_186, List.forall_mem_cons.mpr ⟨Or.inl w_187, List.forall_mem_cons.mpr ⟨Or.inl w_189, List.forall_mem_cons.mpr ⟨Or.inl w_151, List.forall_mem_cons.mpr ⟨Or.inl w_177, List.forall_mem_cons.mpr ⟨Or.inl w_178, List.forall_mem_cons.mpr ⟨Or.inl w_179, List.forall_mem_cons.mpr ⟨Or.inl w_180, List.forall_mem_cons.mpr ⟨Or.inr (by decide +kernel), List.forall_mem_cons.mpr ⟨Or.inl w_180, List.forall_mem_cons.mpr ⟨Or.inl w_181, List.forall_mem_cons.mpr ⟨Or.inl w_182, List.forall_mem_cons.mpr ⟨Or.inl w_183, List.forall_mem_cons.mpr ⟨Or.inr (by decide +kernel), List.forall_mem_cons.mpr ⟨Or.inl w_183, List.forall_mem_cons.mpr ⟨Or.inl w_184, List.forall_mem_cons.mpr ⟨Or.inl w_185, List.forall_mem_cons.mpr ⟨Or.inl w_186, List.forall_mem_cons.mpr ⟨Or.inr (by decide +kernel), List.forall_mem_cons.mpr ⟨Or.inl w_176, List.forall_mem_cons.mpr ⟨Or.inl w_134, List.forall_mem_cons.mpr ⟨Or.inr (by decide +kernel), List.forall_mem_cons.mpr ⟨Or.inl w_142, List.forall_mem_cons.mpr ⟨Or.inl w_143, List.forall_mem_cons.mpr ⟨Or.inl w_144, List.forall_mem_cons.mpr ⟨Or.inl w_146, List.forall_mem_cons.mpr ⟨Or.inl w_148, List.forall_mem_cons.mpr ⟨Or.inl w_150, List.forall_mem_cons.mpr ⟨Or.inr (by decide +kernel), List.forall_mem_cons.mpr ⟨Or.inr (by decide +kernel), List.forall_mem_cons.mpr ⟨Or.inl w_154, List.forall_mem_cons.mpr ⟨Or.inl w_153, List.forall_mem_cons.mpr ⟨Or.inl w_152, fun _ h => absurd h List.not_mem_nil⟩⟩⟩⟩⟩⟩⟩⟩⟩⟩⟩⟩⟩⟩⟩⟩⟩⟩⟩⟩⟩⟩⟩⟩⟩⟩⟩⟩⟩⟩⟩⟩⟩⟩⟩⟩⟩⟩⟩⟩⟩⟩⟩⟩⟩⟩⟩⟩⟩⟩⟩⟩⟩⟩⟩⟩⟩
theorem at_ISE : ∀ z ∈ tAtoms "RetentionVault" 84 "java/lang/IllegalStateException" 7 prog_11_method_2_code "java/lang/RuntimeException" ["java/lang/Exception"], z ∈ tb ∨ z ∈ zX4 :=
  List.forall_mem_cons.mpr ⟨Or.inl w_8, List.forall_mem_cons.mpr ⟨Or.inl w_155, List.forall_mem_cons.mpr ⟨Or.inl w_164, List.forall_mem_cons.mpr ⟨Or.inl w_169, List.forall_mem_cons.mpr ⟨Or.inl w_172, List.forall_mem_cons.mpr ⟨Or.inl w_174, List.forall_mem_cons.mpr ⟨Or.inl w_156, List.forall_mem_cons.mpr ⟨Or.inl w_157, List.forall_mem_cons.mpr ⟨Or.inl w_28, List.forall_mem_cons.mpr ⟨Or.inl w_29, List.forall_mem_cons.mpr ⟨Or.inl w_158, List.forall_mem_cons.mpr ⟨Or.inl w_163, List.forall_mem_cons.mpr ⟨Or.inl w_170, List.forall_mem_cons.mpr ⟨Or.inl w_190, List.forall_mem_cons.mpr ⟨Or.inl w_145, List.forall_mem_cons.mpr ⟨Or.inl w_191, List.forall_mem_cons.mpr ⟨Or.inl w_147, List.forall_mem_cons.mpr ⟨Or.inl w_192, List.forall_mem_cons.mpr ⟨Or.inl w_149, List.forall_mem_cons.mpr ⟨Or.inl w_159, List.forall_mem_cons.mpr ⟨Or.inr (by decide +kernel), List.forall_mem_cons.mpr ⟨Or.inl w_161, List.forall_mem_cons.mpr ⟨Or.inr (by decide +kernel), List.forall_mem_cons.mpr ⟨Or.inl w_151, List.forall_mem_cons.mpr ⟨Or.inl w_186, List.forall_mem_cons.mpr ⟨Or.inl w_187, List.forall_mem_cons.mpr ⟨Or.inl w_189, List.forall_mem_cons.mpr ⟨Or.inl w_151, List.forall_mem_cons.mpr ⟨Or.inl w_225, List.forall_mem_cons.mpr ⟨Or.inl w_226, List.forall_mem_cons.mpr ⟨Or.inl w_227, List.forall_mem_cons.mpr ⟨Or.inl w_180, List.forall_mem_cons.mpr ⟨Or.inr (by decide +kernel), List.forall_mem_cons.mpr ⟨Or.inl w_180, List.forall_mem_cons.mpr ⟨Or.inl w_181, List.forall_mem_cons.mpr ⟨Or.inl w_182, List.forall_mem_cons.mpr ⟨Or.inl w_183, List.forall_mem_cons.mpr ⟨Or.inr (by decide +kernel), List.forall_mem_cons.mpr ⟨Or.inl w_183, List.forall_mem_cons.mpr ⟨Or.inl w_184, List.forall_mem_cons.mpr ⟨Or.inl w_185, List.forall_mem_cons.mpr ⟨Or.inl w_186, List.forall_mem_cons.mpr ⟨Or.inr (by decide +kernel), List.forall_mem_cons.mpr ⟨Or.inl w_224, List.forall_mem_cons.mpr ⟨Or.inl w_215, List.forall_mem_cons.mpr ⟨Or.inr (by decide +kernel), List.forall_mem_cons.mpr ⟨Or.inl w_217, List.forall_mem_cons.mpr ⟨Or.inl w_166, List.forall_mem_cons.mpr ⟨Or.inl w_218, List.forall_mem_cons.mpr ⟨Or.inl w_219, List.forall_mem_cons.mpr ⟨Or.inl w_220, List.forall_mem_cons.mpr ⟨Or.inl w_221, List.forall_mem_cons.mpr ⟨Or.inr (by decide +kernel), List.forall_mem_cons.mpr ⟨Or.inr (by decide +kernel), List.forall_mem_cons.mpr ⟨Or.inl w_154, List.forall_mem_cons.mpr ⟨Or.inl w_153, List.forall_mem_cons.mpr ⟨Or.inl w_222, fun _ h => absurd h List.not_mem_nil⟩⟩⟩⟩⟩⟩⟩⟩⟩⟩⟩⟩⟩⟩⟩⟩⟩⟩⟩⟩⟩⟩⟩⟩⟩⟩⟩⟩⟩⟩⟩⟩⟩⟩⟩⟩⟩⟩⟩⟩⟩⟩⟩⟩⟩⟩⟩⟩⟩⟩⟩⟩⟩⟩⟩⟩⟩
theorem at_NSE : ∀ z ∈ tAtoms "RetentionVault" 213 "java/util/NoSuchElementException" 13 prog_25_method_4_code "java/lang/RuntimeException" ["java/lang/Exception"], z ∈ tb ∨ z ∈ zX4 :=
  List.forall_mem_cons.mpr ⟨Or.inl w_8, List.forall_mem_cons.mpr ⟨Or.inl w_155, List.forall_mem_cons.mpr ⟨Or.inl w_164, List.forall_mem_cons.mpr ⟨Or.inl w_169, List.forall_mem_cons.mpr ⟨Or.inl w_172, List.forall_mem_cons.mpr ⟨Or.inl w_174, List.forall_mem_cons.mpr ⟨Or.inl w_156, List.forall_mem_cons.mpr ⟨Or.inl w_157, List.forall_mem_cons.mpr ⟨Or.inl w_28, List.forall_mem_cons.mpr ⟨Or.inl w_29, List.forall_mem_cons.mpr ⟨Or.inl w_158, List.forall_mem_cons.mpr ⟨Or.inl w_163, List.forall_mem_cons.mpr ⟨Or.inl w_170, List.forall_mem_cons.mpr ⟨Or.inl w_190, List.forall_mem_cons.mpr ⟨Or.inl w_145, List.forall_mem_cons.mpr ⟨Or.inl w_191, List.forall_mem_cons.mpr ⟨Or.inl w_147, List.forall_mem_cons.mpr ⟨Or.inl w_192, List.forall_mem_cons.mpr ⟨Or.inl w_149, List.forall_mem_cons.mpr ⟨Or.inl w_159, List.forall_mem_cons.mpr ⟨Or.inr (by decide +kernel), List.forall_mem_cons.mpr ⟨Or.inl w_161, List.forall_mem_cons.mpr ⟨Or.inr (by decide +kernel), List.forall_mem_cons.mpr ⟨Or.inl w_151, List.forall_mem_cons.mpr ⟨Or.inl w_186, List.forall_mem_cons.mpr ⟨Or.inl w_187, List.forall_mem_cons.mpr ⟨Or.inl w_189, List.forall_mem_cons.mpr ⟨Or.inl w_151, List.forall_mem_cons.mpr ⟨Or.inl w_411, List.forall_mem_cons.mpr ⟨Or.inl w_412, List.forall_mem_cons.mpr ⟨Or.inl w_413, List.forall_mem_cons.mpr ⟨Or.inl w_180, List.forall_mem_cons.mpr ⟨Or.inr (by decide +kernel), List.forall_mem_cons.mpr ⟨Or.inl w_180, List.forall_mem_cons.mpr ⟨Or.inl w_181, List.forall_mem_cons.mpr ⟨Or.inl w_182, List.forall_mem_cons.mpr ⟨Or.inl w_183, List.forall_mem_cons.mpr ⟨Or.inr (by decide +kernel), List.forall_mem_cons.mpr ⟨Or.inl w_183, List.forall_mem_cons.mpr ⟨Or.inl w_184, List.forall_mem_cons.mpr ⟨Or.inl w_185, List.forall_mem_cons.mpr ⟨Or.inl w_186, List.forall_mem_cons.mpr ⟨Or.inr (by decide +kernel), List.forall_mem_cons.mpr ⟨Or.inl w_410, List.forall_mem_cons.mpr ⟨Or.inl w_401, List.forall_mem_cons.mpr ⟨Or.inr (by decide +kernel), List.forall_mem_cons.mpr ⟨Or.inl w_403, List.forall_mem_cons.mpr ⟨Or.inl w_168, List.forall_mem_cons.mpr ⟨Or.inl w_404, List.forall_mem_cons.mpr ⟨Or.inl w_405, List.forall_mem_cons.mpr ⟨Or.inl w_406, List.forall_mem_cons.mpr ⟨Or.inl w_407, List.forall_mem_cons.mpr ⟨Or.inr (by decide +kernel), List.forall_mem_cons.mpr ⟨Or.inr (by decide +kernel), List.forall_mem_cons.mpr ⟨Or.inl w_154, List.forall_mem_cons.mpr ⟨Or.inl w_153, List.forall_mem_cons.mpr ⟨Or.inl w_408, fun _ h => absurd h List.not_mem_nil⟩⟩⟩⟩⟩⟩⟩⟩⟩⟩⟩⟩⟩⟩⟩⟩⟩⟩⟩⟩⟩⟩⟩⟩⟩⟩⟩⟩⟩⟩⟩⟩⟩⟩⟩⟩⟩⟩⟩⟩⟩⟩⟩⟩⟩⟩⟩⟩⟩⟩⟩⟩⟩⟩⟩⟩⟩
theorem at_IOB : ∀ z ∈ tAtoms "RetentionVault" 179 "java/lang/IndexOutOfBoundsException" 7 prog_12_method_2_code "java/lang/RuntimeException" ["java/lang/Exception"], z ∈ tb ∨ z ∈ zX4 :=
  List.forall_mem_cons.mpr ⟨Or.inl w_8, List.forall_mem_cons.mpr ⟨Or.inl w_155, List.forall_mem_cons.mpr ⟨Or.inl w_164, List.forall_mem_cons.mpr ⟨Or.inl w_169, List.forall_mem_cons.mpr ⟨Or.inl w_172, List.forall_mem_cons.mpr ⟨Or.inl w_174, List.forall_mem_cons.mpr ⟨Or.inl w_156, List.forall_mem_cons.mpr ⟨Or.inl w_157, List.forall_mem_cons.mpr ⟨Or.inl w_28, List.forall_mem_cons.mpr ⟨Or.inl w_29, List.forall_mem_cons.mpr ⟨Or.inl w_158, List.forall_mem_cons.mpr ⟨Or.inl w_163, List.forall_mem_cons.mpr ⟨Or.inl w_170, List.forall_mem_cons.mpr ⟨Or.inl w_190, List.forall_mem_cons.mpr ⟨Or.inl w_145, List.forall_mem_cons.mpr ⟨Or.inl w_191, List.forall_mem_cons.mpr ⟨Or.inl w_147, List.forall_mem_cons.mpr ⟨Or.inl w_192, List.forall_mem_cons.mpr ⟨Or.inl w_149, List.forall_mem_cons.mpr ⟨Or.inl w_159, List.forall_mem_cons.mpr ⟨Or.inr (by decide +kernel), List.forall_mem_cons.mpr ⟨Or.inl w_161, List.forall_mem_cons.mpr ⟨Or.inr (by decide +kernel), List.forall_mem_cons.mpr ⟨Or.inl w_151, List.forall_mem_cons.mpr ⟨Or.inl w_186, List.forall_mem_cons.mpr ⟨Or.inl w_187, List.forall_mem_cons.mpr ⟨Or.inl w_189, List.forall_mem_cons.mpr ⟨Or.inl w_151, List.forall_mem_cons.mpr ⟨Or.inl w_605, List.forall_mem_cons.mpr ⟨Or.inl w_606, List.forall_mem_cons.mpr ⟨Or.inl w_607, List.forall_mem_cons.mpr ⟨Or.inl w_180, List.forall_mem_cons.mpr ⟨Or.inr (by decide +kernel), List.forall_mem_cons.mpr ⟨Or.inl w_180, List.forall_mem_cons.mpr ⟨Or.inl w_181, List.forall_mem_cons.mpr ⟨Or.inl w_182, List.forall_mem_cons.mpr ⟨Or.inl w_183, List.forall_mem_cons.mpr ⟨Or.inr (by decide +kernel), List.forall_mem_cons.mpr ⟨Or.inl w_183, List.forall_mem_cons.mpr ⟨Or.inl w_184, List.forall_mem_cons.mpr ⟨Or.inl w_185, List.forall_mem_cons.mpr ⟨Or.inl w_186, List.forall_mem_cons.mpr ⟨Or.inr (by decide +kernel), List.forall_mem_cons.mpr ⟨Or.inl w_604, List.forall_mem_cons.mpr ⟨Or.inl w_595, List.forall_mem_cons.mpr ⟨Or.inr (by decide +kernel), List.forall_mem_cons.mpr ⟨Or.inl w_597, List.forall_mem_cons.mpr ⟨Or.inl w_167, List.forall_mem_cons.mpr ⟨Or.inl w_598, List.forall_mem_cons.mpr ⟨Or.inl w_599, List.forall_mem_cons.mpr ⟨Or.inl w_600, List.forall_mem_cons.mpr ⟨Or.inl w_601, List.forall_mem_cons.mpr ⟨Or.inr (by decide +kernel), List.forall_mem_cons.mpr ⟨Or.inr (by decide +kernel), List.forall_mem_cons.mpr ⟨Or.inl w_154, List.forall_mem_cons.mpr ⟨Or.inl w_153, List.forall_mem_cons.mpr ⟨Or.inl w_602, fun _ h => absurd h List.not_mem_nil⟩⟩⟩⟩⟩⟩⟩⟩⟩⟩⟩⟩⟩⟩⟩⟩⟩⟩⟩⟩⟩⟩⟩⟩⟩⟩⟩⟩⟩⟩⟩⟩⟩⟩⟩⟩⟩⟩⟩⟩⟩⟩⟩⟩⟩⟩⟩⟩⟩⟩⟩⟩⟩⟩⟩⟩⟩
set_option maxRecDepth 100000 in
set_option maxHeartbeats 4000000 in
theorem c_N_init {l : Launch} {D : va_G} {tys : List (ClassId × FieldType)} {A : Nat → Prop} {Z : State → Heap → Prop} (hZc : tZ A Z) {X r : va_W} {L : List Nat} {fv : Nat → RW} {a : Nat} (ha : a ∈ L) {nu ke da : Int32} : tM l y_N_init tb ({ frames := 1, cells := 0, slots := 0, locals := 24 }) D cls tys A Z [.ref a, .int nu, .int ke, .int da] (X ++ (va_pl L (tO 3 13 fv) ++ r)) (fun v w2 => v = none ∧ w2 = X ++ (va_pl L (tO 3 13 (va_up fv a (upd (upd (upd (upd (upd (fv a) 0 nu) 1 ke) 2 da) 5 (-1)) 6 1))) ++ r)) (xN) := by
  refine t_ofW (by decide) w_234 (Nat.le_of_ble_eq_true rfl) ?_
  intro p e s m below meth c ls hx hb hr hts hown hlk hnm hml hex hl hC
  have hown : s.vm.findClass "RetentionVault$Version" = some m.cls := hown
  have hl : lv_has ls 4 [(0, .ref a), (1, .int nu), (2, .int ke), (3, .int da)] := hl
  refine lv_aload_n hx hb d_N_init_0 rfl (lv_at hl 0 rfl) ?_
  refine W.objInit hx hb hown (hts _ w_235) (hts _ w_28) (hts _ w_29) rfl (hl.1.trans hml.symm) rfl d_N_init_1 (Nat.le_of_ble_eq_true rfl) (Nat.le_of_ble_eq_true rfl) ?_
  refine W.eq (g2 := F0 m 4 ls []) rfl ?_
  refine lv_aload_n hx hb d_N_init_4 rfl (lv_at hl 0 rfl) ?_
  refine lv_iload_n hx hb d_N_init_5 rfl (lv_at hl 1 rfl) ?_
  refine t_putP (ty := .int) hx hb hts inN TN tyN nmN hown hC ha rfl 0 (by decide) (hts _ w_236) (fun _ h => h) (Or.inr ⟨rfl, hnm, rfl⟩) (by decide +kernel) rfl rfl d_N_init_6 (fun H locs hC => ?_)
  have hC : tC D cls tys A Z s (X ++ (va_pl L (tO 3 13 (va_up fv a (upd (fv a) 0 nu))) ++ r)) H locs := hC
  refine lv_aload_n hx hb d_N_init_9 rfl (lv_at hl 0 rfl) ?_
  refine lv_iload_n hx hb d_N_init_10 rfl (lv_at hl 2 rfl) ?_
  refine t_putP (ty := .int) hx hb hts inN TN tyN nmN hown hC ha rfl 1 (by decide) (hts _ w_238) (fun _ h => h) (Or.inr ⟨rfl, hnm, rfl⟩) (by decide +kernel) rfl rfl d_N_init_11 (fun H locs hC => ?_)
  have hC : tC D cls tys A Z s (X ++ (va_pl L (tO 3 13 (va_up (va_up fv a (upd (fv a) 0 nu)) a (upd ((va_up fv a (upd (fv a) 0 nu)) a) 1 ke))) ++ r)) H locs := hC
  refine lv_aload_n hx hb d_N_init_14 rfl (lv_at hl 0 rfl) ?_
  refine lv_iload_n hx hb d_N_init_15 rfl (lv_at hl 3 rfl) ?_
  refine t_putP (ty := .int) hx hb hts inN TN tyN nmN hown hC ha rfl 2 (by decide) (hts _ w_240) (fun _ h => h) (Or.inr ⟨rfl, hnm, rfl⟩) (by decide +kernel) rfl rfl d_N_init_16 (fun H locs hC => ?_)
  have hC : tC D cls tys A Z s (X ++ (va_pl L (tO 3 13 (va_up (va_up (va_up fv a (upd (fv a) 0 nu)) a (upd ((va_up fv a (upd (fv a) 0 nu)) a) 1 ke)) a (upd ((va_up (va_up fv a (upd (fv a) 0 nu)) a (upd ((va_up fv a (upd (fv a) 0 nu)) a) 1 ke)) a) 2 da))) ++ r)) H locs := hC
  refine lv_aload_n hx hb d_N_init_19 rfl (lv_at hl 0 rfl) ?_
  refine lv_iconst (v := (-1)) hx hb d_N_init_20 (by decide) ?_
  refine t_putP (ty := .int) hx hb hts inN TN tyN nmN hown hC ha rfl 5 (by decide) (hts _ w_245) (fun _ h => h) (Or.inl rfl) (by decide +kernel) rfl rfl d_N_init_21 (fun H locs hC => ?_)
  have hC : tC D cls tys A Z s (X ++ (va_pl L (tO 3 13 (va_up (va_up (va_up (va_up fv a (upd (fv a) 0 nu)) a (upd ((va_up fv a (upd (fv a) 0 nu)) a) 1 ke)) a (upd ((va_up (va_up fv a (upd (fv a) 0 nu)) a (upd ((va_up fv a (upd (fv a) 0 nu)) a) 1 ke)) a) 2 da)) a (upd ((va_up (va_up (va_up fv a (upd (fv a) 0 nu)) a (upd ((va_up fv a (upd (fv a) 0 nu)) a) 1 ke)) a (upd ((va_up (va_up fv a (upd (fv a) 0 nu)) a (upd ((va_up fv a (upd (fv a) 0 nu)) a) 1 ke)) a) 2 da)) a) 5 (-1)))) ++ r)) H locs := hC
  refine lv_aload_n hx hb d_N_init_24 rfl (lv_at hl 0 rfl) ?_
  refine lv_iconst (v := 1) hx hb d_N_init_25 (by decide) ?_
  refine t_putP (ty := .boolean) hx hb hts inN TN tyN nmN hown hC ha rfl 6 (by decide) (hts _ w_247) (fun _ h => h) (Or.inl rfl) (by decide +kernel) (rfl) (rfl) d_N_init_26 (fun H locs hC => ?_)
  have hC : tC D cls tys A Z s (X ++ (va_pl L (tO 3 13 (va_up (va_up (va_up (va_up (va_up fv a (upd (fv a) 0 nu)) a (upd ((va_up fv a (upd (fv a) 0 nu)) a) 1 ke)) a (upd ((va_up (va_up fv a (upd (fv a) 0 nu)) a (upd ((va_up fv a (upd (fv a) 0 nu)) a) 1 ke)) a) 2 da)) a (upd ((va_up (va_up (va_up fv a (upd (fv a) 0 nu)) a (upd ((va_up fv a (upd (fv a) 0 nu)) a) 1 ke)) a (upd ((va_up (va_up fv a (upd (fv a) 0 nu)) a (upd ((va_up fv a (upd (fv a) 0 nu)) a) 1 ke)) a) 2 da)) a) 5 (-1))) a (upd ((va_up (va_up (va_up (va_up fv a (upd (fv a) 0 nu)) a (upd ((va_up fv a (upd (fv a) 0 nu)) a) 1 ke)) a (upd ((va_up (va_up fv a (upd (fv a) 0 nu)) a (upd ((va_up fv a (upd (fv a) 0 nu)) a) 1 ke)) a) 2 da)) a (upd ((va_up (va_up (va_up fv a (upd (fv a) 0 nu)) a (upd ((va_up fv a (upd (fv a) 0 nu)) a) 1 ke)) a (upd ((va_up (va_up fv a (upd (fv a) 0 nu)) a (upd ((va_up fv a (upd (fv a) 0 nu)) a) 1 ke)) a) 2 da)) a) 5 (-1))) a) 6 1))) ++ r)) H locs := hC
  exact t_vret hx hb hr hlk hZc hC (⟨rfl, by simp only [up_twice, va_up_self]⟩) (Nat.le_of_ble_eq_true rfl) (Nat.le_of_ble_eq_true rfl) d_N_init_29

set_option maxRecDepth 100000 in
set_option maxHeartbeats 4000000 in
theorem c_N_makeObject {l : Launch} {D : va_G} {tys : List (ClassId × FieldType)} {A : Nat → Prop} {Z : State → Heap → Prop} (hZc : tZ A Z) {X r : va_W} {L : List Nat} {fv : Nat → RW} {a : Nat} (ha : a ∈ L) {si tg : Int32} : tM l y_N_makeObject tb ({ frames := 0, cells := 0, slots := 0, locals := 0 }) D cls tys A Z [.ref a, .int si, .int tg] (X ++ (va_pl L (tO 3 13 fv) ++ r)) (fun v w2 => v = none ∧ w2 = X ++ (va_pl L (tO 3 13 (va_up fv a (upd (upd (upd (fv a) 3 si) 4 tg) 5 0))) ++ r)) (xN) := by
  refine t_ofW (by decide) w_292 (Nat.le_of_ble_eq_true rfl) ?_
  intro p e s m below meth c ls hx hb hr hts hown hlk hnm hml hex hl hC
  have hown : s.vm.findClass "RetentionVault$Version" = some m.cls := hown
  have hl : lv_has ls 3 [(0, .ref a), (1, .int si), (2, .int tg)] := hl
  refine lv_aload_n hx hb d_N_makeObject_0 rfl (lv_at hl 0 rfl) ?_
  refine lv_iload_n hx hb d_N_makeObject_1 rfl (lv_at hl 1 rfl) ?_
  refine t_putP (ty := .int) hx hb hts inN TN tyN nmN hown hC ha rfl 3 (by decide) (hts _ w_241) (fun _ h => h) (Or.inl rfl) (by decide +kernel) rfl rfl d_N_makeObject_2 (fun H locs hC => ?_)
  have hC : tC D cls tys A Z s (X ++ (va_pl L (tO 3 13 (va_up fv a (upd (fv a) 3 si))) ++ r)) H locs := hC
  refine lv_aload_n hx hb d_N_makeObject_5 rfl (lv_at hl 0 rfl) ?_
  refine lv_iload_n hx hb d_N_makeObject_6 rfl (lv_at hl 2 rfl) ?_
  refine t_putP (ty := .int) hx hb hts inN TN tyN nmN hown hC ha rfl 4 (by decide) (hts _ w_243) (fun _ h => h) (Or.inl rfl) (by decide +kernel) rfl rfl d_N_makeObject_7 (fun H locs hC => ?_)
  have hC : tC D cls tys A Z s (X ++ (va_pl L (tO 3 13 (va_up (va_up fv a (upd (fv a) 3 si)) a (upd ((va_up fv a (upd (fv a) 3 si)) a) 4 tg))) ++ r)) H locs := hC
  refine lv_aload_n hx hb d_N_makeObject_10 rfl (lv_at hl 0 rfl) ?_
  refine lv_iconst (v := 0) hx hb d_N_makeObject_11 (by decide) ?_
  refine t_putP (ty := .int) hx hb hts inN TN tyN nmN hown hC ha rfl 5 (by decide) (hts _ w_245) (fun _ h => h) (Or.inl rfl) (by decide +kernel) rfl rfl d_N_makeObject_12 (fun H locs hC => ?_)
  have hC : tC D cls tys A Z s (X ++ (va_pl L (tO 3 13 (va_up (va_up (va_up fv a (upd (fv a) 3 si)) a (upd ((va_up fv a (upd (fv a) 3 si)) a) 4 tg)) a (upd ((va_up (va_up fv a (upd (fv a) 3 si)) a (upd ((va_up fv a (upd (fv a) 3 si)) a) 4 tg)) a) 5 0))) ++ r)) H locs := hC
  exact t_vret hx hb hr hlk hZc hC (⟨rfl, by simp only [up_twice, va_up_self]⟩) (Nat.le_of_ble_eq_true rfl) (Nat.le_of_ble_eq_true rfl) d_N_makeObject_15

set_option maxRecDepth 100000 in
set_option maxHeartbeats 4000000 in
theorem c_A_size {l : Launch} {D : va_G} {A : Nat → Prop} {e0 : Nat → Nat} {K : Nat → Nat} {ca : Nat → ClassId} {RL LP : List Nat} {fv FR : Nat → RW} {day ever mo n : Int32} {ea : Nat} {wr : Int32} {ch : Int64} {ring : Nat → Int32} {rest : va_W} : tM l y_A_size tb ({ frames := 0, cells := 0, slots := 0, locals := 0 }) D cls (ty0 ca) A (zz e0 A) [.ref (K 1)] (wC K ca RL LP fv FR day ever mo n ea wr ch ring rest) (pR (.int n) (wC K ca RL LP fv FR day ever mo n ea wr ch ring rest)) (xN) := by
  refine t_ofW (by decide) w_213 (Nat.le_of_ble_eq_true rfl) ?_
  intro p e s m below meth c ls hx hb hr hts hown hlk hnm hml hex hl hC
  have hown : s.vm.findClass "java/util/ArrayList" = some m.cls := hown
  have hl : lv_has ls 1 [(0, .ref (K 1))] := hl
  refine lv_aload_n hx hb d_A_size_0 rfl (lv_at hl 0 rfl) ?_
  refine t_get (v := .int n) hx hb hts inA hown hC 1 rfl rfl 2 (by decide) (hts _ w_45) (fun _ h => h) rfl d_A_size_1 ?_
  exact t_iret hx hb hr hlk zz_c hC (⟨rfl, rfl⟩) (Nat.le_of_ble_eq_true rfl) (Nat.le_of_ble_eq_true rfl) d_A_size_4

set_option maxRecDepth 100000 in
set_option maxHeartbeats 4000000 in
theorem c_PC_checkIndex {l : Launch} {D : va_G} {tys : List (ClassId × FieldType)} {A : Nat → Prop} {Z : State → Heap → Prop} (hZc : tZ A Z) {w : va_W} {i n9 : Int32} (h0 : ¬ i < 0) (h1 : i < n9) : tM l y_PC_checkIndex tb ({ frames := 0, cells := 0, slots := 0, locals := 0 }) D cls tys A Z [.int i, .int n9, .null] (w) (pR (.int i) w) (xN) := by
  refine t_ofW (by decide) w_310 (Nat.le_of_ble_eq_true rfl) ?_
  intro p e s m below meth c ls hx hb hr hts hown hlk hnm hml hex hl hC
  have hown : s.vm.findClass "jdk/internal/util/Preconditions" = some m.cls := hown
  have hl : lv_has ls 3 [(0, .int i), (1, .int n9), (2, .null)] := hl
  refine lv_iload_n hx hb d_PC_checkIndex_0 rfl (lv_at hl 0 rfl) ?_
  refine lv_if_lt (tgt := 9) hx hb d_PC_checkIndex_1 (by decide) (fun c1 => ?_) (fun c1 => ?_)
  · exact absurd c1 h0
  · skip
    refine lv_iload_n hx hb d_PC_checkIndex_4 rfl (lv_at hl 0 rfl) ?_
    refine lv_iload_n hx hb d_PC_checkIndex_5 rfl (lv_at hl 1 rfl) ?_
    refine lv_icmp_lt (tgt := 16) hx hb d_PC_checkIndex_6 (by decide) (fun c6 => ?_) (fun c6 => ?_)
    · skip
      refine lv_iload_n hx hb d_PC_checkIndex_16 rfl (lv_at hl 0 rfl) ?_
      exact t_iret hx hb hr hlk hZc hC (⟨rfl, rfl⟩) (Nat.le_of_ble_eq_true rfl) (Nat.le_of_ble_eq_true rfl) d_PC_checkIndex_17
    · exact absurd h1 c6

set_option maxRecDepth 100000 in
set_option maxHeartbeats 4000000 in
theorem c_OB_checkIndex {l : Launch} {D : va_G} {tys : List (ClassId × FieldType)} {A : Nat → Prop} {Z : State → Heap → Prop} (hZc : tZ A Z) {w : va_W} {i n9 : Int32} (h0 : ¬ i < 0) (h1 : i < n9) : tM l y_OB_checkIndex tb ({ frames := 1, cells := 0, slots := 0, locals := 22 }) D cls tys A Z [.int i, .int n9] (w) (pR (.int i) w) (xN) := by
  refine t_ofW (by decide) w_307 (Nat.le_of_ble_eq_true rfl) ?_
  intro p e s m below meth c ls hx hb hr hts hown hlk hnm hml hex hl hC
  have hown : s.vm.findClass "java/util/Objects" = some m.cls := hown
  have hl : lv_has ls 2 [(0, .int i), (1, .int n9)] := hl
  refine lv_iload_n hx hb d_OB_checkIndex_0 rfl (lv_at hl 0 rfl) ?_
  refine lv_iload_n hx hb d_OB_checkIndex_1 rfl (lv_at hl 1 rfl) ?_
  refine lv_null hx hb d_OB_checkIndex_2 ?_
  refine t_call (t_invS (As := [.int i, .int n9, .null]) (rest := []) hx hb hown (hts _ w_308) (hts _ w_309) (hts _ w_15) (hts _ w_310) ⟨by decide, by decide⟩ rfl d_OB_checkIndex_3) (c_PC_checkIndex hZc h0 h1) hZc tb_good hts w_15 hC (hl.1.trans hml.symm) ⟨Nat.le_of_ble_eq_true rfl, Nat.le_of_ble_eq_true rfl, Nat.le_of_ble_eq_true rfl, Nat.le_of_ble_eq_true rfl⟩ (Nat.le_of_ble_eq_true rfl) (fun E q ce w1 H1 l1 hp => hp.elim) (fun v w1 H locs hp hC => ?_)
  obtain ⟨rfl, hwe9⟩ := hp
  rw [hwe9] at hC
  have hC : tC D cls tys A Z s (w) H locs := hC
  refine W.eq (g2 := F0 m 6 ls [.int i]) rfl ?_
  exact t_iret hx hb hr hlk hZc hC (⟨rfl, rfl⟩) (Nat.le_of_ble_eq_true rfl) (Nat.le_of_ble_eq_true rfl) d_OB_checkIndex_6

/-- the list vs, as it lies in its array (eo), or before its first element in the static empty one (e0) -/
def LR (e0 : Nat → Nat) (ca : Nat → ClassId) (vs : List Nat) (ea : Nat) (eo : va_W) : Prop := (vs = [] ∧ eo = [] ∧ ea = e0 0) ∨ ∃ (cap : Nat) (el : Nat → Option Nat), eo = [(ea, .inl (ca 3, cap, .inr (.inr (.inr (.inr el)))))] ∧ vs.length ≤ cap ∧ (0 < cap ∧ cap ≤ 60) ∧ ∀ i, i < vs.length → el i = vs[i]?
theorem LR.at {e0 : Nat → Nat} {ca : Nat → ClassId} {vs : List Nat} {ea : Nat} {eo : va_W} (h : LR e0 ca vs ea eo) {i a : Nat} (hi : vs[i]? = some a) : ∃ (cap : Nat) (el : Nat → Option Nat), eo = [(ea, .inl (ca 3, cap, .inr (.inr (.inr (.inr el)))))] ∧ i < vs.length ∧ vs.length ≤ cap ∧ cap ≤ 60 ∧ el i = some a := by
  have hl := (List.getElem?_eq_some_iff.mp hi).1
  rcases h with ⟨rfl, -⟩ | ⟨cap, el, h1, h2, h3, h4⟩
  · cases hi
  · exact ⟨cap, el, h1, hl, h2, h3.2, (h4 i hl).trans hi⟩

set_option maxRecDepth 100000 in
set_option maxHeartbeats 4000000 in
theorem c_A_elementData {l : Launch} {D : va_G} {A : Nat → Prop} {e0 : Nat → Nat} {K : Nat → Nat} {ca : Nat → ClassId} {RL LP : List Nat} {fv FR : Nat → RW} {day ever mo : Int32} {ea : Nat} {wr : Int32} {ch : Int64} {ring : Nat → Int32} {rest : va_W} {vs : List Nat} {eo : va_W} (hLR : LR e0 ca vs ea eo) {i a : Nat} (hi : vs[i]? = some a) : tM l y_A_elementData tb ({ frames := 0, cells := 0, slots := 0, locals := 0 }) D cls (ty0 ca) A (zz e0 A) [.ref (K 1), .int (nI i)] (wC K ca RL LP fv FR day ever mo (nI vs.length) ea wr ch ring (eo ++ rest)) (pR (.ref a) (wC K ca RL LP fv FR day ever mo (nI vs.length) ea wr ch ring (eo ++ rest))) (xN) := by
  refine t_ofW (by decide) w_314 (Nat.le_of_ble_eq_true rfl) ?_
  intro p e s m below meth c ls hx hb hr hts hown hlk hnm hml hex hl hC
  have hown : s.vm.findClass "java/util/ArrayList" = some m.cls := hown
  have hl : lv_has ls 2 [(0, .ref (K 1)), (1, .int (nI i))] := hl
  obtain ⟨cap, el, rfl, hil, hlc, hc60, hel⟩ := hLR.at hi
  refine lv_aload_n hx hb d_A_elementData_0 rfl (lv_at hl 0 rfl) ?_
  refine t_get (v := .ref ea) hx hb hts inA hown hC 1 rfl rfl 1 (by decide) (hts _ w_44) (fun _ h => h) rfl d_A_elementData_1 ?_
  refine lv_iload_n hx hb d_A_elementData_4 rfl (lv_at hl 1 rfl) ?_
  obtain ⟨q0, hq0⟩ : ∃ k, (wC K ca RL LP fv FR day ever mo (nI vs.length) ea wr ch ring ([(ea, .inl (ca 3, cap, .inr (.inr (.inr (.inr el)))))] ++ rest))[k]? = some ((ea, .inl (ca 3, cap, .inr (.inr (.inr (.inr el))))) : Nat × va_E) := List.getElem?_of_mem (by simp [wC])
  refine t_aldq (C := "java/lang/Object") hx hb hC q0 3 hq0 rfl (vp_in_nI (by omega) (by omega)) d_A_elementData_5 ?_
  rw [nI_clamp (n := i) (by omega), hel]
  refine W.eq (g2 := F0 m 6 ls [.ref a]) rfl ?_
  exact t_aret (r := some a) hx hb hr (Or.inl ⟨_, rfl⟩) hlk zz_c hC (⟨rfl, rfl⟩) (Nat.le_of_ble_eq_true rfl) (Nat.le_of_ble_eq_true rfl) d_A_elementData_6

set_option maxRecDepth 100000 in
set_option maxHeartbeats 4000000 in
theorem c_A_get {l : Launch} {D : va_G} {A : Nat → Prop} {e0 : Nat → Nat} {K : Nat → Nat} {ca : Nat → ClassId} {RL LP : List Nat} {fv FR : Nat → RW} {day ever mo : Int32} {ea : Nat} {wr : Int32} {ch : Int64} {ring : Nat → Int32} {rest : va_W} {vs : List Nat} {eo : va_W} (hLR : LR e0 ca vs ea eo) {i a : Nat} (hi : vs[i]? = some a) : tM l y_A_get tb ({ frames := 2, cells := 0, slots := 0, locals := 43 }) D cls (ty0 ca) A (zz e0 A) [.ref (K 1), .int (nI i)] (wC K ca RL LP fv FR day ever mo (nI vs.length) ea wr ch ring (eo ++ rest)) (pR (.ref a) (wC K ca RL LP fv FR day ever mo (nI vs.length) ea wr ch ring (eo ++ rest))) (xN) := by
  refine t_ofW (by decide) w_304 (Nat.le_of_ble_eq_true rfl) ?_
  intro p e s m below meth c ls hx hb hr hts hown hlk hnm hml hex hl hC
  have hown : s.vm.findClass "java/util/ArrayList" = some m.cls := hown
  have hl : lv_has ls 2 [(0, .ref (K 1)), (1, .int (nI i))] := hl
  have hil := (List.getElem?_eq_some_iff.mp hi).1
  have h60 : vs.length ≤ 60 := by obtain ⟨_, _, _, _, h2, h3, _⟩ := hLR.at hi; omega
  have h0 : ¬ nI i < 0 := nI_pos (by omega)
  have h1 : nI i < nI vs.length := nI_lt hil (by omega)
  refine lv_iload_n hx hb d_A_get_0 rfl (lv_at hl 1 rfl) ?_
  refine lv_aload_n hx hb d_A_get_1 rfl (lv_at hl 0 rfl) ?_
  refine t_get (v := .int (nI vs.length)) hx hb hts inA hown hC 1 rfl rfl 2 (by decide) (hts _ w_45) (fun _ h => h) rfl d_A_get_2 ?_
  refine t_call (t_invS (As := [.int (nI i), .int (nI vs.length)]) (rest := []) hx hb hown (hts _ w_305) (hts _ w_306) (hts _ w_14) (hts _ w_307) ⟨by decide, by decide⟩ rfl d_A_get_5) (c_OB_checkIndex zz_c h0 h1) zz_c tb_good hts w_14 hC (hl.1.trans hml.symm) ⟨Nat.le_of_ble_eq_true rfl, Nat.le_of_ble_eq_true rfl, Nat.le_of_ble_eq_true rfl, Nat.le_of_ble_eq_true rfl⟩ (Nat.le_of_ble_eq_true rfl) (fun E q ce w1 H1 l1 hp => hp.elim) (fun v w1 H locs hp hC => ?_)
  obtain ⟨rfl, hwe9⟩ := hp
  rw [hwe9] at hC
  have hC : tC D cls (ty0 ca) A (zz e0 A) s (wC K ca RL LP fv FR day ever mo (nI vs.length) ea wr ch ring (eo ++ rest)) H locs := hC
  refine W.eq (g2 := F0 m 8 ls [.int (nI i)]) rfl ?_
  refine lv_pop hx hb d_A_get_8 rfl ?_
  refine lv_aload_n hx hb d_A_get_9 rfl (lv_at hl 0 rfl) ?_
  refine lv_iload_n hx hb d_A_get_10 rfl (lv_at hl 1 rfl) ?_
  refine t_call (t_invV (As := [.int (nI i)]) (rest := []) hx hb hown (hts _ w_311) (hts _ w_312) (hts _ w_313) (hts _ w_314) ⟨by decide, by decide⟩ (t_recv (q0 := 1) hC rfl rfl) rfl d_A_get_11) (c_A_elementData hLR hi) zz_c tb_good hts w_4 hC (hl.1.trans hml.symm) ⟨Nat.le_of_ble_eq_true rfl, Nat.le_of_ble_eq_true rfl, Nat.le_of_ble_eq_true rfl, Nat.le_of_ble_eq_true rfl⟩ (Nat.le_of_ble_eq_true rfl) (fun E q ce w1 H1 l1 hp => hp.elim) (fun v w1 H locs hp hC => ?_)
  obtain ⟨rfl, hwe9⟩ := hp
  rw [hwe9] at hC
  have hC : tC D cls (ty0 ca) A (zz e0 A) s (wC K ca RL LP fv FR day ever mo (nI vs.length) ea wr ch ring (eo ++ rest)) H locs := hC
  refine W.eq (g2 := F0 m 14 ls [.ref a]) rfl ?_
  exact t_aret (r := some a) hx hb hr (Or.inl ⟨_, rfl⟩) hlk zz_c hC (⟨rfl, rfl⟩) (Nat.le_of_ble_eq_true rfl) (Nat.le_of_ble_eq_true rfl) d_A_get_14

set_option maxRecDepth 100000 in
set_option maxHeartbeats 4000000 in
theorem c_V_isWithin {l : Launch} {D : va_G} {tys : List (ClassId × FieldType)} {A : Nat → Prop} {Z : State → Heap → Prop} (hZc : tZ A Z) {w : va_W} {x lo hi : Int32} : tM l y_V_isWithin tb ({ frames := 0, cells := 0, slots := 0, locals := 0 }) D cls tys A Z [.int x, .int lo, .int hi] (w) (pR (.int (bI (lo ≤ x ∧ x ≤ hi))) w) (xN) := by
  refine t_ofW (by decide) w_129 (Nat.le_of_ble_eq_true rfl) ?_
  intro p e s m below meth c ls hx hb hr hts hown hlk hnm hml hex hl hC
  have hown : s.vm.findClass "RetentionVault" = some m.cls := hown
  have hl : lv_has ls 3 [(0, .int x), (1, .int lo), (2, .int hi)] := hl
  refine lv_iload_n hx hb d_V_isWithin_0 rfl (lv_at hl 1 rfl) ?_
  refine lv_iload_n hx hb d_V_isWithin_1 rfl (lv_at hl 0 rfl) ?_
  refine lv_icmp_gt (tgt := 14) hx hb d_V_isWithin_2 (by decide) (fun c2 => ?_) (fun c2 => ?_)
  · skip
    refine lv_iconst (v := 0) hx hb d_V_isWithin_14 (by decide) ?_
    exact t_zret hx hb hr hlk (Or.inl rfl) hZc hC (⟨by first | rfl | (simp only [bI, *]; rfl) | (simp [bI, *]; done) | (simp_all [bI, Int32.not_lt, Int32.not_le]; done) | (unfold bI; simp only [Int32.lt_iff_toInt_lt, Int32.le_iff_toInt_le] at *; split <;> first | rfl | (exfalso; omega)), rfl⟩) (Nat.le_of_ble_eq_true rfl) (Nat.le_of_ble_eq_true rfl) d_V_isWithin_15
  · skip
    refine lv_iload_n hx hb d_V_isWithin_5 rfl (lv_at hl 0 rfl) ?_
    refine lv_iload_n hx hb d_V_isWithin_6 rfl (lv_at hl 2 rfl) ?_
    refine lv_icmp_gt (tgt := 14) hx hb d_V_isWithin_7 (by decide) (fun c7 => ?_) (fun c7 => ?_)
    · skip
      refine lv_iconst (v := 0) hx hb d_V_isWithin_14 (by decide) ?_
      exact t_zret hx hb hr hlk (Or.inl rfl) hZc hC (⟨by first | rfl | (simp only [bI, *]; rfl) | (simp [bI, *]; done) | (simp_all [bI, Int32.not_lt, Int32.not_le]; done) | (unfold bI; simp only [Int32.lt_iff_toInt_lt, Int32.le_iff_toInt_le] at *; split <;> first | rfl | (exfalso; omega)), rfl⟩) (Nat.le_of_ble_eq_true rfl) (Nat.le_of_ble_eq_true rfl) d_V_isWithin_15
    · skip
      refine lv_iconst (v := 1) hx hb d_V_isWithin_10 (by decide) ?_
      refine lv_goto (tgt := 15) hx hb d_V_isWithin_11 (by decide) ?_
      exact t_zret hx hb hr hlk (Or.inr rfl) hZc hC (⟨by first | rfl | (simp only [bI, *]; rfl) | (simp [bI, *]; done) | (simp_all [bI, Int32.not_lt, Int32.not_le]; done) | (unfold bI; simp only [Int32.lt_iff_toInt_lt, Int32.le_iff_toInt_le] at *; split <;> first | rfl | (exfalso; omega)), rfl⟩) (Nat.le_of_ble_eq_true rfl) (Nat.le_of_ble_eq_true rfl) d_V_isWithin_15

set_option maxRecDepth 100000 in
set_option maxHeartbeats 4000000 in
theorem c_V_demand {l : Launch} (hst : l.stackTraces = false) {D : va_G} {tys : List (ClassId × FieldType)} {A : Nat → Prop} {e0 : Nat → Nat} {w : va_W} {b : Int32} : tM l y_V_demand tb ({ frames := 6, cells := 1, slots := 6, locals := 90 }) D cls tys A (zz e0 A) [.int b] (w) (fun v w2 => v = none ∧ w2 = w ∧ b ≠ 0) (fun E w2 => E = "java/lang/IllegalArgumentException" ∧ w2 = w ∧ b = 0) := by
  refine t_ofW (by decide) w_132 (Nat.le_of_ble_eq_true rfl) ?_
  intro p e s m below meth c ls hx hb hr hts hown hlk hnm hml hex hl hC
  have hown : s.vm.findClass "RetentionVault" = some m.cls := hown
  have hl : lv_has ls 1 [(0, .int b)] := hl
  refine lv_iload_n hx hb d_V_demand_0 rfl (lv_at hl 0 rfl) ?_
  refine lv_if_ne (tgt := 14) hx hb d_V_demand_1 (by decide) (fun c1 => ?_) (fun c1 => ?_)
  · skip
    exact t_vret hx hb hr hlk zz_c hC (⟨rfl, rfl, c1⟩) (Nat.le_of_ble_eq_true rfl) (Nat.le_of_ble_eq_true rfl) d_V_demand_14
  · skip
    exact t_throw (by9 := prog_10_method_2_code) (ix := 7) (Y9 := "java/lang/RuntimeException") (r9 := ["java/lang/Exception"]) (text := "an argument is out of its range") hx hb hst (by decide +kernel) (by decide +kernel) (by decide +kernel) (by decide +kernel) hown tb_good hts (by decide) (by decide) (by decide) w_133 w_11 (zz_str hC.2.2.2.2.2 (by decide +kernel)) at_IAE zz_c zz_X4 hC (hl.1.trans hml.symm) hex hlk d_V_demand_4 d_V_demand_7 d_V_demand_8 d_V_demand_10 d_V_demand_13 ⟨Nat.le_of_ble_eq_true rfl, Nat.le_of_ble_eq_true rfl, Nat.le_of_ble_eq_true rfl, Nat.le_of_ble_eq_true rfl⟩ (Nat.le_of_ble_eq_true rfl) (Nat.le_of_ble_eq_true rfl) (⟨rfl, rfl, c1⟩)
end
section
/-! The vault: room, versions by number, the latest of a key. Laid by program (wip/whole/p13.py) -/
/-- the list of versions: as it lies, all of them pooled, each once, at most 40 -/
def cI (e0 : Nat → Nat) (ca : Nat → ClassId) (vs LP : List Nat) (ea : Nat) (eo : va_W) : Prop := LR e0 ca vs ea eo ∧ (∀ a ∈ vs, a ∈ LP) ∧ vs.Nodup ∧ vs.length ≤ 40

set_option maxRecDepth 100000 in
set_option maxHeartbeats 4000000 in
theorem c_V_isFull {l : Launch} {D : va_G} {A : Nat → Prop} {e0 : Nat → Nat} {K : Nat → Nat} {ca : Nat → ClassId} {RL LP : List Nat} {fv FR : Nat → RW} {day ever mo : Int32} {ea : Nat} {wr : Int32} {ch : Int64} {ring : Nat → Int32} {rest : va_W} {vs : List Nat} {eo : va_W} (hI : cI e0 ca vs LP ea eo) : tM l y_V_isFull tb ({ frames := 1, cells := 0, slots := 0, locals := 20 }) D cls (ty0 ca) A (zz e0 A) [.ref (K 0)] (wC K ca RL LP fv FR day ever mo (nI vs.length) ea wr ch ring (eo ++ rest)) (pR (.int (bI (40 ≤ vs.length))) (wC K ca RL LP fv FR day ever mo (nI vs.length) ea wr ch ring (eo ++ rest))) (xN) := by
  refine t_ofW (by decide) w_209 (Nat.le_of_ble_eq_true rfl) ?_
  intro p e s m below meth c ls hx hb hr hts hown hlk hnm hml hex hl hC
  have hown : s.vm.findClass "RetentionVault" = some m.cls := hown
  have hl : lv_has ls 1 [(0, .ref (K 0))] := hl
  obtain ⟨hLR, hvL, hnd, h40⟩ := hI
  refine lv_aload_n hx hb d_V_isFull_0 rfl (lv_at hl 0 rfl) ?_
  refine t_get (v := .ref (K 1)) hx hb hts inV hown hC 0 rfl rfl 0 (by decide) (hts _ w_97) (fun _ h => h) rfl d_V_isFull_1 ?_
  refine t_call (t_invV (As := []) (rest := []) hx hb hown (hts _ w_210) (hts _ w_211) (hts _ w_212) (hts _ w_213) ⟨by decide, by decide⟩ (t_recv (q0 := 1) hC rfl rfl) rfl d_V_isFull_4) c_A_size zz_c tb_good hts w_4 hC (hl.1.trans hml.symm) ⟨Nat.le_of_ble_eq_true rfl, Nat.le_of_ble_eq_true rfl, Nat.le_of_ble_eq_true rfl, Nat.le_of_ble_eq_true rfl⟩ (Nat.le_of_ble_eq_true rfl) (fun E q ce w1 H1 l1 hp => hp.elim) (fun v w1 H locs hp hC => ?_)
  obtain ⟨rfl, hwe9⟩ := hp
  rw [hwe9] at hC
  have hC : tC D cls (ty0 ca) A (zz e0 A) s (wC K ca RL LP fv FR day ever mo (nI vs.length) ea wr ch ring (eo ++ rest)) H locs := hC
  refine W.eq (g2 := F0 m 7 ls [.int (nI vs.length)]) rfl ?_
  refine lv_bipush (v := 40) hx hb d_V_isFull_7 (by decide) ?_
  refine lv_icmp_lt (tgt := 16) hx hb d_V_isFull_9 (by decide) (fun c9 => ?_) (fun c9 => ?_)
  · skip
    refine lv_iconst (v := 0) hx hb d_V_isFull_16 (by decide) ?_
    exact t_zret hx hb hr hlk (Or.inl rfl) zz_c hC (⟨by rw [bI_f (Nat.not_le.mpr ((nI_ltI (by omega) (by omega)).mp (show nI vs.length < nI 40 from c9)))], rfl⟩) (Nat.le_of_ble_eq_true rfl) (Nat.le_of_ble_eq_true rfl) d_V_isFull_17
  · skip
    refine lv_iconst (v := 1) hx hb d_V_isFull_12 (by decide) ?_
    refine lv_goto (tgt := 17) hx hb d_V_isFull_13 (by decide) ?_
    exact t_zret hx hb hr hlk (Or.inr rfl) zz_c hC (⟨by rw [bI_t (Nat.not_lt.mp (fun h => c9 ((nI_ltI (by omega) (by omega)).mpr h : nI vs.length < nI 40)))], rfl⟩) (Nat.le_of_ble_eq_true rfl) (Nat.le_of_ble_eq_true rfl) d_V_isFull_17

set_option maxRecDepth 100000 in
set_option maxHeartbeats 4000000 in
theorem c_V_demandRoom {l : Launch} (hst : l.stackTraces = false) {D : va_G} {A : Nat → Prop} {e0 : Nat → Nat} {K : Nat → Nat} {ca : Nat → ClassId} {RL LP : List Nat} {fv FR : Nat → RW} {day ever mo : Int32} {ea : Nat} {wr : Int32} {ch : Int64} {ring : Nat → Int32} {rest : va_W} {vs : List Nat} {eo : va_W} (hI : cI e0 ca vs LP ea eo) : tM l y_V_demandRoom tb ({ frames := 6, cells := 1, slots := 6, locals := 90 }) D cls (ty0 ca) A (zz e0 A) [.ref (K 0)] (wC K ca RL LP fv FR day ever mo (nI vs.length) ea wr ch ring (eo ++ rest)) (fun v w2 => v = none ∧ w2 = wC K ca RL LP fv FR day ever mo (nI vs.length) ea wr ch ring (eo ++ rest) ∧ vs.length < 40) (fun E w2 => E = "java/lang/IllegalStateException" ∧ w2 = wC K ca RL LP fv FR day ever mo (nI vs.length) ea wr ch ring (eo ++ rest) ∧ vs.length = 40) := by
  refine t_ofW (by decide) w_205 (Nat.le_of_ble_eq_true rfl) ?_
  intro p e s m below meth c ls hx hb hr hts hown hlk hnm hml hex hl hC
  have hown : s.vm.findClass "RetentionVault" = some m.cls := hown
  have hl : lv_has ls 1 [(0, .ref (K 0))] := hl
  obtain ⟨hLR, hvL, hnd, h40⟩ := hI
  refine lv_aload_n hx hb d_V_demandRoom_0 rfl (lv_at hl 0 rfl) ?_
  refine t_call (t_invV (As := []) (rest := []) hx hb hown (hts _ w_206) (hts _ w_208) (hts _ s_V_isFull) (hts _ w_209) ⟨by decide, by decide⟩ (t_recv (q0 := 0) hC rfl rfl) rfl d_V_demandRoom_1) (c_V_isFull ⟨hLR, hvL, hnd, h40⟩) zz_c tb_good hts w_1 hC (hl.1.trans hml.symm) ⟨Nat.le_of_ble_eq_true rfl, Nat.le_of_ble_eq_true rfl, Nat.le_of_ble_eq_true rfl, Nat.le_of_ble_eq_true rfl⟩ (Nat.le_of_ble_eq_true rfl) (fun E q ce w1 H1 l1 hp => hp.elim) (fun v w1 H locs hp hC => ?_)
  obtain ⟨rfl, hwe9⟩ := hp
  rw [hwe9] at hC
  have hC : tC D cls (ty0 ca) A (zz e0 A) s (wC K ca RL LP fv FR day ever mo (nI vs.length) ea wr ch ring (eo ++ rest)) H locs := hC
  refine W.eq (g2 := F0 m 4 ls [.int (bI (40 ≤ vs.length))]) rfl ?_
  refine lv_if_eq (tgt := 17) hx hb d_V_demandRoom_4 (by decide) (fun c4 => ?_) (fun c4 => ?_)
  · skip
    exact t_vret hx hb hr hlk zz_c hC (⟨rfl, rfl, Nat.not_le.mp (bI_ne.mp c4)⟩) (Nat.le_of_ble_eq_true rfl) (Nat.le_of_ble_eq_true rfl) d_V_demandRoom_17
  · skip
    exact t_throw (by9 := prog_11_method_2_code) (ix := 7) (Y9 := "java/lang/RuntimeException") (r9 := ["java/lang/Exception"]) (text := "there are 40 versions") hx hb hst (by decide +kernel) (by decide +kernel) (by decide +kernel) (by decide +kernel) hown tb_good hts (by decide) (by decide) (by decide) w_214 w_12 (zz_str hC.2.2.2.2.2 (by decide +kernel)) at_ISE zz_c zz_X4 hC (hl.1.trans hml.symm) hex hlk d_V_demandRoom_7 d_V_demandRoom_10 d_V_demandRoom_11 d_V_demandRoom_13 d_V_demandRoom_16 ⟨Nat.le_of_ble_eq_true rfl, Nat.le_of_ble_eq_true rfl, Nat.le_of_ble_eq_true rfl, Nat.le_of_ble_eq_true rfl⟩ (Nat.le_of_ble_eq_true rfl) (Nat.le_of_ble_eq_true rfl) (⟨rfl, rfl, Nat.le_antisymm h40 (Classical.not_not.mp (fun h => c4 (bI_ne.mpr h)))⟩)

theorem vn_step {vs : List Nat} {fv : Nat → RW} {number : Int32} {i a : Nat} (hi : vs[i]? = some a) (hno : ∀ j b, j < i → vs[j]? = some b → fv b 0 ≠ number) (h : ¬ fv a 0 = number) : ∀ j b, j < i + 1 → vs[j]? = some b → fv b 0 ≠ number := by
  intro j b hj hb
  by_cases e : j = i
  · subst e
    rw [hi] at hb
    cases hb
    exact h
  · exact hno j b (by omega) hb
theorem vn_none {vs : List Nat} {fv : Nat → RW} {number : Int32} (hno : ∀ j b, j < vs.length → vs[j]? = some b → fv b 0 ≠ number) : vs.find? (fun a => decide (fv a 0 = number)) = none := by
  rw [List.find?_eq_none]
  intro x hx
  obtain ⟨j, hj⟩ := List.getElem?_of_mem hx
  have := hno j x (List.getElem?_eq_some_iff.mp hj).1 hj
  simp [this]
theorem vn_some {vs : List Nat} {fv : Nat → RW} {number : Int32} {i a : Nat} (hi : vs[i]? = some a) (hno : ∀ j b, j < i → vs[j]? = some b → fv b 0 ≠ number) (h : fv a 0 = number) : vs.find? (fun a => decide (fv a 0 = number)) = some a := by
  obtain ⟨hl, he⟩ := List.getElem?_eq_some_iff.mp hi
  rw [List.find?_eq_some_iff_getElem]
  refine ⟨by simpa using h, i, hl, he, fun j hj => ?_⟩
  have := hno j _ hj (List.getElem?_eq_getElem (by omega))
  simp [this]

set_option maxRecDepth 100000 in
set_option maxHeartbeats 4000000 in
theorem c_V_versionNumbered {l : Launch} (hst : l.stackTraces = false) {D : va_G} {A : Nat → Prop} {e0 : Nat → Nat} {K : Nat → Nat} {ca : Nat → ClassId} {RL LP : List Nat} {fv FR : Nat → RW} {day ever mo : Int32} {ea : Nat} {wr : Int32} {ch : Int64} {ring : Nat → Int32} {rest : va_W} {vs : List Nat} {eo : va_W} (hI : cI e0 ca vs LP ea eo) {number : Int32} : tM l y_V_versionNumbered tb ({ frames := 6, cells := 1, slots := 6, locals := 90 }) D cls (ty0 ca) A (zz e0 A) [.ref (K 0), .int number] (wC K ca RL LP fv FR day ever mo (nI vs.length) ea wr ch ring (eo ++ rest)) (fun v w2 => ∃ a, vs.find? (fun a => decide (fv a 0 = number)) = some a ∧ v = some (.ref a) ∧ w2 = wC K ca RL LP fv FR day ever mo (nI vs.length) ea wr ch ring (eo ++ rest)) (fun E w2 => E = "java/util/NoSuchElementException" ∧ w2 = wC K ca RL LP fv FR day ever mo (nI vs.length) ea wr ch ring (eo ++ rest) ∧ vs.find? (fun a => decide (fv a 0 = number)) = none) := by
  refine t_ofW (by decide) w_426 (Nat.le_of_ble_eq_true rfl) ?_
  intro p e s m below meth c ls hx hb hr hts hown hlk hnm hml hex hl hC
  have hown : s.vm.findClass "RetentionVault" = some m.cls := hown
  have hl : lv_has ls 4 [(0, .ref (K 0)), (1, .int number)] := hl
  obtain ⟨hLR, hvL, hnd, h40⟩ := hI
  refine lv_iconst (v := 0) hx hb d_V_versionNumbered_0 (by decide) ?_
  refine lv_istore_n (lv' := [(2, .int 0), (0, .ref (K 0)), (1, .int number)]) hx hb d_V_versionNumbered_1 rfl hl (by decide) rfl (fun ls hl => ?_)
  have loop : ∀ (k i : Nat) (ls : Array Slot) (H : Heap) (locs : List Loc), vs.length - i = k → i ≤ vs.length → (∀ j b, j < i → vs[j]? = some b → fv b 0 ≠ number) → lv_has ls 4 [(2, .int (nI i)), (0, .ref (K 0)), (1, .int number)] → tC D cls (ty0 ca) A (zz e0 A) s (wC K ca RL LP fv FR day ever mo (nI vs.length) ea wr ch ring (eo ++ rest)) H locs → tB p l e ({ frames := 6, cells := 1, slots := 6, locals := 90 }) s m [.ref (K 0), .int number] below meth c D (ty0 ca) A (zz e0 A) (fun v w2 => ∃ a, vs.find? (fun a => decide (fv a 0 = number)) = some a ∧ v = some (.ref a) ∧ w2 = wC K ca RL LP fv FR day ever mo (nI vs.length) ea wr ch ring (eo ++ rest)) (fun E w2 => E = "java/util/NoSuchElementException" ∧ w2 = wC K ca RL LP fv FR day ever mo (nI vs.length) ea wr ch ring (eo ++ rest) ∧ vs.find? (fun a => decide (fv a 0 = number)) = none) H locs 0 0 (F0 m 2 ls []) := by
    intro k
    induction k using Nat.strongRecOn with
    | ind k ih =>
      intro i ls H locs hk hle hno hl hC
      refine lv_iload_n hx hb d_V_versionNumbered_2 rfl (lv_at hl 0 rfl) ?_
      refine lv_aload_n hx hb d_V_versionNumbered_3 rfl (lv_at hl 1 rfl) ?_
      refine t_get (v := .ref (K 1)) hx hb hts inV hown hC 0 rfl rfl 0 (by decide) (hts _ w_97) (fun _ h => h) rfl d_V_versionNumbered_4 ?_
      refine t_call (t_invV (As := []) (rest := [.int (nI i)]) hx hb hown (hts _ w_210) (hts _ w_211) (hts _ w_212) (hts _ w_213) ⟨by decide, by decide⟩ (t_recv (q0 := 1) hC rfl rfl) rfl d_V_versionNumbered_7) c_A_size zz_c tb_good hts w_4 hC (hl.1.trans hml.symm) ⟨Nat.le_of_ble_eq_true rfl, Nat.le_of_ble_eq_true rfl, Nat.le_of_ble_eq_true rfl, Nat.le_of_ble_eq_true rfl⟩ (Nat.le_of_ble_eq_true rfl) (fun E q ce w1 H1 l1 hp => hp.elim) (fun v w1 H locs hp hC => ?_)
      obtain ⟨rfl, hwe9⟩ := hp
      rw [hwe9] at hC
      have hC : tC D cls (ty0 ca) A (zz e0 A) s (wC K ca RL LP fv FR day ever mo (nI vs.length) ea wr ch ring (eo ++ rest)) H locs := hC
      refine W.eq (g2 := F0 m 10 ls [.int (nI vs.length), .int (nI i)]) rfl ?_
      refine lv_icmp_ge (tgt := 41) hx hb d_V_versionNumbered_10 (by decide) (fun c10 => ?_) (fun c10 => ?_)
      · skip
        have hil : i = vs.length := Nat.le_antisymm hle ((nI_leI (by omega) (by omega)).mp c10)
        exact t_throw (by9 := prog_25_method_4_code) (ix := 13) (Y9 := "java/lang/RuntimeException") (r9 := ["java/lang/Exception"]) (text := "there is no version with this number") hx hb hst (by decide +kernel) (by decide +kernel) (by decide +kernel) (by decide +kernel) hown tb_good hts (by decide) (by decide) (by decide) w_400 w_20 (zz_str hC.2.2.2.2.2 (by decide +kernel)) at_NSE zz_c zz_X4 hC (hl.1.trans hml.symm) hex hlk d_V_versionNumbered_41 d_V_versionNumbered_44 d_V_versionNumbered_45 d_V_versionNumbered_47 d_V_versionNumbered_50 ⟨Nat.le_of_ble_eq_true rfl, Nat.le_of_ble_eq_true rfl, Nat.le_of_ble_eq_true rfl, Nat.le_of_ble_eq_true rfl⟩ (Nat.le_of_ble_eq_true rfl) (Nat.le_of_ble_eq_true rfl) (⟨rfl, rfl, vn_none (by rw [← hil]; exact hno)⟩)
      · skip
        have hil : i < vs.length := Nat.not_le.mp (fun h => c10 ((nI_leI (by omega) (by omega)).mpr h))
        obtain ⟨a, hi⟩ : ∃ a, vs[i]? = some a := ⟨vs[i], List.getElem?_eq_getElem hil⟩
        have ha : a ∈ LP := hvL a (List.mem_of_getElem? hi)
        refine lv_aload_n hx hb d_V_versionNumbered_13 rfl (lv_at hl 1 rfl) ?_
        refine t_get (v := .ref (K 1)) hx hb hts inV hown hC 0 rfl rfl 0 (by decide) (hts _ w_97) (fun _ h => h) rfl d_V_versionNumbered_14 ?_
        refine lv_iload_n hx hb d_V_versionNumbered_17 rfl (lv_at hl 0 rfl) ?_
        refine t_call (t_invV (As := [.int (nI i)]) (rest := []) hx hb hown (hts _ w_301) (hts _ w_302) (hts _ w_303) (hts _ w_304) ⟨by decide, by decide⟩ (t_recv (q0 := 1) hC rfl rfl) rfl d_V_versionNumbered_18) (c_A_get hLR hi) zz_c tb_good hts w_4 hC (hl.1.trans hml.symm) ⟨Nat.le_of_ble_eq_true rfl, Nat.le_of_ble_eq_true rfl, Nat.le_of_ble_eq_true rfl, Nat.le_of_ble_eq_true rfl⟩ (Nat.le_of_ble_eq_true rfl) (fun E q ce w1 H1 l1 hp => hp.elim) (fun v w1 H locs hp hC => ?_)
        obtain ⟨rfl, hwe9⟩ := hp
        rw [hwe9] at hC
        have hC : tC D cls (ty0 ca) A (zz e0 A) s (wC K ca RL LP fv FR day ever mo (nI vs.length) ea wr ch ring (eo ++ rest)) H locs := hC
        refine W.eq (g2 := F0 m 21 ls [.ref a]) rfl ?_
        refine va_castY (C := "RetentionVault$Version") hx hb hown (hts _ w_230) (hC.2.2.2.2.2.2.2.2.2.1 ("RetentionVault$Version", "RetentionVault$Version") (by decide +kernel)) (t_recvP hC ha rfl rfl) d_V_versionNumbered_21 ?_
        refine lv_astore_n (lv' := [(3, .ref a), (2, .int (nI i)), (0, .ref (K 0)), (1, .int number)]) hx hb d_V_versionNumbered_24 rfl hl (by decide) rfl (fun ls hl => ?_)
        refine lv_aload_n hx hb d_V_versionNumbered_25 rfl (lv_at hl 0 rfl) ?_
        refine t_getP hx hb hts inN hown hC ha rfl 0 (by decide) (hts _ w_237) (fun _ h => h) d_V_versionNumbered_26 ?_
        refine lv_iload_n hx hb d_V_versionNumbered_29 rfl (lv_at hl 3 rfl) ?_
        refine lv_icmp_ne (tgt := 35) hx hb d_V_versionNumbered_30 (by decide) (fun c30 => ?_) (fun c30 => ?_)
        · skip
          refine lv_iinc (k := 1) (v := nI (i + 1)) (lv' := [(2, .int (nI (i + 1))), (3, .ref a), (0, .ref (K 0)), (1, .int number)]) hx hb d_V_versionNumbered_35 hl rfl (nI_1 i) (by decide) rfl (fun ls hl => ?_)
          refine lv_goto (tgt := 2) hx hb d_V_versionNumbered_38 (by decide) ?_
          exact ih (vs.length - (i + 1)) (by omega) (i + 1) ls H locs rfl (by omega) (vn_step hi hno c30) (lv_sub hl [0, 2, 3] rfl) hC
        · skip
          refine lv_aload_n hx hb d_V_versionNumbered_33 rfl (lv_at hl 0 rfl) ?_
          exact t_aret (r := some a) hx hb hr (Or.inl ⟨_, rfl⟩) hlk zz_c hC (⟨a, vn_some hi hno c30, rfl, rfl⟩) (Nat.le_of_ble_eq_true rfl) (Nat.le_of_ble_eq_true rfl) d_V_versionNumbered_34
  exact loop _ 0 ls _ _ rfl (by omega) (fun j b h => absurd h (by omega)) hl hC
end
section
/-! The vault: objects by number, the latest of a key, readers. Laid by program (wip/whole/p14.py) -/
set_option maxRecDepth 100000 in
set_option maxHeartbeats 4000000 in
theorem c_V_objectNumbered {l : Launch} (hst : l.stackTraces = false) {D : va_G} {A : Nat → Prop} {e0 : Nat → Nat} {K : Nat → Nat} {ca : Nat → ClassId} {RL LP : List Nat} {fv FR : Nat → RW} {day ever mo : Int32} {ea : Nat} {wr : Int32} {ch : Int64} {ring : Nat → Int32} {rest : va_W} {vs : List Nat} {eo : va_W} (hI : cI e0 ca vs LP ea eo) {number : Int32} : tM l y_V_objectNumbered tb ({ frames := 7, cells := 2, slots := 12, locals := 113 }) D cls (ty0 ca) A (zz e0 A) [.ref (K 0), .int number] (wC K ca RL LP fv FR day ever mo (nI vs.length) ea wr ch ring (eo ++ rest)) (fun v w2 => ∃ a, vs.find? (fun a => decide (fv a 0 = number)) = some a ∧ fv a 5 ≠ -1 ∧ v = some (.ref a) ∧ w2 = wC K ca RL LP fv FR day ever mo (nI vs.length) ea wr ch ring (eo ++ rest)) (fun E w2 => E = "java/util/NoSuchElementException" ∧ w2 = wC K ca RL LP fv FR day ever mo (nI vs.length) ea wr ch ring (eo ++ rest) ∧ (vs.find? (fun a => decide (fv a 0 = number)) = none ∨ ∃ a, vs.find? (fun a => decide (fv a 0 = number)) = some a ∧ fv a 5 = -1)) := by
  refine t_ofW (by decide) w_465 (Nat.le_of_ble_eq_true rfl) ?_
  intro p e s m below meth c ls hx hb hr hts hown hlk hnm hml hex hl hC
  have hown : s.vm.findClass "RetentionVault" = some m.cls := hown
  have hl : lv_has ls 3 [(0, .ref (K 0)), (1, .int number)] := hl
  obtain ⟨hLR, hvL, hnd, h40⟩ := hI
  refine lv_aload_n hx hb d_V_objectNumbered_0 rfl (lv_at hl 0 rfl) ?_
  refine lv_iload_n hx hb d_V_objectNumbered_1 rfl (lv_at hl 1 rfl) ?_
  refine t_call (t_invV (As := [.int number]) (rest := []) hx hb hown (hts _ w_423) (hts _ w_425) (hts _ s_V_versionNumbered) (hts _ w_426) ⟨by decide, by decide⟩ (t_recv (q0 := 0) hC rfl rfl) rfl d_V_objectNumbered_2) (c_V_versionNumbered hst ⟨hLR, hvL, hnd, h40⟩) zz_c tb_good hts w_1 hC (hl.1.trans hml.symm) ⟨Nat.le_of_ble_eq_true rfl, Nat.le_of_ble_eq_true rfl, Nat.le_of_ble_eq_true rfl, Nat.le_of_ble_eq_true rfl⟩ (Nat.le_of_ble_eq_true rfl) (fun E q9 ce w1 H locs hp hC hce hcv hcl => ?_) (fun v w1 H locs hp hC => ?_)
  · skip
    obtain ⟨rfl, hwe9, hfa⟩ := hp
    rw [hwe9] at hC
    have hC : tC D cls (ty0 ca) A (zz e0 A) s (wC K ca RL LP fv FR day ever mo (nI vs.length) ea wr ch ring (eo ++ rest)) H locs := hC
    exact t_out (fun x h => (hex x h).elim) hlk zz_c hC hce hcv hcl (⟨rfl, rfl, Or.inl hfa⟩) (Nat.le_of_ble_eq_true rfl) (Nat.le_of_ble_eq_true rfl)
  · skip
    obtain ⟨a, hfa, rfl, hwe9⟩ := hp
    rw [hwe9] at hC
    have ha : a ∈ LP := hvL a (List.mem_of_find?_eq_some hfa)
    have hC : tC D cls (ty0 ca) A (zz e0 A) s (wC K ca RL LP fv FR day ever mo (nI vs.length) ea wr ch ring (eo ++ rest)) H locs := hC
    refine W.eq (g2 := F0 m 5 ls [.ref a]) rfl ?_
    refine lv_astore_n (lv' := [(2, .ref a), (0, .ref (K 0)), (1, .int number)]) hx hb d_V_objectNumbered_5 rfl hl (by decide) rfl (fun ls hl => ?_)
    refine lv_aload_n hx hb d_V_objectNumbered_6 rfl (lv_at hl 0 rfl) ?_
    refine t_call (t_invV (As := []) (rest := []) hx hb hown (hts _ w_372) (hts _ w_373) (hts _ w_374) (hts _ w_375) ⟨by decide, by decide⟩ (t_recvP hC ha rfl rfl) rfl d_V_objectNumbered_7) (c_N_isMarker zz_c ha) zz_c tb_good hts w_13 hC (hl.1.trans hml.symm) ⟨Nat.le_of_ble_eq_true rfl, Nat.le_of_ble_eq_true rfl, Nat.le_of_ble_eq_true rfl, Nat.le_of_ble_eq_true rfl⟩ (Nat.le_of_ble_eq_true rfl) (fun E q ce w1 H1 l1 hp => hp.elim) (fun v w1 H locs hp hC => ?_)
    obtain ⟨rfl, hwe9⟩ := hp
    rw [hwe9] at hC
    have hC : tC D cls (ty0 ca) A (zz e0 A) s (wC K ca RL LP fv FR day ever mo (nI vs.length) ea wr ch ring (eo ++ rest)) H locs := hC
    refine W.eq (g2 := F0 m 10 ls [.int (bI (fv a 5 = -1))]) rfl ?_
    refine lv_if_eq (tgt := 23) hx hb d_V_objectNumbered_10 (by decide) (fun c10 => ?_) (fun c10 => ?_)
    · skip
      refine lv_aload_n hx hb d_V_objectNumbered_23 rfl (lv_at hl 0 rfl) ?_
      exact t_aret (r := some a) hx hb hr (Or.inl ⟨_, rfl⟩) hlk zz_c hC (⟨a, hfa, bI_ne.mp c10, rfl, rfl⟩) (Nat.le_of_ble_eq_true rfl) (Nat.le_of_ble_eq_true rfl) d_V_objectNumbered_24
    · skip
      exact t_throw (by9 := prog_25_method_4_code) (ix := 13) (Y9 := "java/lang/RuntimeException") (r9 := ["java/lang/Exception"]) (text := "the version is a marker") hx hb hst (by decide +kernel) (by decide +kernel) (by decide +kernel) (by decide +kernel) hown tb_good hts (by decide) (by decide) (by decide) w_400 w_20 (zz_str hC.2.2.2.2.2 (by decide +kernel)) at_NSE zz_c zz_X4 hC (hl.1.trans hml.symm) hex hlk d_V_objectNumbered_13 d_V_objectNumbered_16 d_V_objectNumbered_17 d_V_objectNumbered_19 d_V_objectNumbered_22 ⟨Nat.le_of_ble_eq_true rfl, Nat.le_of_ble_eq_true rfl, Nat.le_of_ble_eq_true rfl, Nat.le_of_ble_eq_true rfl⟩ (Nat.le_of_ble_eq_true rfl) (Nat.le_of_ble_eq_true rfl) (⟨rfl, rfl, Or.inr ⟨a, hfa, Classical.not_not.mp (fun h => c10 (bI_ne.mpr h))⟩⟩)

theorem lt_m1 {x : Int32} (h : x + 1 = nI 0) : x = -1 := by
  have h2 : x + 1 + (-1) = nI 0 + (-1) := by rw [h]
  rw [Int32.add_assoc] at h2
  have e1 : (1 : Int32) + (-1) = 0 := by decide
  have e2 : nI 0 + (-1) = -1 := by decide
  rw [e1, e2, Int32.add_zero] at h2
  exact h2
theorem lt_x1 {x : Int32} {i : Nat} (h : x + 1 = nI (i + 1)) : x = nI i := by
  rw [← nI_1] at h
  exact (Int32.add_left_inj 1).mp h
theorem lt_x (i : Nat) : nI i + (-1) + 1 = nI i := by
  rw [Int32.add_assoc]
  have e1 : (-1 : Int32) + 1 = 0 := by decide
  rw [e1, Int32.add_zero]
theorem lt_step {vs : List Nat} {fv : Nat → RW} {key : Int32} {i a : Nat} (hi : vs[i]? = some a) (h : rw_latest (vs.map fv) key = rw_last (vs.map fv) key (i + 1)) (hne : ¬ fv a 1 = key) : rw_latest (vs.map fv) key = rw_last (vs.map fv) key i := by
  rw [h]
  show (if rw_at (vs.map fv) i 1 = key then some i else rw_last (vs.map fv) key i) = _
  rw [rw_at_map hi, if_neg hne]
theorem lt_some {vs : List Nat} {fv : Nat → RW} {key : Int32} {i a : Nat} (hi : vs[i]? = some a) (h : rw_latest (vs.map fv) key = rw_last (vs.map fv) key (i + 1)) (he : fv a 1 = key) : (rw_latest (vs.map fv) key).bind (fun i => vs[i]?) = some a := by
  rw [h]
  show ((if rw_at (vs.map fv) i 1 = key then some i else rw_last (vs.map fv) key i)).bind _ = _
  rw [rw_at_map hi, if_pos he]
  exact hi
theorem lt_none {vs : List Nat} {fv : Nat → RW} {key : Int32} (h : rw_latest (vs.map fv) key = rw_last (vs.map fv) key 0) : (rw_latest (vs.map fv) key).bind (fun i => vs[i]?) = none := by
  rw [h]; rfl

set_option maxRecDepth 100000 in
set_option maxHeartbeats 4000000 in
theorem c_V_latestOf {l : Launch} {D : va_G} {A : Nat → Prop} {e0 : Nat → Nat} {K : Nat → Nat} {ca : Nat → ClassId} {RL LP : List Nat} {fv FR : Nat → RW} {day ever mo : Int32} {ea : Nat} {wr : Int32} {ch : Int64} {ring : Nat → Int32} {rest : va_W} {vs : List Nat} {eo : va_W} (hI : cI e0 ca vs LP ea eo) {key : Int32} : tM l y_V_latestOf tb ({ frames := 3, cells := 0, slots := 0, locals := 64 }) D cls (ty0 ca) A (zz e0 A) [.ref (K 0), .int key] (wC K ca RL LP fv FR day ever mo (nI vs.length) ea wr ch ring (eo ++ rest)) (fun v w2 => v = some (va_rf ((rw_latest (vs.map fv) key).bind (fun i => vs[i]?))) ∧ w2 = wC K ca RL LP fv FR day ever mo (nI vs.length) ea wr ch ring (eo ++ rest)) (xN) := by
  refine t_ofW (by decide) w_300 (Nat.le_of_ble_eq_true rfl) ?_
  intro p e s m below meth c ls hx hb hr hts hown hlk hnm hml hex hl hC
  have hown : s.vm.findClass "RetentionVault" = some m.cls := hown
  have hl : lv_has ls 4 [(0, .ref (K 0)), (1, .int key)] := hl
  obtain ⟨hLR, hvL, hnd, h40⟩ := hI
  refine lv_aload_n hx hb d_V_latestOf_0 rfl (lv_at hl 0 rfl) ?_
  refine t_get (v := .ref (K 1)) hx hb hts inV hown hC 0 rfl rfl 0 (by decide) (hts _ w_97) (fun _ h => h) rfl d_V_latestOf_1 ?_
  refine t_call (t_invV (As := []) (rest := []) hx hb hown (hts _ w_210) (hts _ w_211) (hts _ w_212) (hts _ w_213) ⟨by decide, by decide⟩ (t_recv (q0 := 1) hC rfl rfl) rfl d_V_latestOf_4) c_A_size zz_c tb_good hts w_4 hC (hl.1.trans hml.symm) ⟨Nat.le_of_ble_eq_true rfl, Nat.le_of_ble_eq_true rfl, Nat.le_of_ble_eq_true rfl, Nat.le_of_ble_eq_true rfl⟩ (Nat.le_of_ble_eq_true rfl) (fun E q ce w1 H1 l1 hp => hp.elim) (fun v w1 H locs hp hC => ?_)
  obtain ⟨rfl, hwe9⟩ := hp
  rw [hwe9] at hC
  have hC : tC D cls (ty0 ca) A (zz e0 A) s (wC K ca RL LP fv FR day ever mo (nI vs.length) ea wr ch ring (eo ++ rest)) H locs := hC
  refine W.eq (g2 := F0 m 7 ls [.int (nI vs.length)]) rfl ?_
  refine lv_iconst (v := 1) hx hb d_V_latestOf_7 (by decide) ?_
  refine lv_isub hx hb d_V_latestOf_8 ?_
  refine lv_istore_n (lv' := [(2, .int ((nI vs.length) - 1)), (0, .ref (K 0)), (1, .int key)]) hx hb d_V_latestOf_9 rfl hl (by decide) rfl (fun ls hl => ?_)
  have loop : ∀ (k : Nat) (x : Int32) (ls : Array Slot) (H : Heap) (locs : List Loc), x + 1 = nI k → k ≤ vs.length → rw_latest (vs.map fv) key = rw_last (vs.map fv) key k → lv_has ls 4 [(2, .int x), (0, .ref (K 0)), (1, .int key)] → tC D cls (ty0 ca) A (zz e0 A) s (wC K ca RL LP fv FR day ever mo (nI vs.length) ea wr ch ring (eo ++ rest)) H locs → tB p l e ({ frames := 3, cells := 0, slots := 0, locals := 64 }) s m [.ref (K 0), .int key] below meth c D (ty0 ca) A (zz e0 A) (fun v w2 => v = some (va_rf ((rw_latest (vs.map fv) key).bind (fun i => vs[i]?))) ∧ w2 = wC K ca RL LP fv FR day ever mo (nI vs.length) ea wr ch ring (eo ++ rest)) (xN) H locs 0 0 (F0 m 10 ls []) := by
    intro k
    induction k with
    | zero =>
      intro x ls H locs hxk hk hin hl hC
      have hx1 : x = -1 := lt_m1 hxk
      subst hx1
      refine lv_iload_n hx hb d_V_latestOf_10 rfl (lv_at hl 0 rfl) ?_
      refine lv_if_lt (tgt := 42) hx hb d_V_latestOf_11 (by decide) (fun c11 => ?_) (fun c11 => ?_)
      · skip
        refine lv_null hx hb d_V_latestOf_42 ?_
        exact t_aret (r := none) hx hb hr (Or.inl ⟨_, rfl⟩) hlk zz_c hC (⟨by rw [lt_none hin], rfl⟩) (Nat.le_of_ble_eq_true rfl) (Nat.le_of_ble_eq_true rfl) d_V_latestOf_43
      · exact absurd (by decide) c11
    | succ i ih =>
      intro x ls H locs hxk hk hin hl hC
      have hx1 : x = nI i := lt_x1 hxk
      subst hx1
      obtain ⟨a, hi⟩ : ∃ a, vs[i]? = some a := ⟨vs[i], List.getElem?_eq_getElem (by omega)⟩
      have ha : a ∈ LP := hvL a (List.mem_of_getElem? hi)
      refine lv_iload_n hx hb d_V_latestOf_10 rfl (lv_at hl 0 rfl) ?_
      refine lv_if_lt (tgt := 42) hx hb d_V_latestOf_11 (by decide) (fun c11 => ?_) (fun c11 => ?_)
      · exact absurd c11 (nI_pos (by omega))
      · skip
        refine lv_aload_n hx hb d_V_latestOf_14 rfl (lv_at hl 1 rfl) ?_
        refine t_get (v := .ref (K 1)) hx hb hts inV hown hC 0 rfl rfl 0 (by decide) (hts _ w_97) (fun _ h => h) rfl d_V_latestOf_15 ?_
        refine lv_iload_n hx hb d_V_latestOf_18 rfl (lv_at hl 0 rfl) ?_
        refine t_call (t_invV (As := [.int (nI i)]) (rest := []) hx hb hown (hts _ w_301) (hts _ w_302) (hts _ w_303) (hts _ w_304) ⟨by decide, by decide⟩ (t_recv (q0 := 1) hC rfl rfl) rfl d_V_latestOf_19) (c_A_get hLR hi) zz_c tb_good hts w_4 hC (hl.1.trans hml.symm) ⟨Nat.le_of_ble_eq_true rfl, Nat.le_of_ble_eq_true rfl, Nat.le_of_ble_eq_true rfl, Nat.le_of_ble_eq_true rfl⟩ (Nat.le_of_ble_eq_true rfl) (fun E q ce w1 H1 l1 hp => hp.elim) (fun v w1 H locs hp hC => ?_)
        obtain ⟨rfl, hwe9⟩ := hp
        rw [hwe9] at hC
        have hC : tC D cls (ty0 ca) A (zz e0 A) s (wC K ca RL LP fv FR day ever mo (nI vs.length) ea wr ch ring (eo ++ rest)) H locs := hC
        refine W.eq (g2 := F0 m 22 ls [.ref a]) rfl ?_
        refine va_castY (C := "RetentionVault$Version") hx hb hown (hts _ w_230) (hC.2.2.2.2.2.2.2.2.2.1 ("RetentionVault$Version", "RetentionVault$Version") (by decide +kernel)) (t_recvP hC ha rfl rfl) d_V_latestOf_22 ?_
        refine lv_astore_n (lv' := [(3, .ref a), (2, .int (nI i)), (0, .ref (K 0)), (1, .int key)]) hx hb d_V_latestOf_25 rfl hl (by decide) rfl (fun ls hl => ?_)
        refine lv_aload_n hx hb d_V_latestOf_26 rfl (lv_at hl 0 rfl) ?_
        refine t_getP hx hb hts inN hown hC ha rfl 1 (by decide) (hts _ w_239) (fun _ h => h) d_V_latestOf_27 ?_
        refine lv_iload_n hx hb d_V_latestOf_30 rfl (lv_at hl 3 rfl) ?_
        refine lv_icmp_ne (tgt := 36) hx hb d_V_latestOf_31 (by decide) (fun c31 => ?_) (fun c31 => ?_)
        · skip
          refine lv_iinc (k := 1) (v := (nI i) + (-1)) (lv' := [(2, .int ((nI i) + (-1))), (3, .ref a), (0, .ref (K 0)), (1, .int key)]) hx hb d_V_latestOf_36 hl rfl rfl (by decide) rfl (fun ls hl => ?_)
          refine lv_goto (tgt := 10) hx hb d_V_latestOf_39 (by decide) ?_
          exact ih (nI i + (-1)) ls H locs (lt_x i) (by omega) (lt_step hi hin (fun h => c31 h)) (lv_sub hl [0, 2, 3] rfl) hC
        · skip
          refine lv_aload_n hx hb d_V_latestOf_34 rfl (lv_at hl 0 rfl) ?_
          exact t_aret (r := some a) hx hb hr (Or.inl ⟨_, rfl⟩) hlk zz_c hC (⟨by rw [lt_some hi hin c31], rfl⟩) (Nat.le_of_ble_eq_true rfl) (Nat.le_of_ble_eq_true rfl) d_V_latestOf_35
  exact loop vs.length _ ls _ _ (by rw [Int32.sub_add_cancel]) (Nat.le_refl _) (by unfold rw_latest; rw [List.length_map]) hl hC

theorem op_two {α : Type} (o : Option α) : o = none ∨ ∃ x, o = some x := by
  cases o with
  | none => exact Or.inl rfl
  | some x => exact Or.inr ⟨x, rfl⟩
theorem lt_mem {vs LP : List Nat} {r : Option Nat} {a : Nat} (hvL : ∀ a ∈ vs, a ∈ LP) (h : r.bind (fun i => vs[i]?) = some a) : a ∈ LP := by
  cases r with
  | none => cases h
  | some i => exact hvL a (List.mem_of_getElem? (show vs[i]? = some a from h))

set_option maxRecDepth 100000 in
set_option maxHeartbeats 4000000 in
theorem c_V_currentObject {l : Launch} (hst : l.stackTraces = false) {D : va_G} {A : Nat → Prop} {e0 : Nat → Nat} {K : Nat → Nat} {ca : Nat → ClassId} {RL LP : List Nat} {fv FR : Nat → RW} {day ever mo : Int32} {ea : Nat} {wr : Int32} {ch : Int64} {ring : Nat → Int32} {rest : va_W} {vs : List Nat} {eo : va_W} (hI : cI e0 ca vs LP ea eo) {key : Int32} : tM l y_V_currentObject tb ({ frames := 6, cells := 1, slots := 6, locals := 90 }) D cls (ty0 ca) A (zz e0 A) [.ref (K 0), .int key] (wC K ca RL LP fv FR day ever mo (nI vs.length) ea wr ch ring (eo ++ rest)) (fun v w2 => ∃ a, (rw_latest (vs.map fv) key).bind (fun i => vs[i]?) = some a ∧ fv a 5 ≠ -1 ∧ v = some (.ref a) ∧ w2 = wC K ca RL LP fv FR day ever mo (nI vs.length) ea wr ch ring (eo ++ rest)) (fun E w2 => E = "java/util/NoSuchElementException" ∧ w2 = wC K ca RL LP fv FR day ever mo (nI vs.length) ea wr ch ring (eo ++ rest) ∧ ((rw_latest (vs.map fv) key).bind (fun i => vs[i]?) = none ∨ ∃ a, (rw_latest (vs.map fv) key).bind (fun i => vs[i]?) = some a ∧ fv a 5 = -1)) := by
  refine t_ofW (by decide) w_399 (Nat.le_of_ble_eq_true rfl) ?_
  intro p e s m below meth c ls hx hb hr hts hown hlk hnm hml hex hl hC
  have hown : s.vm.findClass "RetentionVault" = some m.cls := hown
  have hl : lv_has ls 3 [(0, .ref (K 0)), (1, .int key)] := hl
  obtain ⟨hLR, hvL, hnd, h40⟩ := hI
  refine lv_aload_n hx hb d_V_currentObject_0 rfl (lv_at hl 0 rfl) ?_
  refine lv_iload_n hx hb d_V_currentObject_1 rfl (lv_at hl 1 rfl) ?_
  refine t_call (t_invV (As := [.int key]) (rest := []) hx hb hown (hts _ w_297) (hts _ w_299) (hts _ s_V_latestOf) (hts _ w_300) ⟨by decide, by decide⟩ (t_recv (q0 := 0) hC rfl rfl) rfl d_V_currentObject_2) (c_V_latestOf ⟨hLR, hvL, hnd, h40⟩) zz_c tb_good hts w_1 hC (hl.1.trans hml.symm) ⟨Nat.le_of_ble_eq_true rfl, Nat.le_of_ble_eq_true rfl, Nat.le_of_ble_eq_true rfl, Nat.le_of_ble_eq_true rfl⟩ (Nat.le_of_ble_eq_true rfl) (fun E q ce w1 H1 l1 hp => hp.elim) (fun v w1 H locs hp hC => ?_)
  obtain ⟨rfl, hwe9⟩ := hp
  rw [hwe9] at hC
  have hC : tC D cls (ty0 ca) A (zz e0 A) s (wC K ca RL LP fv FR day ever mo (nI vs.length) ea wr ch ring (eo ++ rest)) H locs := hC
  refine W.eq (g2 := F0 m 5 ls [va_rf ((rw_latest (vs.map fv) key).bind (fun i => vs[i]?))]) rfl ?_
  rcases op_two ((rw_latest (vs.map fv) key).bind (fun i => vs[i]?)) with hlt | ⟨a, hlt⟩
  · refine W.eq (g2 := F0 m 5 ls [.null]) (by rw [hlt]; rfl) ?_
    refine lv_astore_nN (lv' := [(2, .null), (0, .ref (K 0)), (1, .int key)]) hx hb d_V_currentObject_5 rfl hl (by decide) rfl (fun ls hl => ?_)
    refine lv_aload_nN hx hb d_V_currentObject_6 rfl (lv_at hl 0 rfl) ?_
    refine lv_ifnullN (tgt := 17) hx hb d_V_currentObject_7 (by decide) ?_
    exact t_throw (by9 := prog_25_method_4_code) (ix := 13) (Y9 := "java/lang/RuntimeException") (r9 := ["java/lang/Exception"]) (text := "the key has no current object") hx hb hst (by decide +kernel) (by decide +kernel) (by decide +kernel) (by decide +kernel) hown tb_good hts (by decide) (by decide) (by decide) w_400 w_20 (zz_str hC.2.2.2.2.2 (by decide +kernel)) at_NSE zz_c zz_X4 hC (hl.1.trans hml.symm) hex hlk d_V_currentObject_17 d_V_currentObject_20 d_V_currentObject_21 d_V_currentObject_23 d_V_currentObject_26 ⟨Nat.le_of_ble_eq_true rfl, Nat.le_of_ble_eq_true rfl, Nat.le_of_ble_eq_true rfl, Nat.le_of_ble_eq_true rfl⟩ (Nat.le_of_ble_eq_true rfl) (Nat.le_of_ble_eq_true rfl) (⟨rfl, rfl, Or.inl hlt⟩)
  · have ha : a ∈ LP := lt_mem hvL hlt
    refine W.eq (g2 := F0 m 5 ls [.ref a]) (by rw [hlt]; rfl) ?_
    refine lv_astore_n (lv' := [(2, .ref a), (0, .ref (K 0)), (1, .int key)]) hx hb d_V_currentObject_5 rfl hl (by decide) rfl (fun ls hl => ?_)
    refine lv_aload_n hx hb d_V_currentObject_6 rfl (lv_at hl 0 rfl) ?_
    refine lv_ifnull hx hb d_V_currentObject_7 ?_
    refine lv_aload_n hx hb d_V_currentObject_10 rfl (lv_at hl 0 rfl) ?_
    refine t_call (t_invV (As := []) (rest := []) hx hb hown (hts _ w_372) (hts _ w_373) (hts _ w_374) (hts _ w_375) ⟨by decide, by decide⟩ (t_recvP hC ha rfl rfl) rfl d_V_currentObject_11) (c_N_isMarker zz_c ha) zz_c tb_good hts w_13 hC (hl.1.trans hml.symm) ⟨Nat.le_of_ble_eq_true rfl, Nat.le_of_ble_eq_true rfl, Nat.le_of_ble_eq_true rfl, Nat.le_of_ble_eq_true rfl⟩ (Nat.le_of_ble_eq_true rfl) (fun E q ce w1 H1 l1 hp => hp.elim) (fun v w1 H locs hp hC => ?_)
    obtain ⟨rfl, hwe9⟩ := hp
    rw [hwe9] at hC
    have hC : tC D cls (ty0 ca) A (zz e0 A) s (wC K ca RL LP fv FR day ever mo (nI vs.length) ea wr ch ring (eo ++ rest)) H locs := hC
    refine W.eq (g2 := F0 m 14 ls [.int (bI (fv a 5 = -1))]) rfl ?_
    refine lv_if_eq (tgt := 27) hx hb d_V_currentObject_14 (by decide) (fun c14 => ?_) (fun c14 => ?_)
    · skip
      refine lv_aload_n hx hb d_V_currentObject_27 rfl (lv_at hl 0 rfl) ?_
      exact t_aret (r := some a) hx hb hr (Or.inl ⟨_, rfl⟩) hlk zz_c hC (⟨a, hlt, bI_ne.mp c14, rfl, rfl⟩) (Nat.le_of_ble_eq_true rfl) (Nat.le_of_ble_eq_true rfl) d_V_currentObject_28
    · skip
      exact t_throw (by9 := prog_25_method_4_code) (ix := 13) (Y9 := "java/lang/RuntimeException") (r9 := ["java/lang/Exception"]) (text := "the key has no current object") hx hb hst (by decide +kernel) (by decide +kernel) (by decide +kernel) (by decide +kernel) hown tb_good hts (by decide) (by decide) (by decide) w_400 w_20 (zz_str hC.2.2.2.2.2 (by decide +kernel)) at_NSE zz_c zz_X4 hC (hl.1.trans hml.symm) hex hlk d_V_currentObject_17 d_V_currentObject_20 d_V_currentObject_21 d_V_currentObject_23 d_V_currentObject_26 ⟨Nat.le_of_ble_eq_true rfl, Nat.le_of_ble_eq_true rfl, Nat.le_of_ble_eq_true rfl, Nat.le_of_ble_eq_true rfl⟩ (Nat.le_of_ble_eq_true rfl) (Nat.le_of_ble_eq_true rfl) (⟨rfl, rfl, Or.inr ⟨a, hlt, Classical.not_not.mp (fun h => c14 (bI_ne.mpr h))⟩⟩)

set_option maxRecDepth 100000 in
set_option maxHeartbeats 4000000 in
theorem c_V_current {l : Launch} (hst : l.stackTraces = false) {D : va_G} {A : Nat → Prop} {e0 : Nat → Nat} {K : Nat → Nat} {ca : Nat → ClassId} {RL LP : List Nat} {fv FR : Nat → RW} {day ever mo : Int32} {ea : Nat} {wr : Int32} {ch : Int64} {ring : Nat → Int32} {rest : va_W} {vs : List Nat} {eo : va_W} (hI : cI e0 ca vs LP ea eo) {key : Int32} : tM l y_V_current tb ({ frames := 7, cells := 1, slots := 6, locals := 112 }) D cls (ty0 ca) A (zz e0 A) [.ref (K 0), .int key] (wC K ca RL LP fv FR day ever mo (nI vs.length) ea wr ch ring (eo ++ rest)) (fun v w2 => ∃ a, (rw_latest (vs.map fv) key).bind (fun i => vs[i]?) = some a ∧ fv a 5 ≠ -1 ∧ v = some (.int (fv a 0)) ∧ w2 = wC K ca RL LP fv FR day ever mo (nI vs.length) ea wr ch ring (eo ++ rest)) (fun E w2 => E = "java/util/NoSuchElementException" ∧ w2 = wC K ca RL LP fv FR day ever mo (nI vs.length) ea wr ch ring (eo ++ rest) ∧ ((rw_latest (vs.map fv) key).bind (fun i => vs[i]?) = none ∨ ∃ a, (rw_latest (vs.map fv) key).bind (fun i => vs[i]?) = some a ∧ fv a 5 = -1)) := by
  refine t_ofW (by decide) w_572 (Nat.le_of_ble_eq_true rfl) ?_
  intro p e s m below meth c ls hx hb hr hts hown hlk hnm hml hex hl hC
  have hown : s.vm.findClass "RetentionVault" = some m.cls := hown
  have hl : lv_has ls 2 [(0, .ref (K 0)), (1, .int key)] := hl
  obtain ⟨hLR, hvL, hnd, h40⟩ := hI
  refine lv_aload_n hx hb d_V_current_0 rfl (lv_at hl 0 rfl) ?_
  refine lv_iload_n hx hb d_V_current_1 rfl (lv_at hl 1 rfl) ?_
  refine t_call (t_invV (As := [.int key]) (rest := []) hx hb hown (hts _ w_396) (hts _ w_398) (hts _ s_V_currentObject) (hts _ w_399) ⟨by decide, by decide⟩ (t_recv (q0 := 0) hC rfl rfl) rfl d_V_current_2) (c_V_currentObject hst ⟨hLR, hvL, hnd, h40⟩) zz_c tb_good hts w_1 hC (hl.1.trans hml.symm) ⟨Nat.le_of_ble_eq_true rfl, Nat.le_of_ble_eq_true rfl, Nat.le_of_ble_eq_true rfl, Nat.le_of_ble_eq_true rfl⟩ (Nat.le_of_ble_eq_true rfl) (fun E q9 ce w1 H locs hp hC hce hcv hcl => ?_) (fun v w1 H locs hp hC => ?_)
  · skip
    obtain ⟨rfl, hwe9, hlt⟩ := hp
    rw [hwe9] at hC
    have hC : tC D cls (ty0 ca) A (zz e0 A) s (wC K ca RL LP fv FR day ever mo (nI vs.length) ea wr ch ring (eo ++ rest)) H locs := hC
    exact t_out (fun x h => (hex x h).elim) hlk zz_c hC hce hcv hcl (⟨rfl, rfl, hlt⟩) (Nat.le_of_ble_eq_true rfl) (Nat.le_of_ble_eq_true rfl)
  · skip
    obtain ⟨a, hlt, hob, rfl, hwe9⟩ := hp
    rw [hwe9] at hC
    have ha : a ∈ LP := lt_mem hvL hlt
    have hC : tC D cls (ty0 ca) A (zz e0 A) s (wC K ca RL LP fv FR day ever mo (nI vs.length) ea wr ch ring (eo ++ rest)) H locs := hC
    refine W.eq (g2 := F0 m 5 ls [.ref a]) rfl ?_
    refine t_getP hx hb hts inN hown hC ha rfl 0 (by decide) (hts _ w_237) (fun _ h => h) d_V_current_5 ?_
    exact t_iret hx hb hr hlk zz_c hC (⟨a, hlt, hob, rfl, rfl⟩) (Nat.le_of_ble_eq_true rfl) (Nat.le_of_ble_eq_true rfl) d_V_current_8

set_option maxRecDepth 100000 in
set_option maxHeartbeats 4000000 in
theorem c_V_read {l : Launch} (hst : l.stackTraces = false) {D : va_G} {A : Nat → Prop} {e0 : Nat → Nat} {K : Nat → Nat} {ca : Nat → ClassId} {RL LP : List Nat} {fv FR : Nat → RW} {day ever mo : Int32} {ea : Nat} {wr : Int32} {ch : Int64} {ring : Nat → Int32} {rest : va_W} {vs : List Nat} {eo : va_W} (hI : cI e0 ca vs LP ea eo) {number : Int32} : tM l y_V_read tb ({ frames := 8, cells := 3, slots := 18, locals := 135 }) D cls (ty0 ca) A (zz e0 A) [.ref (K 0), .int number] (wC K ca RL LP fv FR day ever mo (nI vs.length) ea wr ch ring (eo ++ rest)) (fun v w2 => ∃ a, vs.find? (fun a => decide (fv a 0 = number)) = some a ∧ fv a 5 ≠ -1 ∧ ¬ (2 ≤ fv a 5 ∧ ¬ (fv a 11 ≤ day ∧ day < fv a 12)) ∧ v = some (.int (fv a 3)) ∧ w2 = wC K ca RL LP fv FR day ever mo (nI vs.length) ea wr ch ring (eo ++ rest)) (fun E w2 => w2 = wC K ca RL LP fv FR day ever mo (nI vs.length) ea wr ch ring (eo ++ rest) ∧ ((E = "java/util/NoSuchElementException" ∧ (vs.find? (fun a => decide (fv a 0 = number)) = none ∨ ∃ a, vs.find? (fun a => decide (fv a 0 = number)) = some a ∧ fv a 5 = -1)) ∨ (E = "java/lang/IllegalStateException" ∧ ∃ a, vs.find? (fun a => decide (fv a 0 = number)) = some a ∧ fv a 5 ≠ -1 ∧ 2 ≤ fv a 5 ∧ ¬ (fv a 11 ≤ day ∧ day < fv a 12)))) := by
  refine t_ofW (by decide) w_515 (Nat.le_of_ble_eq_true rfl) ?_
  intro p e s m below meth c ls hx hb hr hts hown hlk hnm hml hex hl hC
  have hown : s.vm.findClass "RetentionVault" = some m.cls := hown
  have hl : lv_has ls 3 [(0, .ref (K 0)), (1, .int number)] := hl
  obtain ⟨hLR, hvL, hnd, h40⟩ := hI
  refine lv_aload_n hx hb d_V_read_0 rfl (lv_at hl 0 rfl) ?_
  refine lv_iload_n hx hb d_V_read_1 rfl (lv_at hl 1 rfl) ?_
  refine t_call (t_invV (As := [.int number]) (rest := []) hx hb hown (hts _ w_462) (hts _ w_464) (hts _ s_V_objectNumbered) (hts _ w_465) ⟨by decide, by decide⟩ (t_recv (q0 := 0) hC rfl rfl) rfl d_V_read_2) (c_V_objectNumbered hst ⟨hLR, hvL, hnd, h40⟩) zz_c tb_good hts w_1 hC (hl.1.trans hml.symm) ⟨Nat.le_of_ble_eq_true rfl, Nat.le_of_ble_eq_true rfl, Nat.le_of_ble_eq_true rfl, Nat.le_of_ble_eq_true rfl⟩ (Nat.le_of_ble_eq_true rfl) (fun E q9 ce w1 H locs hp hC hce hcv hcl => ?_) (fun v w1 H locs hp hC => ?_)
  · skip
    obtain ⟨rfl, hwe9, hfa⟩ := hp
    rw [hwe9] at hC
    have hC : tC D cls (ty0 ca) A (zz e0 A) s (wC K ca RL LP fv FR day ever mo (nI vs.length) ea wr ch ring (eo ++ rest)) H locs := hC
    exact t_out (fun x h => (hex x h).elim) hlk zz_c hC hce hcv hcl (⟨rfl, Or.inl ⟨rfl, hfa⟩⟩) (Nat.le_of_ble_eq_true rfl) (Nat.le_of_ble_eq_true rfl)
  · skip
    obtain ⟨a, hfa, hob, rfl, hwe9⟩ := hp
    rw [hwe9] at hC
    have ha : a ∈ LP := hvL a (List.mem_of_find?_eq_some hfa)
    have hC : tC D cls (ty0 ca) A (zz e0 A) s (wC K ca RL LP fv FR day ever mo (nI vs.length) ea wr ch ring (eo ++ rest)) H locs := hC
    refine W.eq (g2 := F0 m 5 ls [.ref a]) rfl ?_
    refine lv_astore_n (lv' := [(2, .ref a), (0, .ref (K 0)), (1, .int number)]) hx hb d_V_read_5 rfl hl (by decide) rfl (fun ls hl => ?_)
    refine lv_aload_n hx hb d_V_read_6 rfl (lv_at hl 0 rfl) ?_
    refine t_call (t_invV (As := []) (rest := []) hx hb hown (hts _ w_504) (hts _ w_505) (hts _ w_506) (hts _ w_507) ⟨by decide, by decide⟩ (t_recvP hC ha rfl rfl) rfl d_V_read_7) (c_N_isCold zz_c ha) zz_c tb_good hts w_13 hC (hl.1.trans hml.symm) ⟨Nat.le_of_ble_eq_true rfl, Nat.le_of_ble_eq_true rfl, Nat.le_of_ble_eq_true rfl, Nat.le_of_ble_eq_true rfl⟩ (Nat.le_of_ble_eq_true rfl) (fun E q ce w1 H1 l1 hp => hp.elim) (fun v w1 H locs hp hC => ?_)
    obtain ⟨rfl, hwe9⟩ := hp
    rw [hwe9] at hC
    have hC : tC D cls (ty0 ca) A (zz e0 A) s (wC K ca RL LP fv FR day ever mo (nI vs.length) ea wr ch ring (eo ++ rest)) H locs := hC
    refine W.eq (g2 := F0 m 10 ls [.int (bI (2 ≤ fv a 5))]) rfl ?_
    refine lv_if_eq (tgt := 34) hx hb d_V_read_10 (by decide) (fun c10 => ?_) (fun c10 => ?_)
    · skip
      refine lv_aload_n hx hb d_V_read_34 rfl (lv_at hl 0 rfl) ?_
      refine t_getP hx hb hts inN hown hC ha rfl 3 (by decide) (hts _ w_242) (fun _ h => h) d_V_read_35 ?_
      exact t_iret hx hb hr hlk zz_c hC (⟨a, hfa, hob, fun h => bI_ne.mp c10 h.1, rfl, rfl⟩) (Nat.le_of_ble_eq_true rfl) (Nat.le_of_ble_eq_true rfl) d_V_read_38
    · skip
      refine lv_aload_n hx hb d_V_read_13 rfl (lv_at hl 0 rfl) ?_
      refine lv_aload_n hx hb d_V_read_14 rfl (lv_at hl 1 rfl) ?_
      refine t_get (v := .int day) hx hb hts inV hown hC 0 rfl rfl 3 (by decide) (hts _ w_100) (fun _ h => h) rfl d_V_read_15 ?_
      refine t_call (t_invV (As := [.int day]) (rest := []) hx hb hown (hts _ w_516) (hts _ w_517) (hts _ w_518) (hts _ w_519) ⟨by decide, by decide⟩ (t_recvP hC ha rfl rfl) rfl d_V_read_18) (c_N_isFetchedFor zz_c ha) zz_c tb_good hts w_13 hC (hl.1.trans hml.symm) ⟨Nat.le_of_ble_eq_true rfl, Nat.le_of_ble_eq_true rfl, Nat.le_of_ble_eq_true rfl, Nat.le_of_ble_eq_true rfl⟩ (Nat.le_of_ble_eq_true rfl) (fun E q ce w1 H1 l1 hp => hp.elim) (fun v w1 H locs hp hC => ?_)
      obtain ⟨rfl, hwe9⟩ := hp
      rw [hwe9] at hC
      have hC : tC D cls (ty0 ca) A (zz e0 A) s (wC K ca RL LP fv FR day ever mo (nI vs.length) ea wr ch ring (eo ++ rest)) H locs := hC
      refine W.eq (g2 := F0 m 21 ls [.int (bI (fv a 11 ≤ day ∧ day < fv a 12))]) rfl ?_
      refine lv_if_ne (tgt := 34) hx hb d_V_read_21 (by decide) (fun c21 => ?_) (fun c21 => ?_)
      · skip
        refine lv_aload_n hx hb d_V_read_34 rfl (lv_at hl 0 rfl) ?_
        refine t_getP hx hb hts inN hown hC ha rfl 3 (by decide) (hts _ w_242) (fun _ h => h) d_V_read_35 ?_
        exact t_iret hx hb hr hlk zz_c hC (⟨a, hfa, hob, fun h => c21 (bI_ne.mpr h.2), rfl, rfl⟩) (Nat.le_of_ble_eq_true rfl) (Nat.le_of_ble_eq_true rfl) d_V_read_38
      · skip
        exact t_throw (by9 := prog_11_method_2_code) (ix := 7) (Y9 := "java/lang/RuntimeException") (r9 := ["java/lang/Exception"]) (text := "the object is cold and not fetched for this day") hx hb hst (by decide +kernel) (by decide +kernel) (by decide +kernel) (by decide +kernel) hown tb_good hts (by decide) (by decide) (by decide) w_214 w_12 (zz_str hC.2.2.2.2.2 (by decide +kernel)) at_ISE zz_c zz_X4 hC (hl.1.trans hml.symm) hex hlk d_V_read_24 d_V_read_27 d_V_read_28 d_V_read_30 d_V_read_33 ⟨Nat.le_of_ble_eq_true rfl, Nat.le_of_ble_eq_true rfl, Nat.le_of_ble_eq_true rfl, Nat.le_of_ble_eq_true rfl⟩ (Nat.le_of_ble_eq_true rfl) (Nat.le_of_ble_eq_true rfl) (⟨rfl, Or.inr ⟨rfl, a, hfa, hob, Classical.not_not.mp (fun h => c10 (bI_ne.mpr h)), bI_ne.mp c21⟩⟩)

theorem sw0_7 (x : Int32) : x = 0 ∨ x = 1 ∨ x = 2 ∨ x = 3 ∨ x = 4 ∨ x = 5 ∨ x = 6 ∨ x = 7 ∨ (x.toInt < 0 ∨ 7 < x.toInt) := by
  rcases pk_ix x (n := 8) (by decide) with h | h | ⟨j, hj, rfl⟩
  · have h1 : x.toInt < 0 := Int32.lt_iff_toInt_lt.mp h
    simp [h1]
  · have h1 : (nI 8).toInt ≤ x.toInt := Int32.le_iff_toInt_le.mp h
    have h2 : (nI 8).toInt = 8 := by decide
    have h3 : 7 < x.toInt := by omega
    simp [h3]
  · rcases (by omega : j = 0 ∨ j = 1 ∨ j = 2 ∨ j = 3 ∨ j = 4 ∨ j = 5 ∨ j = 6 ∨ j = 7) with rfl | rfl | rfl | rfl | rfl | rfl | rfl | rfl <;> decide
theorem sw0_5 (x : Int32) : x = 0 ∨ x = 1 ∨ x = 2 ∨ x = 3 ∨ x = 4 ∨ x = 5 ∨ (x.toInt < 0 ∨ 5 < x.toInt) := by
  rcases pk_ix x (n := 6) (by decide) with h | h | ⟨j, hj, rfl⟩
  · have h1 : x.toInt < 0 := Int32.lt_iff_toInt_lt.mp h
    simp [h1]
  · have h1 : (nI 6).toInt ≤ x.toInt := Int32.le_iff_toInt_le.mp h
    have h2 : (nI 6).toInt = 6 := by decide
    have h3 : 5 < x.toInt := by omega
    simp [h3]
  · rcases (by omega : j = 0 ∨ j = 1 ∨ j = 2 ∨ j = 3 ∨ j = 4 ∨ j = 5) with rfl | rfl | rfl | rfl | rfl | rfl <;> decide
/-- what about(version, what) tells of a row -/
def rw_about (r : RW) (day what : Int32) : Int32 := if what = 0 then r 1 else if what = 1 then r 3 else if what = 2 then r 5 else if what = 3 then (if r 6 = 0 then r 7 else r 2) else if what = 4 then bI (r 6 ≠ 0) else if what = 5 then r 8 else if what = 6 then r 10 else bI (r 10 ≠ 0 ∨ day < r 8)

set_option maxRecDepth 100000 in
set_option maxHeartbeats 4000000 in
theorem c_V_about {l : Launch} (hst : l.stackTraces = false) {D : va_G} {A : Nat → Prop} {e0 : Nat → Nat} {K : Nat → Nat} {ca : Nat → ClassId} {RL LP : List Nat} {fv FR : Nat → RW} {day ever mo : Int32} {ea : Nat} {wr : Int32} {ch : Int64} {ring : Nat → Int32} {rest : va_W} {vs : List Nat} {eo : va_W} (hI : cI e0 ca vs LP ea eo) {number what : Int32} : tM l y_V_about tb ({ frames := 7, cells := 2, slots := 12, locals := 113 }) D cls (ty0 ca) A (zz e0 A) [.ref (K 0), .int number, .int what] (wC K ca RL LP fv FR day ever mo (nI vs.length) ea wr ch ring (eo ++ rest)) (fun v w2 => ∃ a, vs.find? (fun a => decide (fv a 0 = number)) = some a ∧ ¬ (what.toInt < 0 ∨ 7 < what.toInt) ∧ v = some (.int (rw_about (fv a) day what)) ∧ w2 = wC K ca RL LP fv FR day ever mo (nI vs.length) ea wr ch ring (eo ++ rest)) (fun E w2 => w2 = wC K ca RL LP fv FR day ever mo (nI vs.length) ea wr ch ring (eo ++ rest) ∧ ((E = "java/util/NoSuchElementException" ∧ vs.find? (fun a => decide (fv a 0 = number)) = none) ∨ (E = "java/lang/IllegalArgumentException" ∧ (∃ a, vs.find? (fun a => decide (fv a 0 = number)) = some a) ∧ (what.toInt < 0 ∨ 7 < what.toInt)))) := by
  refine t_ofW (by decide) w_579 (Nat.le_of_ble_eq_true rfl) ?_
  intro p e s m below meth c ls hx hb hr hts hown hlk hnm hml hex hl hC
  have hown : s.vm.findClass "RetentionVault" = some m.cls := hown
  have hl : lv_has ls 4 [(0, .ref (K 0)), (1, .int number), (2, .int what)] := hl
  obtain ⟨hLR, hvL, hnd, h40⟩ := hI
  refine lv_aload_n hx hb d_V_about_0 rfl (lv_at hl 0 rfl) ?_
  refine lv_iload_n hx hb d_V_about_1 rfl (lv_at hl 1 rfl) ?_
  refine t_call (t_invV (As := [.int number]) (rest := []) hx hb hown (hts _ w_423) (hts _ w_425) (hts _ s_V_versionNumbered) (hts _ w_426) ⟨by decide, by decide⟩ (t_recv (q0 := 0) hC rfl rfl) rfl d_V_about_2) (c_V_versionNumbered hst ⟨hLR, hvL, hnd, h40⟩) zz_c tb_good hts w_1 hC (hl.1.trans hml.symm) ⟨Nat.le_of_ble_eq_true rfl, Nat.le_of_ble_eq_true rfl, Nat.le_of_ble_eq_true rfl, Nat.le_of_ble_eq_true rfl⟩ (Nat.le_of_ble_eq_true rfl) (fun E q9 ce w1 H locs hp hC hce hcv hcl => ?_) (fun v w1 H locs hp hC => ?_)
  · skip
    obtain ⟨rfl, hwe9, hfa⟩ := hp
    rw [hwe9] at hC
    have hC : tC D cls (ty0 ca) A (zz e0 A) s (wC K ca RL LP fv FR day ever mo (nI vs.length) ea wr ch ring (eo ++ rest)) H locs := hC
    exact t_out (fun x h => (hex x h).elim) hlk zz_c hC hce hcv hcl (⟨rfl, Or.inl ⟨rfl, hfa⟩⟩) (Nat.le_of_ble_eq_true rfl) (Nat.le_of_ble_eq_true rfl)
  · skip
    obtain ⟨a, hfa, rfl, hwe9⟩ := hp
    rw [hwe9] at hC
    have ha : a ∈ LP := hvL a (List.mem_of_find?_eq_some hfa)
    have hC : tC D cls (ty0 ca) A (zz e0 A) s (wC K ca RL LP fv FR day ever mo (nI vs.length) ea wr ch ring (eo ++ rest)) H locs := hC
    refine W.eq (g2 := F0 m 5 ls [.ref a]) rfl ?_
    refine lv_astore_n (lv' := [(3, .ref a), (0, .ref (K 0)), (1, .int number), (2, .int what)]) hx hb d_V_about_5 rfl hl (by decide) rfl (fun ls hl => ?_)
    refine lv_iload_n hx hb d_V_about_6 rfl (lv_at hl 3 rfl) ?_
    rcases sw0_7 what with rfl | rfl | rfl | rfl | rfl | rfl | rfl | rfl | hsw
    · refine lv_tableIn (off := 45) (tgt := 52) hx hb d_V_about_7 (by decide) (by decide) (by decide) (by decide) ?_
      refine lv_aload_n hx hb d_V_about_52 rfl (lv_at hl 0 rfl) ?_
      refine t_getP hx hb hts inN hown hC ha rfl 1 (by decide) (hts _ w_239) (fun _ h => h) d_V_about_53 ?_
      exact t_iret hx hb hr hlk zz_c hC (⟨a, hfa, by decide, rfl, rfl⟩) (Nat.le_of_ble_eq_true rfl) (Nat.le_of_ble_eq_true rfl) d_V_about_56
    · refine lv_tableIn (off := 50) (tgt := 57) hx hb d_V_about_7 (by decide) (by decide) (by decide) (by decide) ?_
      refine lv_aload_n hx hb d_V_about_57 rfl (lv_at hl 0 rfl) ?_
      refine t_getP hx hb hts inN hown hC ha rfl 3 (by decide) (hts _ w_242) (fun _ h => h) d_V_about_58 ?_
      exact t_iret hx hb hr hlk zz_c hC (⟨a, hfa, by decide, rfl, rfl⟩) (Nat.le_of_ble_eq_true rfl) (Nat.le_of_ble_eq_true rfl) d_V_about_61
    · refine lv_tableIn (off := 55) (tgt := 62) hx hb d_V_about_7 (by decide) (by decide) (by decide) (by decide) ?_
      refine lv_aload_n hx hb d_V_about_62 rfl (lv_at hl 0 rfl) ?_
      refine t_getP hx hb hts inN hown hC ha rfl 5 (by decide) (hts _ w_246) (fun _ h => h) d_V_about_63 ?_
      exact t_iret hx hb hr hlk zz_c hC (⟨a, hfa, by decide, rfl, rfl⟩) (Nat.le_of_ble_eq_true rfl) (Nat.le_of_ble_eq_true rfl) d_V_about_66
    · refine lv_tableIn (off := 60) (tgt := 67) hx hb d_V_about_7 (by decide) (by decide) (by decide) (by decide) ?_
      refine lv_aload_n hx hb d_V_about_67 rfl (lv_at hl 0 rfl) ?_
      refine t_call (t_invV (As := []) (rest := []) hx hb hown (hts _ w_580) (hts _ w_542) (hts _ w_543) (hts _ w_544) ⟨by decide, by decide⟩ (t_recvP hC ha rfl rfl) rfl d_V_about_68) (c_N_since zz_c ha) zz_c tb_good hts w_13 hC (hl.1.trans hml.symm) ⟨Nat.le_of_ble_eq_true rfl, Nat.le_of_ble_eq_true rfl, Nat.le_of_ble_eq_true rfl, Nat.le_of_ble_eq_true rfl⟩ (Nat.le_of_ble_eq_true rfl) (fun E q ce w1 H1 l1 hp => hp.elim) (fun v w1 H locs hp hC => ?_)
      obtain ⟨rfl, hwe9⟩ := hp
      rw [hwe9] at hC
      have hC : tC D cls (ty0 ca) A (zz e0 A) s (wC K ca RL LP fv FR day ever mo (nI vs.length) ea wr ch ring (eo ++ rest)) H locs := hC
      refine W.eq (g2 := F0 m 71 ls [.int (if fv a 6 = 0 then fv a 7 else fv a 2)]) rfl ?_
      exact t_iret hx hb hr hlk zz_c hC (⟨a, hfa, by decide, rfl, rfl⟩) (Nat.le_of_ble_eq_true rfl) (Nat.le_of_ble_eq_true rfl) d_V_about_71
    · refine lv_tableIn (off := 65) (tgt := 72) hx hb d_V_about_7 (by decide) (by decide) (by decide) (by decide) ?_
      refine lv_aload_n hx hb d_V_about_72 rfl (lv_at hl 0 rfl) ?_
      refine t_getP hx hb hts inN hown hC ha rfl 6 (by decide) (hts _ w_249) (fun _ h => h) d_V_about_73 ?_
      refine lv_if_eq (tgt := 83) hx hb d_V_about_76 (by decide) (fun c76 => ?_) (fun c76 => ?_)
      · skip
        refine lv_iconst (v := 0) hx hb d_V_about_83 (by decide) ?_
        exact t_iret hx hb hr hlk zz_c hC (⟨a, hfa, by decide, by show some (Value.int 0) = some (Value.int (bI (fv a 6 ≠ 0))); simp [bI, c76], rfl⟩) (Nat.le_of_ble_eq_true rfl) (Nat.le_of_ble_eq_true rfl) d_V_about_84
      · skip
        refine lv_iconst (v := 1) hx hb d_V_about_79 (by decide) ?_
        refine lv_goto (tgt := 84) hx hb d_V_about_80 (by decide) ?_
        exact t_iret hx hb hr hlk zz_c hC (⟨a, hfa, by decide, by show some (Value.int 1) = some (Value.int (bI (fv a 6 ≠ 0))); simp [bI, c76], rfl⟩) (Nat.le_of_ble_eq_true rfl) (Nat.le_of_ble_eq_true rfl) d_V_about_84
    · refine lv_tableIn (off := 78) (tgt := 85) hx hb d_V_about_7 (by decide) (by decide) (by decide) (by decide) ?_
      refine lv_aload_n hx hb d_V_about_85 rfl (lv_at hl 0 rfl) ?_
      refine t_getP hx hb hts inN hown hC ha rfl 8 (by decide) (hts _ w_252) (fun _ h => h) d_V_about_86 ?_
      exact t_iret hx hb hr hlk zz_c hC (⟨a, hfa, by decide, rfl, rfl⟩) (Nat.le_of_ble_eq_true rfl) (Nat.le_of_ble_eq_true rfl) d_V_about_89
    · refine lv_tableIn (off := 83) (tgt := 90) hx hb d_V_about_7 (by decide) (by decide) (by decide) (by decide) ?_
      refine lv_aload_n hx hb d_V_about_90 rfl (lv_at hl 0 rfl) ?_
      refine t_getP hx hb hts inN hown hC ha rfl 10 (by decide) (hts _ w_257) (fun _ h => h) d_V_about_91 ?_
      exact t_iret hx hb hr hlk zz_c hC (⟨a, hfa, by decide, rfl, rfl⟩) (Nat.le_of_ble_eq_true rfl) (Nat.le_of_ble_eq_true rfl) d_V_about_94
    · refine lv_tableIn (off := 88) (tgt := 95) hx hb d_V_about_7 (by decide) (by decide) (by decide) (by decide) ?_
      refine lv_aload_n hx hb d_V_about_95 rfl (lv_at hl 0 rfl) ?_
      refine lv_aload_n hx hb d_V_about_96 rfl (lv_at hl 1 rfl) ?_
      refine t_get (v := .int day) hx hb hts inV hown hC 0 rfl rfl 3 (by decide) (hts _ w_100) (fun _ h => h) rfl d_V_about_97 ?_
      refine t_call (t_invV (As := [.int day]) (rest := []) hx hb hown (hts _ w_553) (hts _ w_554) (hts _ w_555) (hts _ w_556) ⟨by decide, by decide⟩ (t_recvP hC ha rfl rfl) rfl d_V_about_100) (c_N_isGuarded zz_c ha) zz_c tb_good hts w_13 hC (hl.1.trans hml.symm) ⟨Nat.le_of_ble_eq_true rfl, Nat.le_of_ble_eq_true rfl, Nat.le_of_ble_eq_true rfl, Nat.le_of_ble_eq_true rfl⟩ (Nat.le_of_ble_eq_true rfl) (fun E q ce w1 H1 l1 hp => hp.elim) (fun v w1 H locs hp hC => ?_)
      obtain ⟨rfl, hwe9⟩ := hp
      rw [hwe9] at hC
      have hC : tC D cls (ty0 ca) A (zz e0 A) s (wC K ca RL LP fv FR day ever mo (nI vs.length) ea wr ch ring (eo ++ rest)) H locs := hC
      refine W.eq (g2 := F0 m 103 ls [.int (bI (fv a 10 ≠ 0 ∨ day < fv a 8))]) rfl ?_
      refine lv_if_eq (tgt := 110) hx hb d_V_about_103 (by decide) (fun c103 => ?_) (fun c103 => ?_)
      · skip
        refine lv_iconst (v := 0) hx hb d_V_about_110 (by decide) ?_
        exact t_iret hx hb hr hlk zz_c hC (⟨a, hfa, by decide, by show some (Value.int 0) = some (Value.int (bI (fv a 10 ≠ 0 ∨ day < fv a 8))); rcases bI_01 (q := fv a 10 ≠ 0 ∨ day < fv a 8) with h | h <;> simp_all, rfl⟩) (Nat.le_of_ble_eq_true rfl) (Nat.le_of_ble_eq_true rfl) d_V_about_111
      · skip
        refine lv_iconst (v := 1) hx hb d_V_about_106 (by decide) ?_
        refine lv_goto (tgt := 111) hx hb d_V_about_107 (by decide) ?_
        exact t_iret hx hb hr hlk zz_c hC (⟨a, hfa, by decide, by show some (Value.int 1) = some (Value.int (bI (fv a 10 ≠ 0 ∨ day < fv a 8))); rcases bI_01 (q := fv a 10 ≠ 0 ∨ day < fv a 8) with h | h <;> simp_all, rfl⟩) (Nat.le_of_ble_eq_true rfl) (Nat.le_of_ble_eq_true rfl) d_V_about_111
    · refine lv_tableOut (tgt := 112) hx hb d_V_about_7 hsw (by decide) ?_
      exact t_throw (by9 := prog_10_method_2_code) (ix := 7) (Y9 := "java/lang/RuntimeException") (r9 := ["java/lang/Exception"]) (text := "what is not 0 .. 7") hx hb hst (by decide +kernel) (by decide +kernel) (by decide +kernel) (by decide +kernel) hown tb_good hts (by decide) (by decide) (by decide) w_133 w_11 (zz_str hC.2.2.2.2.2 (by decide +kernel)) at_IAE zz_c zz_X4 hC (hl.1.trans hml.symm) hex hlk d_V_about_112 d_V_about_115 d_V_about_116 d_V_about_118 d_V_about_121 ⟨Nat.le_of_ble_eq_true rfl, Nat.le_of_ble_eq_true rfl, Nat.le_of_ble_eq_true rfl, Nat.le_of_ble_eq_true rfl⟩ (Nat.le_of_ble_eq_true rfl) (Nat.le_of_ble_eq_true rfl) (⟨rfl, Or.inr ⟨rfl, ⟨a, hfa⟩, hsw⟩⟩)

theorem en_in {x what : Int32} (h : bI (0 ≤ what ∧ what ≤ 3) ≠ 0) : vp_in ((x &&& 63) * 4 + what) 256 := by
  have h1 : 0 ≤ what ∧ what ≤ 3 := Classical.not_not.mp (fun q => h (bI_ne.mpr q))
  obtain ⟨j, hj, e1⟩ := pk_andE x (m := 63) 6 (by decide)
  obtain ⟨q, hq, e2⟩ := nI_of2 (x := what) (M := 3) (n := 3) (by decide) (Int32.not_lt.mpr h1.1) h1.2
  rw [e1, e2, show (4 : Int32) = nI 4 from rfl, pk_mul, nI_add]
  exact vp_in_nI (by omega) (by decide)

set_option maxRecDepth 100000 in
set_option maxHeartbeats 4000000 in
theorem c_V_entry {l : Launch} (hst : l.stackTraces = false) {D : va_G} {A : Nat → Prop} {e0 : Nat → Nat} {K : Nat → Nat} {ca : Nat → ClassId} {RL LP : List Nat} {fv FR : Nat → RW} {day ever mo : Int32} {ea : Nat} {wr : Int32} {ch : Int64} {ring : Nat → Int32} {rest : va_W} {vs : List Nat} {eo : va_W} (hI : cI e0 ca vs LP ea eo) {k what : Int32} : tM l y_V_entry tb ({ frames := 7, cells := 2, slots := 12, locals := 110 }) D cls (ty0 ca) A (zz e0 A) [.ref (K 0), .int k, .int what] (wC K ca RL LP fv FR day ever mo (nI vs.length) ea wr ch ring (eo ++ rest)) (fun v w2 => (0 ≤ what ∧ what ≤ 3) ∧ (0 ≤ k ∧ k < 64 ∧ k < wr) ∧ v = some (.int (ring (((wr - 1 - k) &&& 63) * 4 + what).toNatClampNeg)) ∧ w2 = wC K ca RL LP fv FR day ever mo (nI vs.length) ea wr ch ring (eo ++ rest)) (fun E w2 => w2 = wC K ca RL LP fv FR day ever mo (nI vs.length) ea wr ch ring (eo ++ rest) ∧ ((E = "java/lang/IllegalArgumentException" ∧ ¬ (0 ≤ what ∧ what ≤ 3)) ∨ (E = "java/lang/IndexOutOfBoundsException" ∧ (0 ≤ what ∧ what ≤ 3) ∧ ¬ (0 ≤ k ∧ k < 64 ∧ k < wr)))) := by
  refine t_ofW (by decide) w_589 (Nat.le_of_ble_eq_true rfl) ?_
  intro p e s m below meth c ls hx hb hr hts hown hlk hnm hml hex hl hC
  have hown : s.vm.findClass "RetentionVault" = some m.cls := hown
  have hl : lv_has ls 3 [(0, .ref (K 0)), (1, .int k), (2, .int what)] := hl
  obtain ⟨hLR, hvL, hnd, h40⟩ := hI
  refine lv_iload_n hx hb d_V_entry_0 rfl (lv_at hl 2 rfl) ?_
  refine lv_iconst (v := 0) hx hb d_V_entry_1 (by decide) ?_
  refine lv_iconst (v := 3) hx hb d_V_entry_2 (by decide) ?_
  refine t_call (t_invS (As := [.int what, .int 0, .int 3]) (rest := []) hx hb hown (hts _ w_127) (hts _ w_128) (hts _ w_1) (hts _ w_129) ⟨by decide, by decide⟩ rfl d_V_entry_3) (c_V_isWithin zz_c) zz_c tb_good hts w_1 hC (hl.1.trans hml.symm) ⟨Nat.le_of_ble_eq_true rfl, Nat.le_of_ble_eq_true rfl, Nat.le_of_ble_eq_true rfl, Nat.le_of_ble_eq_true rfl⟩ (Nat.le_of_ble_eq_true rfl) (fun E q ce w1 H1 l1 hp => hp.elim) (fun v w1 H locs hp hC => ?_)
  obtain ⟨rfl, hwe9⟩ := hp
  rw [hwe9] at hC
  have hC : tC D cls (ty0 ca) A (zz e0 A) s (wC K ca RL LP fv FR day ever mo (nI vs.length) ea wr ch ring (eo ++ rest)) H locs := hC
  refine W.eq (g2 := F0 m 6 ls [.int (bI (0 ≤ what ∧ what ≤ 3))]) rfl ?_
  refine t_call (t_invS (As := [.int (bI (0 ≤ what ∧ what ≤ 3))]) (rest := []) hx hb hown (hts _ w_130) (hts _ w_131) (hts _ w_1) (hts _ w_132) ⟨by decide, by decide⟩ rfl d_V_entry_6) (c_V_demand hst) zz_c tb_good hts w_1 hC (hl.1.trans hml.symm) ⟨Nat.le_of_ble_eq_true rfl, Nat.le_of_ble_eq_true rfl, Nat.le_of_ble_eq_true rfl, Nat.le_of_ble_eq_true rfl⟩ (Nat.le_of_ble_eq_true rfl) (fun E q9 ce w1 H locs hp hC hce hcv hcl => ?_) (fun v w1 H locs hp hC => ?_)
  · skip
    obtain ⟨rfl, hwe9, hdem⟩ := hp
    rw [hwe9] at hC
    have hC : tC D cls (ty0 ca) A (zz e0 A) s (wC K ca RL LP fv FR day ever mo (nI vs.length) ea wr ch ring (eo ++ rest)) H locs := hC
    exact t_out (fun x h => (hex x h).elim) hlk zz_c hC hce hcv hcl (⟨rfl, Or.inl ⟨rfl, bI_ne.mp hdem⟩⟩) (Nat.le_of_ble_eq_true rfl) (Nat.le_of_ble_eq_true rfl)
  · skip
    obtain ⟨rfl, hwe9, hdem⟩ := hp
    rw [hwe9] at hC
    have hC : tC D cls (ty0 ca) A (zz e0 A) s (wC K ca RL LP fv FR day ever mo (nI vs.length) ea wr ch ring (eo ++ rest)) H locs := hC
    refine W.eq (g2 := F0 m 9 ls []) rfl ?_
    refine lv_aload_n hx hb d_V_entry_9 rfl (lv_at hl 0 rfl) ?_
    refine t_get (v := .ref (K 3)) hx hb hts inV hown hC 0 rfl rfl 2 (by decide) (hts _ w_99) (fun _ h => h) rfl d_V_entry_10 ?_
    refine lv_iload_n hx hb d_V_entry_13 rfl (lv_at hl 1 rfl) ?_
    refine t_call (t_invV (As := [.int k]) (rest := []) hx hb hown (hts _ w_590) (hts _ w_591) (hts _ w_592) (hts _ w_593) ⟨by decide, by decide⟩ (t_recv (q0 := 3) hC rfl rfl) rfl d_V_entry_14) c_G_keeps zz_c tb_good hts w_6 hC (hl.1.trans hml.symm) ⟨Nat.le_of_ble_eq_true rfl, Nat.le_of_ble_eq_true rfl, Nat.le_of_ble_eq_true rfl, Nat.le_of_ble_eq_true rfl⟩ (Nat.le_of_ble_eq_true rfl) (fun E q ce w1 H1 l1 hp => hp.elim) (fun v w1 H locs hp hC => ?_)
    obtain ⟨rfl, hwe9⟩ := hp
    rw [hwe9] at hC
    have hC : tC D cls (ty0 ca) A (zz e0 A) s (wC K ca RL LP fv FR day ever mo (nI vs.length) ea wr ch ring (eo ++ rest)) H locs := hC
    refine W.eq (g2 := F0 m 17 ls [.int (bI (0 ≤ k ∧ k < 64 ∧ k < wr))]) rfl ?_
    refine lv_if_ne (tgt := 30) hx hb d_V_entry_17 (by decide) (fun c17 => ?_) (fun c17 => ?_)
    · skip
      refine lv_aload_n hx hb d_V_entry_30 rfl (lv_at hl 0 rfl) ?_
      refine t_get (v := .ref (K 3)) hx hb hts inV hown hC 0 rfl rfl 2 (by decide) (hts _ w_99) (fun _ h => h) rfl d_V_entry_31 ?_
      refine lv_iload_n hx hb d_V_entry_34 rfl (lv_at hl 1 rfl) ?_
      refine lv_iload_n hx hb d_V_entry_35 rfl (lv_at hl 2 rfl) ?_
      refine t_call (t_invV (As := [.int k, .int what]) (rest := []) hx hb hown (hts _ w_610) (hts _ w_611) (hts _ w_612) (hts _ w_613) ⟨by decide, by decide⟩ (t_recv (q0 := 3) hC rfl rfl) rfl d_V_entry_36) (c_G_numberOf (en_in hdem)) zz_c tb_good hts w_6 hC (hl.1.trans hml.symm) ⟨Nat.le_of_ble_eq_true rfl, Nat.le_of_ble_eq_true rfl, Nat.le_of_ble_eq_true rfl, Nat.le_of_ble_eq_true rfl⟩ (Nat.le_of_ble_eq_true rfl) (fun E q ce w1 H1 l1 hp => hp.elim) (fun v w1 H locs hp hC => ?_)
      obtain ⟨rfl, hwe9⟩ := hp
      rw [hwe9] at hC
      have hC : tC D cls (ty0 ca) A (zz e0 A) s (wC K ca RL LP fv FR day ever mo (nI vs.length) ea wr ch ring (eo ++ rest)) H locs := hC
      refine W.eq (g2 := F0 m 39 ls [.int (ring (((wr - 1 - k) &&& 63) * 4 + what).toNatClampNeg)]) rfl ?_
      exact t_iret hx hb hr hlk zz_c hC (⟨Classical.not_not.mp (fun q => hdem (bI_ne.mpr q)), Classical.not_not.mp (fun q => c17 (bI_ne.mpr q)), rfl, rfl⟩) (Nat.le_of_ble_eq_true rfl) (Nat.le_of_ble_eq_true rfl) d_V_entry_39
    · skip
      exact t_throw (by9 := prog_12_method_2_code) (ix := 7) (Y9 := "java/lang/RuntimeException") (r9 := ["java/lang/Exception"]) (text := "there is no such entry, or none any more") hx hb hst (by decide +kernel) (by decide +kernel) (by decide +kernel) (by decide +kernel) hown tb_good hts (by decide) (by decide) (by decide) w_594 w_21 (zz_str hC.2.2.2.2.2 (by decide +kernel)) at_IOB zz_c zz_X4 hC (hl.1.trans hml.symm) hex hlk d_V_entry_20 d_V_entry_23 d_V_entry_24 d_V_entry_26 d_V_entry_29 ⟨Nat.le_of_ble_eq_true rfl, Nat.le_of_ble_eq_true rfl, Nat.le_of_ble_eq_true rfl, Nat.le_of_ble_eq_true rfl⟩ (Nat.le_of_ble_eq_true rfl) (Nat.le_of_ble_eq_true rfl) (⟨rfl, Or.inr ⟨rfl, Classical.not_not.mp (fun q => hdem (bI_ne.mpr q)), bI_ne.mp c17⟩⟩)

set_option maxRecDepth 100000 in
set_option maxHeartbeats 4000000 in
theorem c_V_link {l : Launch} {D : va_G} {A : Nat → Prop} {e0 : Nat → Nat} {K : Nat → Nat} {ca : Nat → ClassId} {RL LP : List Nat} {fv FR : Nat → RW} {day ever mo : Int32} {ea : Nat} {wr : Int32} {ch : Int64} {ring : Nat → Int32} {rest : va_W} {vs : List Nat} {eo : va_W} (hI : cI e0 ca vs LP ea eo) : tM l y_V_link tb ({ frames := 0, cells := 0, slots := 0, locals := 0 }) D cls (ty0 ca) A (zz e0 A) [.ref (K 0)] (wC K ca RL LP fv FR day ever mo (nI vs.length) ea wr ch ring (eo ++ rest)) (fun v w2 => v = some (.long ch) ∧ w2 = wC K ca RL LP fv FR day ever mo (nI vs.length) ea wr ch ring (eo ++ rest)) (xN) := by
  refine t_ofW (by decide) w_116 (Nat.le_of_ble_eq_true rfl) ?_
  intro p e s m below meth c ls hx hb hr hts hown hlk hnm hml hex hl hC
  have hown : s.vm.findClass "RetentionVault" = some m.cls := hown
  have hl : lv_has ls 1 [(0, .ref (K 0))] := hl
  obtain ⟨hLR, hvL, hnd, h40⟩ := hI
  refine lv_aload_n hx hb d_V_link_0 rfl (lv_at hl 0 rfl) ?_
  refine t_get (v := .ref (K 3)) hx hb hts inV hown hC 0 rfl rfl 2 (by decide) (hts _ w_99) (fun _ h => h) rfl d_V_link_1 ?_
  refine t_get (v := .long ch) hx hb hts inG hown hC 3 rfl rfl 2 (by decide) (hts _ w_88) (fun _ h => h) rfl d_V_link_4 ?_
  exact t_lret hx hb hr hlk zz_c hC (⟨rfl, rfl⟩) (Nat.le_of_ble_eq_true rfl) (Nat.le_of_ble_eq_true rfl) d_V_link_7
end
section
/-! The vault: sums, alone, figure; retain, hold, rule, unrule, fetch, cool. Laid by program (wip/whole/p15.py) -/
def rw_sum (rows : List RW) : Nat → Int32
  | 0 => 0
  | i + 1 => rw_sum rows i + rw_at rows i 3
def rw_cnt (rows : List RW) (day : Int32) : Nat → Int32
  | 0 => 0
  | i + 1 => if rw_at rows i 10 ≠ 0 ∨ day < rw_at rows i 8 then rw_cnt rows day i + 1 else rw_cnt rows day i
def rw_alone (rows : List RW) (i : Nat) : Prop := ∀ j, j < rows.length → j ≠ i → rw_at rows j 1 ≠ rw_at rows i 1
theorem sum_next {vs : List Nat} {fv : Nat → RW} {i a : Nat} (hi : vs[i]? = some a) : rw_sum (vs.map fv) (i + 1) = rw_sum (vs.map fv) i + fv a 3 := by
  show rw_sum (vs.map fv) i + rw_at (vs.map fv) i 3 = _
  rw [rw_at_map hi]
theorem cnt_t {vs : List Nat} {fv : Nat → RW} {day : Int32} {i a : Nat} (hi : vs[i]? = some a) (h : ¬ bI (fv a 10 ≠ 0 ∨ day < fv a 8) = 0) : rw_cnt (vs.map fv) day (i + 1) = rw_cnt (vs.map fv) day i + 1 := by
  show (if rw_at (vs.map fv) i 10 ≠ 0 ∨ day < rw_at (vs.map fv) i 8 then _ else _) = _
  rw [rw_at_map hi, if_pos (Classical.not_not.mp (fun q => h (bI_ne.mpr q)))]
theorem cnt_f {vs : List Nat} {fv : Nat → RW} {day : Int32} {i a : Nat} (hi : vs[i]? = some a) (h : bI (fv a 10 ≠ 0 ∨ day < fv a 8) = 0) : rw_cnt (vs.map fv) day (i + 1) = rw_cnt (vs.map fv) day i := by
  show (if rw_at (vs.map fv) i 10 ≠ 0 ∨ day < rw_at (vs.map fv) i 8 then _ else _) = _
  rw [rw_at_map hi, if_neg (bI_ne.mp h)]

set_option maxRecDepth 100000 in
set_option maxHeartbeats 4000000 in
theorem c_V_sumOfSizes {l : Launch} {D : va_G} {A : Nat → Prop} {e0 : Nat → Nat} {K : Nat → Nat} {ca : Nat → ClassId} {RL LP : List Nat} {fv FR : Nat → RW} {day ever mo : Int32} {ea : Nat} {wr : Int32} {ch : Int64} {ring : Nat → Int32} {rest : va_W} {vs : List Nat} {eo : va_W} (hI : cI e0 ca vs LP ea eo) : tM l y_V_sumOfSizes tb ({ frames := 3, cells := 0, slots := 0, locals := 64 }) D cls (ty0 ca) A (zz e0 A) [.ref (K 0)] (wC K ca RL LP fv FR day ever mo (nI vs.length) ea wr ch ring (eo ++ rest)) (fun v w2 => v = some (.int (rw_sum (vs.map fv) vs.length)) ∧ w2 = wC K ca RL LP fv FR day ever mo (nI vs.length) ea wr ch ring (eo ++ rest)) (xN) := by
  refine t_ofW (by decide) w_624 (Nat.le_of_ble_eq_true rfl) ?_
  intro p e s m below meth c ls hx hb hr hts hown hlk hnm hml hex hl hC
  have hown : s.vm.findClass "RetentionVault" = some m.cls := hown
  have hl : lv_has ls 3 [(0, .ref (K 0))] := hl
  obtain ⟨hLR, hvL, hnd, h40⟩ := hI
  refine lv_iconst (v := 0) hx hb d_V_sumOfSizes_0 (by decide) ?_
  refine lv_istore_n (lv' := [(1, .int 0), (0, .ref (K 0))]) hx hb d_V_sumOfSizes_1 rfl hl (by decide) rfl (fun ls hl => ?_)
  refine lv_iconst (v := 0) hx hb d_V_sumOfSizes_2 (by decide) ?_
  refine lv_istore_n (lv' := [(2, .int 0), (1, .int 0), (0, .ref (K 0))]) hx hb d_V_sumOfSizes_3 rfl hl (by decide) rfl (fun ls hl => ?_)
  have loop : ∀ (k i : Nat) (ls : Array Slot) (H : Heap) (locs : List Loc), vs.length - i = k → i ≤ vs.length → lv_has ls 3 [(2, .int (nI i)), (1, .int (rw_sum (vs.map fv) i)), (0, .ref (K 0))] → tC D cls (ty0 ca) A (zz e0 A) s (wC K ca RL LP fv FR day ever mo (nI vs.length) ea wr ch ring (eo ++ rest)) H locs → tB p l e ({ frames := 3, cells := 0, slots := 0, locals := 64 }) s m [.ref (K 0)] below meth c D (ty0 ca) A (zz e0 A) (fun v w2 => v = some (.int (rw_sum (vs.map fv) vs.length)) ∧ w2 = wC K ca RL LP fv FR day ever mo (nI vs.length) ea wr ch ring (eo ++ rest)) (xN) H locs 0 0 (F0 m 4 ls []) := by
    intro k
    induction k using Nat.strongRecOn with
    | ind k ih =>
      intro i ls H locs hk hle hl hC
      refine lv_iload_n hx hb d_V_sumOfSizes_4 rfl (lv_at hl 0 rfl) ?_
      refine lv_aload_n hx hb d_V_sumOfSizes_5 rfl (lv_at hl 2 rfl) ?_
      refine t_get (v := .ref (K 1)) hx hb hts inV hown hC 0 rfl rfl 0 (by decide) (hts _ w_97) (fun _ h => h) rfl d_V_sumOfSizes_6 ?_
      refine t_call (t_invV (As := []) (rest := [.int (nI i)]) hx hb hown (hts _ w_210) (hts _ w_211) (hts _ w_212) (hts _ w_213) ⟨by decide, by decide⟩ (t_recv (q0 := 1) hC rfl rfl) rfl d_V_sumOfSizes_9) c_A_size zz_c tb_good hts w_4 hC (hl.1.trans hml.symm) ⟨Nat.le_of_ble_eq_true rfl, Nat.le_of_ble_eq_true rfl, Nat.le_of_ble_eq_true rfl, Nat.le_of_ble_eq_true rfl⟩ (Nat.le_of_ble_eq_true rfl) (fun E q ce w1 H1 l1 hp => hp.elim) (fun v w1 H locs hp hC => ?_)
      obtain ⟨rfl, hwe9⟩ := hp
      rw [hwe9] at hC
      have hC : tC D cls (ty0 ca) A (zz e0 A) s (wC K ca RL LP fv FR day ever mo (nI vs.length) ea wr ch ring (eo ++ rest)) H locs := hC
      refine W.eq (g2 := F0 m 12 ls [.int (nI vs.length), .int (nI i)]) rfl ?_
      refine lv_icmp_ge (tgt := 38) hx hb d_V_sumOfSizes_12 (by decide) (fun c12 => ?_) (fun c12 => ?_)
      · skip
        have hil : i = vs.length := Nat.le_antisymm hle ((nI_leI (by omega) (by omega)).mp c12)
        refine lv_iload_n hx hb d_V_sumOfSizes_38 rfl (lv_at hl 1 rfl) ?_
        exact t_iret hx hb hr hlk zz_c hC (⟨by rw [hil], rfl⟩) (Nat.le_of_ble_eq_true rfl) (Nat.le_of_ble_eq_true rfl) d_V_sumOfSizes_39
      · skip
        have hil : i < vs.length := Nat.not_le.mp (fun h => c12 ((nI_leI (by omega) (by omega)).mpr h))
        obtain ⟨a, hi⟩ : ∃ a, vs[i]? = some a := ⟨vs[i], List.getElem?_eq_getElem hil⟩
        have ha : a ∈ LP := hvL a (List.mem_of_getElem? hi)
        refine lv_iload_n hx hb d_V_sumOfSizes_15 rfl (lv_at hl 1 rfl) ?_
        refine lv_aload_n hx hb d_V_sumOfSizes_16 rfl (lv_at hl 2 rfl) ?_
        refine t_get (v := .ref (K 1)) hx hb hts inV hown hC 0 rfl rfl 0 (by decide) (hts _ w_97) (fun _ h => h) rfl d_V_sumOfSizes_17 ?_
        refine lv_iload_n hx hb d_V_sumOfSizes_20 rfl (lv_at hl 0 rfl) ?_
        refine t_call (t_invV (As := [.int (nI i)]) (rest := [.int (rw_sum (vs.map fv) i)]) hx hb hown (hts _ w_301) (hts _ w_302) (hts _ w_303) (hts _ w_304) ⟨by decide, by decide⟩ (t_recv (q0 := 1) hC rfl rfl) rfl d_V_sumOfSizes_21) (c_A_get hLR hi) zz_c tb_good hts w_4 hC (hl.1.trans hml.symm) ⟨Nat.le_of_ble_eq_true rfl, Nat.le_of_ble_eq_true rfl, Nat.le_of_ble_eq_true rfl, Nat.le_of_ble_eq_true rfl⟩ (Nat.le_of_ble_eq_true rfl) (fun E q ce w1 H1 l1 hp => hp.elim) (fun v w1 H locs hp hC => ?_)
        obtain ⟨rfl, hwe9⟩ := hp
        rw [hwe9] at hC
        have hC : tC D cls (ty0 ca) A (zz e0 A) s (wC K ca RL LP fv FR day ever mo (nI vs.length) ea wr ch ring (eo ++ rest)) H locs := hC
        refine W.eq (g2 := F0 m 24 ls [.ref a, .int (rw_sum (vs.map fv) i)]) rfl ?_
        refine va_castY (C := "RetentionVault$Version") hx hb hown (hts _ w_230) (hC.2.2.2.2.2.2.2.2.2.1 ("RetentionVault$Version", "RetentionVault$Version") (by decide +kernel)) (t_recvP hC ha rfl rfl) d_V_sumOfSizes_24 ?_
        refine t_getP hx hb hts inN hown hC ha rfl 3 (by decide) (hts _ w_242) (fun _ h => h) d_V_sumOfSizes_27 ?_
        refine lv_iadd hx hb d_V_sumOfSizes_30 ?_
        rw [← sum_next (fv := fv) hi]
        refine lv_istore_n (lv' := [(1, .int (rw_sum (vs.map fv) (i + 1))), (2, .int (nI i)), (0, .ref (K 0))]) hx hb d_V_sumOfSizes_31 rfl hl (by decide) rfl (fun ls hl => ?_)
        refine lv_iinc (k := 1) (v := nI (i + 1)) (lv' := [(2, .int (nI (i + 1))), (1, .int (rw_sum (vs.map fv) (i + 1))), (0, .ref (K 0))]) hx hb d_V_sumOfSizes_32 hl rfl (nI_1 i) (by decide) rfl (fun ls hl => ?_)
        refine lv_goto (tgt := 4) hx hb d_V_sumOfSizes_35 (by decide) ?_
        exact ih (vs.length - (i + 1)) (by omega) (i + 1) ls H locs rfl (by omega) (lv_sub hl [0, 1, 2] rfl) hC
  exact loop _ 0 ls _ _ rfl (by omega) hl hC

set_option maxRecDepth 100000 in
set_option maxHeartbeats 4000000 in
theorem c_V_countOfGuarded {l : Launch} {D : va_G} {A : Nat → Prop} {e0 : Nat → Nat} {K : Nat → Nat} {ca : Nat → ClassId} {RL LP : List Nat} {fv FR : Nat → RW} {day ever mo : Int32} {ea : Nat} {wr : Int32} {ch : Int64} {ring : Nat → Int32} {rest : va_W} {vs : List Nat} {eo : va_W} (hI : cI e0 ca vs LP ea eo) : tM l y_V_countOfGuarded tb ({ frames := 3, cells := 0, slots := 0, locals := 64 }) D cls (ty0 ca) A (zz e0 A) [.ref (K 0)] (wC K ca RL LP fv FR day ever mo (nI vs.length) ea wr ch ring (eo ++ rest)) (fun v w2 => v = some (.int (rw_cnt (vs.map fv) day vs.length)) ∧ w2 = wC K ca RL LP fv FR day ever mo (nI vs.length) ea wr ch ring (eo ++ rest)) (xN) := by
  refine t_ofW (by decide) w_628 (Nat.le_of_ble_eq_true rfl) ?_
  intro p e s m below meth c ls hx hb hr hts hown hlk hnm hml hex hl hC
  have hown : s.vm.findClass "RetentionVault" = some m.cls := hown
  have hl : lv_has ls 3 [(0, .ref (K 0))] := hl
  obtain ⟨hLR, hvL, hnd, h40⟩ := hI
  refine lv_iconst (v := 0) hx hb d_V_countOfGuarded_0 (by decide) ?_
  refine lv_istore_n (lv' := [(1, .int 0), (0, .ref (K 0))]) hx hb d_V_countOfGuarded_1 rfl hl (by decide) rfl (fun ls hl => ?_)
  refine lv_iconst (v := 0) hx hb d_V_countOfGuarded_2 (by decide) ?_
  refine lv_istore_n (lv' := [(2, .int 0), (1, .int 0), (0, .ref (K 0))]) hx hb d_V_countOfGuarded_3 rfl hl (by decide) rfl (fun ls hl => ?_)
  have loop : ∀ (k i : Nat) (ls : Array Slot) (H : Heap) (locs : List Loc), vs.length - i = k → i ≤ vs.length → lv_has ls 3 [(2, .int (nI i)), (1, .int (rw_cnt (vs.map fv) day i)), (0, .ref (K 0))] → tC D cls (ty0 ca) A (zz e0 A) s (wC K ca RL LP fv FR day ever mo (nI vs.length) ea wr ch ring (eo ++ rest)) H locs → tB p l e ({ frames := 3, cells := 0, slots := 0, locals := 64 }) s m [.ref (K 0)] below meth c D (ty0 ca) A (zz e0 A) (fun v w2 => v = some (.int (rw_cnt (vs.map fv) day vs.length)) ∧ w2 = wC K ca RL LP fv FR day ever mo (nI vs.length) ea wr ch ring (eo ++ rest)) (xN) H locs 0 0 (F0 m 4 ls []) := by
    intro k
    induction k using Nat.strongRecOn with
    | ind k ih =>
      intro i ls H locs hk hle hl hC
      refine lv_iload_n hx hb d_V_countOfGuarded_4 rfl (lv_at hl 0 rfl) ?_
      refine lv_aload_n hx hb d_V_countOfGuarded_5 rfl (lv_at hl 2 rfl) ?_
      refine t_get (v := .ref (K 1)) hx hb hts inV hown hC 0 rfl rfl 0 (by decide) (hts _ w_97) (fun _ h => h) rfl d_V_countOfGuarded_6 ?_
      refine t_call (t_invV (As := []) (rest := [.int (nI i)]) hx hb hown (hts _ w_210) (hts _ w_211) (hts _ w_212) (hts _ w_213) ⟨by decide, by decide⟩ (t_recv (q0 := 1) hC rfl rfl) rfl d_V_countOfGuarded_9) c_A_size zz_c tb_good hts w_4 hC (hl.1.trans hml.symm) ⟨Nat.le_of_ble_eq_true rfl, Nat.le_of_ble_eq_true rfl, Nat.le_of_ble_eq_true rfl, Nat.le_of_ble_eq_true rfl⟩ (Nat.le_of_ble_eq_true rfl) (fun E q ce w1 H1 l1 hp => hp.elim) (fun v w1 H locs hp hC => ?_)
      obtain ⟨rfl, hwe9⟩ := hp
      rw [hwe9] at hC
      have hC : tC D cls (ty0 ca) A (zz e0 A) s (wC K ca RL LP fv FR day ever mo (nI vs.length) ea wr ch ring (eo ++ rest)) H locs := hC
      refine W.eq (g2 := F0 m 12 ls [.int (nI vs.length), .int (nI i)]) rfl ?_
      refine lv_icmp_ge (tgt := 45) hx hb d_V_countOfGuarded_12 (by decide) (fun c12 => ?_) (fun c12 => ?_)
      · skip
        have hil : i = vs.length := Nat.le_antisymm hle ((nI_leI (by omega) (by omega)).mp c12)
        refine lv_iload_n hx hb d_V_countOfGuarded_45 rfl (lv_at hl 1 rfl) ?_
        exact t_iret hx hb hr hlk zz_c hC (⟨by rw [hil], rfl⟩) (Nat.le_of_ble_eq_true rfl) (Nat.le_of_ble_eq_true rfl) d_V_countOfGuarded_46
      · skip
        have hil : i < vs.length := Nat.not_le.mp (fun h => c12 ((nI_leI (by omega) (by omega)).mpr h))
        obtain ⟨a, hi⟩ : ∃ a, vs[i]? = some a := ⟨vs[i], List.getElem?_eq_getElem hil⟩
        have ha : a ∈ LP := hvL a (List.mem_of_getElem? hi)
        refine lv_aload_n hx hb d_V_countOfGuarded_15 rfl (lv_at hl 2 rfl) ?_
        refine t_get (v := .ref (K 1)) hx hb hts inV hown hC 0 rfl rfl 0 (by decide) (hts _ w_97) (fun _ h => h) rfl d_V_countOfGuarded_16 ?_
        refine lv_iload_n hx hb d_V_countOfGuarded_19 rfl (lv_at hl 0 rfl) ?_
        refine t_call (t_invV (As := [.int (nI i)]) (rest := []) hx hb hown (hts _ w_301) (hts _ w_302) (hts _ w_303) (hts _ w_304) ⟨by decide, by decide⟩ (t_recv (q0 := 1) hC rfl rfl) rfl d_V_countOfGuarded_20) (c_A_get hLR hi) zz_c tb_good hts w_4 hC (hl.1.trans hml.symm) ⟨Nat.le_of_ble_eq_true rfl, Nat.le_of_ble_eq_true rfl, Nat.le_of_ble_eq_true rfl, Nat.le_of_ble_eq_true rfl⟩ (Nat.le_of_ble_eq_true rfl) (fun E q ce w1 H1 l1 hp => hp.elim) (fun v w1 H locs hp hC => ?_)
        obtain ⟨rfl, hwe9⟩ := hp
        rw [hwe9] at hC
        have hC : tC D cls (ty0 ca) A (zz e0 A) s (wC K ca RL LP fv FR day ever mo (nI vs.length) ea wr ch ring (eo ++ rest)) H locs := hC
        refine W.eq (g2 := F0 m 23 ls [.ref a]) rfl ?_
        refine va_castY (C := "RetentionVault$Version") hx hb hown (hts _ w_230) (hC.2.2.2.2.2.2.2.2.2.1 ("RetentionVault$Version", "RetentionVault$Version") (by decide +kernel)) (t_recvP hC ha rfl rfl) d_V_countOfGuarded_23 ?_
        refine lv_aload_n hx hb d_V_countOfGuarded_26 rfl (lv_at hl 2 rfl) ?_
        refine t_get (v := .int day) hx hb hts inV hown hC 0 rfl rfl 3 (by decide) (hts _ w_100) (fun _ h => h) rfl d_V_countOfGuarded_27 ?_
        refine t_call (t_invV (As := [.int day]) (rest := []) hx hb hown (hts _ w_553) (hts _ w_554) (hts _ w_555) (hts _ w_556) ⟨by decide, by decide⟩ (t_recvP hC ha rfl rfl) rfl d_V_countOfGuarded_30) (c_N_isGuarded zz_c ha) zz_c tb_good hts w_13 hC (hl.1.trans hml.symm) ⟨Nat.le_of_ble_eq_true rfl, Nat.le_of_ble_eq_true rfl, Nat.le_of_ble_eq_true rfl, Nat.le_of_ble_eq_true rfl⟩ (Nat.le_of_ble_eq_true rfl) (fun E q ce w1 H1 l1 hp => hp.elim) (fun v w1 H locs hp hC => ?_)
        obtain ⟨rfl, hwe9⟩ := hp
        rw [hwe9] at hC
        have hC : tC D cls (ty0 ca) A (zz e0 A) s (wC K ca RL LP fv FR day ever mo (nI vs.length) ea wr ch ring (eo ++ rest)) H locs := hC
        refine W.eq (g2 := F0 m 33 ls [.int (bI (fv a 10 ≠ 0 ∨ day < fv a 8))]) rfl ?_
        refine lv_if_eq (tgt := 39) hx hb d_V_countOfGuarded_33 (by decide) (fun c33 => ?_) (fun c33 => ?_)
        · skip
          rw [← cnt_f (fv := fv) hi c33] at hl
          refine lv_iinc (k := 0) (v := nI (i + 1)) (lv' := [(2, .int (nI (i + 1))), (1, .int (rw_cnt (vs.map fv) day (i + 1))), (0, .ref (K 0))]) hx hb d_V_countOfGuarded_39 hl rfl (nI_1 i) (by decide) rfl (fun ls hl => ?_)
          refine lv_goto (tgt := 4) hx hb d_V_countOfGuarded_42 (by decide) ?_
          exact ih (vs.length - (i + 1)) (by omega) (i + 1) ls H locs rfl (by omega) (lv_sub hl [0, 1, 2] rfl) hC
        · skip
          refine lv_iinc (k := 1) (v := rw_cnt (vs.map fv) day (i + 1)) (lv' := [(1, .int (rw_cnt (vs.map fv) day (i + 1))), (2, .int (nI i)), (0, .ref (K 0))]) hx hb d_V_countOfGuarded_36 hl rfl (cnt_t hi c33).symm (by decide) rfl (fun ls hl => ?_)
          refine lv_iinc (k := 1) (v := nI (i + 1)) (lv' := [(2, .int (nI (i + 1))), (1, .int (rw_cnt (vs.map fv) day (i + 1))), (0, .ref (K 0))]) hx hb d_V_countOfGuarded_39 hl rfl (nI_1 i) (by decide) rfl (fun ls hl => ?_)
          refine lv_goto (tgt := 4) hx hb d_V_countOfGuarded_42 (by decide) ?_
          exact ih (vs.length - (i + 1)) (by omega) (i + 1) ls H locs rfl (by omega) (lv_sub hl [0, 1, 2] rfl) hC
  exact loop _ 0 ls _ _ rfl (by omega) hl hC

def rw_fig (rows : List RW) (day ever wr : Int32) (k : Int32) : Int32 := if k = 0 then day else if k = 1 then nI rows.length else if k = 2 then ever else if k = 3 then wr else if k = 4 then rw_sum rows rows.length else rw_cnt rows day rows.length

set_option maxRecDepth 100000 in
set_option maxHeartbeats 4000000 in
theorem c_V_figure {l : Launch} (hst : l.stackTraces = false) {D : va_G} {A : Nat → Prop} {e0 : Nat → Nat} {K : Nat → Nat} {ca : Nat → ClassId} {RL LP : List Nat} {fv FR : Nat → RW} {day ever mo : Int32} {ea : Nat} {wr : Int32} {ch : Int64} {ring : Nat → Int32} {rest : va_W} {vs : List Nat} {eo : va_W} (hI : cI e0 ca vs LP ea eo) {k : Int32} : tM l y_V_figure tb ({ frames := 6, cells := 1, slots := 6, locals := 90 }) D cls (ty0 ca) A (zz e0 A) [.ref (K 0), .int k] (wC K ca RL LP fv FR day ever mo (nI vs.length) ea wr ch ring (eo ++ rest)) (fun v w2 => ¬ (k.toInt < 0 ∨ 5 < k.toInt) ∧ v = some (.int (rw_fig (vs.map fv) day ever wr k)) ∧ w2 = wC K ca RL LP fv FR day ever mo (nI vs.length) ea wr ch ring (eo ++ rest)) (fun E w2 => E = "java/lang/IllegalArgumentException" ∧ w2 = wC K ca RL LP fv FR day ever mo (nI vs.length) ea wr ch ring (eo ++ rest) ∧ (k.toInt < 0 ∨ 5 < k.toInt)) := by
  refine t_ofW (by decide) w_620 (Nat.le_of_ble_eq_true rfl) ?_
  intro p e s m below meth c ls hx hb hr hts hown hlk hnm hml hex hl hC
  have hown : s.vm.findClass "RetentionVault" = some m.cls := hown
  have hl : lv_has ls 2 [(0, .ref (K 0)), (1, .int k)] := hl
  obtain ⟨hLR, hvL, hnd, h40⟩ := hI
  refine lv_iload_n hx hb d_V_figure_0 rfl (lv_at hl 1 rfl) ?_
  rcases sw0_5 k with rfl | rfl | rfl | rfl | rfl | rfl | hsw
  · refine lv_tableIn (off := 39) (tgt := 40) hx hb d_V_figure_1 (by decide) (by decide) (by decide) (by decide) ?_
    refine lv_aload_n hx hb d_V_figure_40 rfl (lv_at hl 0 rfl) ?_
    refine t_get (v := .int day) hx hb hts inV hown hC 0 rfl rfl 3 (by decide) (hts _ w_100) (fun _ h => h) rfl d_V_figure_41 ?_
    exact t_iret hx hb hr hlk zz_c hC (⟨by decide, by simp [rw_fig], rfl⟩) (Nat.le_of_ble_eq_true rfl) (Nat.le_of_ble_eq_true rfl) d_V_figure_44
  · refine lv_tableIn (off := 44) (tgt := 45) hx hb d_V_figure_1 (by decide) (by decide) (by decide) (by decide) ?_
    refine lv_aload_n hx hb d_V_figure_45 rfl (lv_at hl 0 rfl) ?_
    refine t_get (v := .ref (K 1)) hx hb hts inV hown hC 0 rfl rfl 0 (by decide) (hts _ w_97) (fun _ h => h) rfl d_V_figure_46 ?_
    refine t_call (t_invV (As := []) (rest := []) hx hb hown (hts _ w_210) (hts _ w_211) (hts _ w_212) (hts _ w_213) ⟨by decide, by decide⟩ (t_recv (q0 := 1) hC rfl rfl) rfl d_V_figure_49) c_A_size zz_c tb_good hts w_4 hC (hl.1.trans hml.symm) ⟨Nat.le_of_ble_eq_true rfl, Nat.le_of_ble_eq_true rfl, Nat.le_of_ble_eq_true rfl, Nat.le_of_ble_eq_true rfl⟩ (Nat.le_of_ble_eq_true rfl) (fun E q ce w1 H1 l1 hp => hp.elim) (fun v w1 H locs hp hC => ?_)
    obtain ⟨rfl, hwe9⟩ := hp
    rw [hwe9] at hC
    have hC : tC D cls (ty0 ca) A (zz e0 A) s (wC K ca RL LP fv FR day ever mo (nI vs.length) ea wr ch ring (eo ++ rest)) H locs := hC
    refine W.eq (g2 := F0 m 52 ls [.int (nI vs.length)]) rfl ?_
    exact t_iret hx hb hr hlk zz_c hC (⟨by decide, by simp [rw_fig], rfl⟩) (Nat.le_of_ble_eq_true rfl) (Nat.le_of_ble_eq_true rfl) d_V_figure_52
  · refine lv_tableIn (off := 52) (tgt := 53) hx hb d_V_figure_1 (by decide) (by decide) (by decide) (by decide) ?_
    refine lv_aload_n hx hb d_V_figure_53 rfl (lv_at hl 0 rfl) ?_
    refine t_get (v := .int ever) hx hb hts inV hown hC 0 rfl rfl 4 (by decide) (hts _ w_101) (fun _ h => h) rfl d_V_figure_54 ?_
    exact t_iret hx hb hr hlk zz_c hC (⟨by decide, by simp [rw_fig], rfl⟩) (Nat.le_of_ble_eq_true rfl) (Nat.le_of_ble_eq_true rfl) d_V_figure_57
  · refine lv_tableIn (off := 57) (tgt := 58) hx hb d_V_figure_1 (by decide) (by decide) (by decide) (by decide) ?_
    refine lv_aload_n hx hb d_V_figure_58 rfl (lv_at hl 0 rfl) ?_
    refine t_get (v := .ref (K 3)) hx hb hts inV hown hC 0 rfl rfl 2 (by decide) (hts _ w_99) (fun _ h => h) rfl d_V_figure_59 ?_
    refine t_get (v := .int wr) hx hb hts inG hown hC 3 rfl rfl 1 (by decide) (hts _ w_86) (fun _ h => h) rfl d_V_figure_62 ?_
    exact t_iret hx hb hr hlk zz_c hC (⟨by decide, by simp [rw_fig], rfl⟩) (Nat.le_of_ble_eq_true rfl) (Nat.le_of_ble_eq_true rfl) d_V_figure_65
  · refine lv_tableIn (off := 65) (tgt := 66) hx hb d_V_figure_1 (by decide) (by decide) (by decide) (by decide) ?_
    refine lv_aload_n hx hb d_V_figure_66 rfl (lv_at hl 0 rfl) ?_
    refine t_call (t_invV (As := []) (rest := []) hx hb hown (hts _ w_621) (hts _ w_623) (hts _ s_V_sumOfSizes) (hts _ w_624) ⟨by decide, by decide⟩ (t_recv (q0 := 0) hC rfl rfl) rfl d_V_figure_67) (c_V_sumOfSizes ⟨hLR, hvL, hnd, h40⟩) zz_c tb_good hts w_1 hC (hl.1.trans hml.symm) ⟨Nat.le_of_ble_eq_true rfl, Nat.le_of_ble_eq_true rfl, Nat.le_of_ble_eq_true rfl, Nat.le_of_ble_eq_true rfl⟩ (Nat.le_of_ble_eq_true rfl) (fun E q ce w1 H1 l1 hp => hp.elim) (fun v w1 H locs hp hC => ?_)
    obtain ⟨rfl, hwe9⟩ := hp
    rw [hwe9] at hC
    have hC : tC D cls (ty0 ca) A (zz e0 A) s (wC K ca RL LP fv FR day ever mo (nI vs.length) ea wr ch ring (eo ++ rest)) H locs := hC
    refine W.eq (g2 := F0 m 70 ls [.int (rw_sum (vs.map fv) vs.length)]) rfl ?_
    exact t_iret hx hb hr hlk zz_c hC (⟨by decide, by simp [rw_fig], rfl⟩) (Nat.le_of_ble_eq_true rfl) (Nat.le_of_ble_eq_true rfl) d_V_figure_70
  · refine lv_tableIn (off := 70) (tgt := 71) hx hb d_V_figure_1 (by decide) (by decide) (by decide) (by decide) ?_
    refine lv_aload_n hx hb d_V_figure_71 rfl (lv_at hl 0 rfl) ?_
    refine t_call (t_invV (As := []) (rest := []) hx hb hown (hts _ w_625) (hts _ w_627) (hts _ s_V_countOfGuarded) (hts _ w_628) ⟨by decide, by decide⟩ (t_recv (q0 := 0) hC rfl rfl) rfl d_V_figure_72) (c_V_countOfGuarded ⟨hLR, hvL, hnd, h40⟩) zz_c tb_good hts w_1 hC (hl.1.trans hml.symm) ⟨Nat.le_of_ble_eq_true rfl, Nat.le_of_ble_eq_true rfl, Nat.le_of_ble_eq_true rfl, Nat.le_of_ble_eq_true rfl⟩ (Nat.le_of_ble_eq_true rfl) (fun E q ce w1 H1 l1 hp => hp.elim) (fun v w1 H locs hp hC => ?_)
    obtain ⟨rfl, hwe9⟩ := hp
    rw [hwe9] at hC
    have hC : tC D cls (ty0 ca) A (zz e0 A) s (wC K ca RL LP fv FR day ever mo (nI vs.length) ea wr ch ring (eo ++ rest)) H locs := hC
    refine W.eq (g2 := F0 m 75 ls [.int (rw_cnt (vs.map fv) day vs.length)]) rfl ?_
    exact t_iret hx hb hr hlk zz_c hC (⟨by decide, by simp [rw_fig], rfl⟩) (Nat.le_of_ble_eq_true rfl) (Nat.le_of_ble_eq_true rfl) d_V_figure_75
  · refine lv_tableOut (tgt := 76) hx hb d_V_figure_1 hsw (by decide) ?_
    exact t_throw (by9 := prog_10_method_2_code) (ix := 7) (Y9 := "java/lang/RuntimeException") (r9 := ["java/lang/Exception"]) (text := "k is not 0 .. 5") hx hb hst (by decide +kernel) (by decide +kernel) (by decide +kernel) (by decide +kernel) hown tb_good hts (by decide) (by decide) (by decide) w_133 w_11 (zz_str hC.2.2.2.2.2 (by decide +kernel)) at_IAE zz_c zz_X4 hC (hl.1.trans hml.symm) hex hlk d_V_figure_76 d_V_figure_79 d_V_figure_80 d_V_figure_82 d_V_figure_85 ⟨Nat.le_of_ble_eq_true rfl, Nat.le_of_ble_eq_true rfl, Nat.le_of_ble_eq_true rfl, Nat.le_of_ble_eq_true rfl⟩ (Nat.le_of_ble_eq_true rfl) (Nat.le_of_ble_eq_true rfl) (⟨rfl, rfl, hsw⟩)

theorem nd_inj {vs : List Nat} (h : vs.Nodup) {i j a : Nat} (hi : vs[i]? = some a) (hj : vs[j]? = some a) : i = j := by
  have hn := List.pairwise_iff_getElem.mp h
  obtain ⟨l1, e1⟩ := List.getElem?_eq_some_iff.mp hi
  obtain ⟨l2, e2⟩ := List.getElem?_eq_some_iff.mp hj
  rcases Nat.lt_trichotomy i j with q | q | q
  · exact absurd (e1.trans e2.symm) (hn i j l1 l2 q)
  · exact q
  · exact absurd (e2.trans e1.symm) (hn j i l2 l1 q)
theorem al_step {vs : List Nat} {fv : Nat → RW} {i i0 a a0 : Nat} (hnd : vs.Nodup) (hi : vs[i]? = some a) (h0 : vs[i0]? = some a0) (hno : ∀ j, j < i → j ≠ i0 → rw_at (vs.map fv) j 1 ≠ fv a0 1) (h : (some a = some a0) ∨ fv a 1 ≠ fv a0 1) : ∀ j, j < i + 1 → j ≠ i0 → rw_at (vs.map fv) j 1 ≠ fv a0 1 := by
  intro j hj hj0
  by_cases e : j = i
  · subst e
    rcases h with h | h
    · exfalso
      cases h
      exact hj0 (nd_inj hnd hi h0)
    · rw [rw_at_map hi]; exact h
  · exact hno j (by omega) hj0
theorem al_true {vs : List Nat} {fv : Nat → RW} {i0 a0 : Nat} (h0 : vs[i0]? = some a0) (hno : ∀ j, j < vs.length → j ≠ i0 → rw_at (vs.map fv) j 1 ≠ fv a0 1) : rw_alone (vs.map fv) i0 := by
  intro j hj hj0
  rw [List.length_map] at hj
  rw [rw_at_map h0]
  exact hno j hj hj0
theorem al_false {vs : List Nat} {fv : Nat → RW} {i i0 a a0 : Nat} (hi : vs[i]? = some a) (h0 : vs[i0]? = some a0) (hne : ¬ some a = some a0) (he : fv a 1 = fv a0 1) : ¬ rw_alone (vs.map fv) i0 := by
  intro h
  have hl := (List.getElem?_eq_some_iff.mp hi).1
  refine h i (by rw [List.length_map]; exact hl) (fun e => hne (by rw [← hi, ← h0, e])) ?_
  rw [rw_at_map hi, rw_at_map h0]
  exact he

set_option maxRecDepth 100000 in
set_option maxHeartbeats 4000000 in
theorem c_V_isAlone {l : Launch} {D : va_G} {A : Nat → Prop} {e0 : Nat → Nat} {K : Nat → Nat} {ca : Nat → ClassId} {RL LP : List Nat} {fv FR : Nat → RW} {day ever mo : Int32} {ea : Nat} {wr : Int32} {ch : Int64} {ring : Nat → Int32} {rest : va_W} {vs : List Nat} {eo : va_W} (hI : cI e0 ca vs LP ea eo) {i0 a0 : Nat} (h0 : vs[i0]? = some a0) : tM l y_V_isAlone tb ({ frames := 3, cells := 0, slots := 0, locals := 64 }) D cls (ty0 ca) A (zz e0 A) [.ref (K 0), .ref a0] (wC K ca RL LP fv FR day ever mo (nI vs.length) ea wr ch ring (eo ++ rest)) (fun v w2 => ((v = some (.int 1) ∧ rw_alone (vs.map fv) i0) ∨ (v = some (.int 0) ∧ ¬ rw_alone (vs.map fv) i0)) ∧ w2 = wC K ca RL LP fv FR day ever mo (nI vs.length) ea wr ch ring (eo ++ rest)) (xN) := by
  refine t_ofW (by decide) w_565 (Nat.le_of_ble_eq_true rfl) ?_
  intro p e s m below meth c ls hx hb hr hts hown hlk hnm hml hex hl hC
  have hown : s.vm.findClass "RetentionVault" = some m.cls := hown
  have hl : lv_has ls 4 [(0, .ref (K 0)), (1, .ref a0)] := hl
  obtain ⟨hLR, hvL, hnd, h40⟩ := hI
  have ha0 : a0 ∈ LP := hvL a0 (List.mem_of_getElem? h0)
  refine lv_iconst (v := 0) hx hb d_V_isAlone_0 (by decide) ?_
  refine lv_istore_n (lv' := [(2, .int 0), (0, .ref (K 0)), (1, .ref a0)]) hx hb d_V_isAlone_1 rfl hl (by decide) rfl (fun ls hl => ?_)
  have loop : ∀ (k i : Nat) (ls : Array Slot) (H : Heap) (locs : List Loc), vs.length - i = k → i ≤ vs.length → (∀ j, j < i → j ≠ i0 → rw_at (vs.map fv) j 1 ≠ fv a0 1) → lv_has ls 4 [(2, .int (nI i)), (0, .ref (K 0)), (1, .ref a0)] → tC D cls (ty0 ca) A (zz e0 A) s (wC K ca RL LP fv FR day ever mo (nI vs.length) ea wr ch ring (eo ++ rest)) H locs → tB p l e ({ frames := 3, cells := 0, slots := 0, locals := 64 }) s m [.ref (K 0), .ref a0] below meth c D (ty0 ca) A (zz e0 A) (fun v w2 => ((v = some (.int 1) ∧ rw_alone (vs.map fv) i0) ∨ (v = some (.int 0) ∧ ¬ rw_alone (vs.map fv) i0)) ∧ w2 = wC K ca RL LP fv FR day ever mo (nI vs.length) ea wr ch ring (eo ++ rest)) (xN) H locs 0 0 (F0 m 2 ls []) := by
    intro k
    induction k using Nat.strongRecOn with
    | ind k ih =>
      intro i ls H locs hk hle hno hl hC
      refine lv_iload_n hx hb d_V_isAlone_2 rfl (lv_at hl 0 rfl) ?_
      refine lv_aload_n hx hb d_V_isAlone_3 rfl (lv_at hl 1 rfl) ?_
      refine t_get (v := .ref (K 1)) hx hb hts inV hown hC 0 rfl rfl 0 (by decide) (hts _ w_97) (fun _ h => h) rfl d_V_isAlone_4 ?_
      refine t_call (t_invV (As := []) (rest := [.int (nI i)]) hx hb hown (hts _ w_210) (hts _ w_211) (hts _ w_212) (hts _ w_213) ⟨by decide, by decide⟩ (t_recv (q0 := 1) hC rfl rfl) rfl d_V_isAlone_7) c_A_size zz_c tb_good hts w_4 hC (hl.1.trans hml.symm) ⟨Nat.le_of_ble_eq_true rfl, Nat.le_of_ble_eq_true rfl, Nat.le_of_ble_eq_true rfl, Nat.le_of_ble_eq_true rfl⟩ (Nat.le_of_ble_eq_true rfl) (fun E q ce w1 H1 l1 hp => hp.elim) (fun v w1 H locs hp hC => ?_)
      obtain ⟨rfl, hwe9⟩ := hp
      rw [hwe9] at hC
      have hC : tC D cls (ty0 ca) A (zz e0 A) s (wC K ca RL LP fv FR day ever mo (nI vs.length) ea wr ch ring (eo ++ rest)) H locs := hC
      refine W.eq (g2 := F0 m 10 ls [.int (nI vs.length), .int (nI i)]) rfl ?_
      refine lv_icmp_ge (tgt := 49) hx hb d_V_isAlone_10 (by decide) (fun c10 => ?_) (fun c10 => ?_)
      · skip
        have hil : i = vs.length := Nat.le_antisymm hle ((nI_leI (by omega) (by omega)).mp c10)
        refine lv_iconst (v := 1) hx hb d_V_isAlone_49 (by decide) ?_
        exact t_zret hx hb hr hlk (Or.inr rfl) zz_c hC (⟨Or.inl ⟨rfl, al_true h0 (by rw [← hil]; exact hno)⟩, rfl⟩) (Nat.le_of_ble_eq_true rfl) (Nat.le_of_ble_eq_true rfl) d_V_isAlone_50
      · skip
        have hil : i < vs.length := Nat.not_le.mp (fun h => c10 ((nI_leI (by omega) (by omega)).mpr h))
        obtain ⟨a, hi⟩ : ∃ a, vs[i]? = some a := ⟨vs[i], List.getElem?_eq_getElem hil⟩
        have ha : a ∈ LP := hvL a (List.mem_of_getElem? hi)
        refine lv_aload_n hx hb d_V_isAlone_13 rfl (lv_at hl 1 rfl) ?_
        refine t_get (v := .ref (K 1)) hx hb hts inV hown hC 0 rfl rfl 0 (by decide) (hts _ w_97) (fun _ h => h) rfl d_V_isAlone_14 ?_
        refine lv_iload_n hx hb d_V_isAlone_17 rfl (lv_at hl 0 rfl) ?_
        refine t_call (t_invV (As := [.int (nI i)]) (rest := []) hx hb hown (hts _ w_301) (hts _ w_302) (hts _ w_303) (hts _ w_304) ⟨by decide, by decide⟩ (t_recv (q0 := 1) hC rfl rfl) rfl d_V_isAlone_18) (c_A_get hLR hi) zz_c tb_good hts w_4 hC (hl.1.trans hml.symm) ⟨Nat.le_of_ble_eq_true rfl, Nat.le_of_ble_eq_true rfl, Nat.le_of_ble_eq_true rfl, Nat.le_of_ble_eq_true rfl⟩ (Nat.le_of_ble_eq_true rfl) (fun E q ce w1 H1 l1 hp => hp.elim) (fun v w1 H locs hp hC => ?_)
        obtain ⟨rfl, hwe9⟩ := hp
        rw [hwe9] at hC
        have hC : tC D cls (ty0 ca) A (zz e0 A) s (wC K ca RL LP fv FR day ever mo (nI vs.length) ea wr ch ring (eo ++ rest)) H locs := hC
        refine W.eq (g2 := F0 m 21 ls [.ref a]) rfl ?_
        refine va_castY (C := "RetentionVault$Version") hx hb hown (hts _ w_230) (hC.2.2.2.2.2.2.2.2.2.1 ("RetentionVault$Version", "RetentionVault$Version") (by decide +kernel)) (t_recvP hC ha rfl rfl) d_V_isAlone_21 ?_
        refine lv_astore_n (lv' := [(3, .ref a), (2, .int (nI i)), (0, .ref (K 0)), (1, .ref a0)]) hx hb d_V_isAlone_24 rfl hl (by decide) rfl (fun ls hl => ?_)
        refine lv_aload_n hx hb d_V_isAlone_25 rfl (lv_at hl 0 rfl) ?_
        refine lv_aload_n hx hb d_V_isAlone_26 rfl (lv_at hl 3 rfl) ?_
        refine lv_acmp_eq (rx := (some a)) (ry := (some a0)) (tgt := 43) hx hb d_V_isAlone_27 (by decide) (fun c27 => ?_) (fun c27 => ?_)
        · skip
          refine lv_iinc (k := 1) (v := nI (i + 1)) (lv' := [(2, .int (nI (i + 1))), (3, .ref a), (0, .ref (K 0)), (1, .ref a0)]) hx hb d_V_isAlone_43 hl rfl (nI_1 i) (by decide) rfl (fun ls hl => ?_)
          refine lv_goto (tgt := 2) hx hb d_V_isAlone_46 (by decide) ?_
          exact ih (vs.length - (i + 1)) (by omega) (i + 1) ls H locs rfl (by omega) (al_step hnd hi h0 hno (Or.inl c27)) (lv_sub hl [0, 2, 3] rfl) hC
        · skip
          refine lv_aload_n hx hb d_V_isAlone_30 rfl (lv_at hl 0 rfl) ?_
          refine t_getP hx hb hts inN hown hC ha rfl 1 (by decide) (hts _ w_239) (fun _ h => h) d_V_isAlone_31 ?_
          refine lv_aload_n hx hb d_V_isAlone_34 rfl (lv_at hl 3 rfl) ?_
          refine t_getP hx hb hts inN hown hC ha0 rfl 1 (by decide) (hts _ w_239) (fun _ h => h) d_V_isAlone_35 ?_
          refine lv_icmp_ne (tgt := 43) hx hb d_V_isAlone_38 (by decide) (fun c38 => ?_) (fun c38 => ?_)
          · skip
            refine lv_iinc (k := 1) (v := nI (i + 1)) (lv' := [(2, .int (nI (i + 1))), (3, .ref a), (0, .ref (K 0)), (1, .ref a0)]) hx hb d_V_isAlone_43 hl rfl (nI_1 i) (by decide) rfl (fun ls hl => ?_)
            refine lv_goto (tgt := 2) hx hb d_V_isAlone_46 (by decide) ?_
            exact ih (vs.length - (i + 1)) (by omega) (i + 1) ls H locs rfl (by omega) (al_step hnd hi h0 hno (Or.inr c38)) (lv_sub hl [0, 2, 3] rfl) hC
          · skip
            refine lv_iconst (v := 0) hx hb d_V_isAlone_41 (by decide) ?_
            exact t_zret hx hb hr hlk (Or.inl rfl) zz_c hC (⟨Or.inr ⟨rfl, al_false hi h0 c27 c38⟩, rfl⟩) (Nat.le_of_ble_eq_true rfl) (Nat.le_of_ble_eq_true rfl) d_V_isAlone_42
  exact loop _ 0 ls _ _ rfl (by omega) (fun j h => absurd h (by omega)) hl hC
end
section
/-! The vault: retain, hold, rule, unrule, fetch, cool. Laid by program (wip/whole/p16.py) -/
set_option maxRecDepth 100000 in
set_option maxHeartbeats 4000000 in
theorem c_V_retain {l : Launch} (hst : l.stackTraces = false) {D : va_G} {A : Nat → Prop} {e0 : Nat → Nat} {K : Nat → Nat} {ca : Nat → ClassId} {RL LP : List Nat} {fv FR : Nat → RW} {day ever mo : Int32} {ea : Nat} {ch : Int64} {ring : Nat → Int32} {rest : va_W} {vs : List Nat} {eo : va_W} (hI : cI e0 ca vs LP ea eo) {w9 : Nat} (hw9 : w9 < 2 ^ 31) {number days st9 : Int32} (hb01 : st9 = 0 ∨ st9 = 1) : tM l y_V_retain tb ({ frames := 8, cells := 4, slots := 24, locals := 135 }) D cls (ty0 ca) A (zz e0 A) [.ref (K 0), .int number, .int days, .int st9] (wC K ca RL LP fv FR day ever mo (nI vs.length) ea (nI w9) ch ring (eo ++ rest)) (fun v w2 => ∃ a, vs.find? (fun a => decide (fv a 0 = number)) = some a ∧ fv a 5 ≠ -1 ∧ (0 ≤ days ∧ days ≤ 10000) ∧ ¬ ((fv a 9 ≠ 0 ∧ day < fv a 8) ∧ (st9 = 0 ∨ day + days < fv a 8)) ∧ v = none ∧ w2 = wC K ca RL LP (va_up fv a (upd (upd (fv a) 8 (day + days)) 9 st9)) FR day ever mo (nI vs.length) ea (nI (w9 + 1)) ((lg_wr (ring, w9, ch) day 5 (fv a 0) (day + days)).2.2) ((lg_wr (ring, w9, ch) day 5 (fv a 0) (day + days)).1) (eo ++ rest)) (fun E w2 => w2 = wC K ca RL LP fv FR day ever mo (nI vs.length) ea (nI w9) ch ring (eo ++ rest) ∧ ((E = "java/util/NoSuchElementException" ∧ (vs.find? (fun a => decide (fv a 0 = number)) = none ∨ ∃ a, vs.find? (fun a => decide (fv a 0 = number)) = some a ∧ fv a 5 = -1)) ∨ (∃ a, vs.find? (fun a => decide (fv a 0 = number)) = some a ∧ fv a 5 ≠ -1 ∧ ((E = "java/lang/IllegalArgumentException" ∧ ¬ (0 ≤ days ∧ days ≤ 10000)) ∨ (E = "java/lang/IllegalStateException" ∧ (0 ≤ days ∧ days ≤ 10000) ∧ (fv a 9 ≠ 0 ∧ day < fv a 8) ∧ (st9 = 0 ∨ day + days < fv a 8)))))) := by
  refine t_ofW (by decide) w_461 (Nat.le_of_ble_eq_true rfl) ?_
  intro p e s m below meth c ls hx hb hr hts hown hlk hnm hml hex hl hC
  have hown : s.vm.findClass "RetentionVault" = some m.cls := hown
  have hl : lv_has ls 6 [(0, .ref (K 0)), (1, .int number), (2, .int days), (3, .int st9)] := hl
  obtain ⟨hLR, hvL, hnd, h40⟩ := hI
  refine lv_aload_n hx hb d_V_retain_0 rfl (lv_at hl 0 rfl) ?_
  refine lv_iload_n hx hb d_V_retain_1 rfl (lv_at hl 1 rfl) ?_
  refine t_call (t_invV (As := [.int number]) (rest := []) hx hb hown (hts _ w_462) (hts _ w_464) (hts _ s_V_objectNumbered) (hts _ w_465) ⟨by decide, by decide⟩ (t_recv (q0 := 0) hC rfl rfl) rfl d_V_retain_2) (c_V_objectNumbered hst ⟨hLR, hvL, hnd, h40⟩) zz_c tb_good hts w_1 hC (hl.1.trans hml.symm) ⟨Nat.le_of_ble_eq_true rfl, Nat.le_of_ble_eq_true rfl, Nat.le_of_ble_eq_true rfl, Nat.le_of_ble_eq_true rfl⟩ (Nat.le_of_ble_eq_true rfl) (fun E q9 ce w1 H locs hp hC hce hcv hcl => ?_) (fun v w1 H locs hp hC => ?_)
  · skip
    obtain ⟨rfl, hwe9, hfa⟩ := hp
    rw [hwe9] at hC
    have hC : tC D cls (ty0 ca) A (zz e0 A) s (wC K ca RL LP fv FR day ever mo (nI vs.length) ea (nI w9) ch ring (eo ++ rest)) H locs := hC
    exact t_out (fun x h => (hex x h).elim) hlk zz_c hC hce hcv hcl (⟨rfl, Or.inl ⟨rfl, hfa⟩⟩) (Nat.le_of_ble_eq_true rfl) (Nat.le_of_ble_eq_true rfl)
  · skip
    obtain ⟨a, hfa, hob, rfl, hwe9⟩ := hp
    rw [hwe9] at hC
    have ha : a ∈ LP := hvL a (List.mem_of_find?_eq_some hfa)
    have hC : tC D cls (ty0 ca) A (zz e0 A) s (wC K ca RL LP fv FR day ever mo (nI vs.length) ea (nI w9) ch ring (eo ++ rest)) H locs := hC
    refine W.eq (g2 := F0 m 5 ls [.ref a]) rfl ?_
    refine lv_astore (lv' := [(4, .ref a), (0, .ref (K 0)), (1, .int number), (2, .int days), (3, .int st9)]) hx hb d_V_retain_5 hl (by decide) rfl (fun ls hl => ?_)
    refine lv_iload_n hx hb d_V_retain_7 rfl (lv_at hl 3 rfl) ?_
    refine lv_iconst (v := 0) hx hb d_V_retain_8 (by decide) ?_
    refine lv_sipush (v := 10000) hx hb d_V_retain_9 (by decide) ?_
    refine t_call (t_invS (As := [.int days, .int 0, .int 10000]) (rest := []) hx hb hown (hts _ w_127) (hts _ w_128) (hts _ w_1) (hts _ w_129) ⟨by decide, by decide⟩ rfl d_V_retain_12) (c_V_isWithin zz_c) zz_c tb_good hts w_1 hC (hl.1.trans hml.symm) ⟨Nat.le_of_ble_eq_true rfl, Nat.le_of_ble_eq_true rfl, Nat.le_of_ble_eq_true rfl, Nat.le_of_ble_eq_true rfl⟩ (Nat.le_of_ble_eq_true rfl) (fun E q ce w1 H1 l1 hp => hp.elim) (fun v w1 H locs hp hC => ?_)
    obtain ⟨rfl, hwe9⟩ := hp
    rw [hwe9] at hC
    have hC : tC D cls (ty0 ca) A (zz e0 A) s (wC K ca RL LP fv FR day ever mo (nI vs.length) ea (nI w9) ch ring (eo ++ rest)) H locs := hC
    refine W.eq (g2 := F0 m 15 ls [.int (bI (0 ≤ days ∧ days ≤ 10000))]) rfl ?_
    refine t_call (t_invS (As := [.int (bI (0 ≤ days ∧ days ≤ 10000))]) (rest := []) hx hb hown (hts _ w_130) (hts _ w_131) (hts _ w_1) (hts _ w_132) ⟨by decide, by decide⟩ rfl d_V_retain_15) (c_V_demand hst) zz_c tb_good hts w_1 hC (hl.1.trans hml.symm) ⟨Nat.le_of_ble_eq_true rfl, Nat.le_of_ble_eq_true rfl, Nat.le_of_ble_eq_true rfl, Nat.le_of_ble_eq_true rfl⟩ (Nat.le_of_ble_eq_true rfl) (fun E q9 ce w1 H locs hp hC hce hcv hcl => ?_) (fun v w1 H locs hp hC => ?_)
    · skip
      obtain ⟨rfl, hwe9, hdem⟩ := hp
      rw [hwe9] at hC
      have hC : tC D cls (ty0 ca) A (zz e0 A) s (wC K ca RL LP fv FR day ever mo (nI vs.length) ea (nI w9) ch ring (eo ++ rest)) H locs := hC
      exact t_out (fun x h => (hex x h).elim) hlk zz_c hC hce hcv hcl (⟨rfl, Or.inr ⟨a, hfa, hob, Or.inl ⟨rfl, bI_ne.mp hdem⟩⟩⟩) (Nat.le_of_ble_eq_true rfl) (Nat.le_of_ble_eq_true rfl)
    · skip
      obtain ⟨rfl, hwe9, hdem⟩ := hp
      rw [hwe9] at hC
      have hC : tC D cls (ty0 ca) A (zz e0 A) s (wC K ca RL LP fv FR day ever mo (nI vs.length) ea (nI w9) ch ring (eo ++ rest)) H locs := hC
      refine W.eq (g2 := F0 m 18 ls []) rfl ?_
      refine lv_aload_n hx hb d_V_retain_18 rfl (lv_at hl 1 rfl) ?_
      refine t_get (v := .int day) hx hb hts inV hown hC 0 rfl rfl 3 (by decide) (hts _ w_100) (fun _ h => h) rfl d_V_retain_19 ?_
      refine lv_iload_n hx hb d_V_retain_22 rfl (lv_at hl 3 rfl) ?_
      refine lv_iadd hx hb d_V_retain_23 ?_
      refine lv_istore (lv' := [(5, .int (day + days)), (4, .ref a), (0, .ref (K 0)), (1, .int number), (2, .int days), (3, .int st9)]) hx hb d_V_retain_24 hl (by decide) rfl (fun ls hl => ?_)
      refine lv_aload hx hb d_V_retain_26 (lv_at hl 1 rfl) ?_
      refine lv_aload_n hx hb d_V_retain_28 rfl (lv_at hl 2 rfl) ?_
      refine t_get (v := .int day) hx hb hts inV hown hC 0 rfl rfl 3 (by decide) (hts _ w_100) (fun _ h => h) rfl d_V_retain_29 ?_
      refine t_call (t_invV (As := [.int day]) (rest := []) hx hb hown (hts _ w_428) (hts _ w_429) (hts _ w_430) (hts _ w_431) ⟨by decide, by decide⟩ (t_recvP hC ha rfl rfl) rfl d_V_retain_32) (c_N_isRetainedStrictly zz_c ha) zz_c tb_good hts w_13 hC (hl.1.trans hml.symm) ⟨Nat.le_of_ble_eq_true rfl, Nat.le_of_ble_eq_true rfl, Nat.le_of_ble_eq_true rfl, Nat.le_of_ble_eq_true rfl⟩ (Nat.le_of_ble_eq_true rfl) (fun E q ce w1 H1 l1 hp => hp.elim) (fun v w1 H locs hp hC => ?_)
      obtain ⟨rfl, hwe9⟩ := hp
      rw [hwe9] at hC
      have hC : tC D cls (ty0 ca) A (zz e0 A) s (wC K ca RL LP fv FR day ever mo (nI vs.length) ea (nI w9) ch ring (eo ++ rest)) H locs := hC
      refine W.eq (g2 := F0 m 35 ls [.int (bI (fv a 9 ≠ 0 ∧ day < fv a 8))]) rfl ?_
      refine lv_if_eq (tgt := 62) hx hb d_V_retain_35 (by decide) (fun c35 => ?_) (fun c35 => ?_)
      · skip
        refine lv_aload hx hb d_V_retain_62 (lv_at hl 1 rfl) ?_
        refine lv_iload hx hb d_V_retain_64 (lv_at hl 0 rfl) ?_
        refine t_putP (ty := .int) hx hb hts inN TN tyN nmN hown hC ha rfl 8 (by decide) (hts _ w_252) (fun _ h => h) (Or.inl rfl) (by decide +kernel) rfl rfl d_V_retain_66 (fun H locs hC => ?_)
        have hC : tC D cls (ty0 ca) A (zz e0 A) s (wC K ca RL LP (va_up fv a (upd (fv a) 8 (day + days))) FR day ever mo (nI vs.length) ea (nI w9) ch ring (eo ++ rest)) H locs := hC
        refine lv_aload hx hb d_V_retain_69 (lv_at hl 1 rfl) ?_
        refine lv_iload_n hx hb d_V_retain_71 rfl (lv_at hl 5 rfl) ?_
        refine t_putP (ty := .boolean) hx hb hts inN TN tyN nmN hown hC ha rfl 9 (by decide) (hts _ w_254) (fun _ h => h) (Or.inl rfl) (by decide +kernel) (by rcases hb01 with rfl | rfl <;> rfl) (by rcases hb01 with rfl | rfl <;> rfl) d_V_retain_72 (fun H locs hC => ?_)
        have hC : tC D cls (ty0 ca) A (zz e0 A) s (wC K ca RL LP (va_up (va_up fv a (upd (fv a) 8 (day + days))) a (upd ((va_up fv a (upd (fv a) 8 (day + days))) a) 9 st9)) FR day ever mo (nI vs.length) ea (nI w9) ch ring (eo ++ rest)) H locs := hC
        refine lv_aload_n hx hb d_V_retain_75 rfl (lv_at hl 2 rfl) ?_
        refine t_get (v := .ref (K 3)) hx hb hts inV hown hC 0 rfl rfl 2 (by decide) (hts _ w_99) (fun _ h => h) rfl d_V_retain_76 ?_
        refine lv_aload_n hx hb d_V_retain_79 rfl (lv_at hl 2 rfl) ?_
        refine t_get (v := .int day) hx hb hts inV hown hC 0 rfl rfl 3 (by decide) (hts _ w_100) (fun _ h => h) rfl d_V_retain_80 ?_
        refine lv_iconst (v := 5) hx hb d_V_retain_83 (by decide) ?_
        refine lv_aload hx hb d_V_retain_84 (lv_at hl 1 rfl) ?_
        refine t_getP hx hb hts inN hown hC ha rfl 0 (by decide) (hts _ w_237) (fun _ h => h) d_V_retain_86 ?_
        refine lv_iload hx hb d_V_retain_89 (lv_at hl 0 rfl) ?_
        refine t_call (t_invV (As := [.int day, .int 5, .int ((va_up (va_up fv a (upd (fv a) 8 (day + days))) a (upd ((va_up fv a (upd (fv a) 8 (day + days))) a) 9 st9)) a 0), .int (day + days)]) (rest := []) hx hb hown (hts _ w_376) (hts _ w_377) (hts _ w_378) (hts _ w_379) ⟨by decide, by decide⟩ (t_recv (q0 := 3) hC rfl rfl) rfl d_V_retain_91) (c_G_write hw9) zz_c tb_good hts w_6 hC (hl.1.trans hml.symm) ⟨Nat.le_of_ble_eq_true rfl, Nat.le_of_ble_eq_true rfl, Nat.le_of_ble_eq_true rfl, Nat.le_of_ble_eq_true rfl⟩ (Nat.le_of_ble_eq_true rfl) (fun E q ce w1 H1 l1 hp => hp.elim) (fun v w1 H locs hp hC => ?_)
        obtain ⟨rfl, rfl⟩ := hp
        have hC : tC D cls (ty0 ca) A (zz e0 A) s (wC K ca RL LP (va_up (va_up fv a (upd (fv a) 8 (day + days))) a (upd ((va_up fv a (upd (fv a) 8 (day + days))) a) 9 st9)) FR day ever mo (nI vs.length) ea (nI (w9 + 1)) ((lg_wr (ring, w9, ch) day 5 ((va_up (va_up fv a (upd (fv a) 8 (day + days))) a (upd ((va_up fv a (upd (fv a) 8 (day + days))) a) 9 st9)) a 0) (day + days)).2.2) ((lg_wr (ring, w9, ch) day 5 ((va_up (va_up fv a (upd (fv a) 8 (day + days))) a (upd ((va_up fv a (upd (fv a) 8 (day + days))) a) 9 st9)) a 0) (day + days)).1) (eo ++ rest)) H locs := hC
        refine W.eq (g2 := F0 m 94 ls []) rfl ?_
        exact t_vret hx hb hr hlk zz_c hC (⟨a, hfa, hob, Classical.not_not.mp (fun q => hdem (bI_ne.mpr q)), fun h => bI_ne.mp c35 h.1, rfl, by simp only [up_twice, va_up_self]; rfl⟩) (Nat.le_of_ble_eq_true rfl) (Nat.le_of_ble_eq_true rfl) d_V_retain_94
      · skip
        refine lv_iload_n hx hb d_V_retain_38 rfl (lv_at hl 5 rfl) ?_
        refine lv_if_eq (tgt := 52) hx hb d_V_retain_39 (by decide) (fun c39 => ?_) (fun c39 => ?_)
        · skip
          exact t_throw (by9 := prog_11_method_2_code) (ix := 7) (Y9 := "java/lang/RuntimeException") (r9 := ["java/lang/Exception"]) (text := "strict retention cannot be weakened") hx hb hst (by decide +kernel) (by decide +kernel) (by decide +kernel) (by decide +kernel) hown tb_good hts (by decide) (by decide) (by decide) w_214 w_12 (zz_str hC.2.2.2.2.2 (by decide +kernel)) at_ISE zz_c zz_X4 hC (hl.1.trans hml.symm) hex hlk d_V_retain_52 d_V_retain_55 d_V_retain_56 d_V_retain_58 d_V_retain_61 ⟨Nat.le_of_ble_eq_true rfl, Nat.le_of_ble_eq_true rfl, Nat.le_of_ble_eq_true rfl, Nat.le_of_ble_eq_true rfl⟩ (Nat.le_of_ble_eq_true rfl) (Nat.le_of_ble_eq_true rfl) (⟨rfl, Or.inr ⟨a, hfa, hob, Or.inr ⟨rfl, Classical.not_not.mp (fun q => hdem (bI_ne.mpr q)), Classical.not_not.mp (fun q => c35 (bI_ne.mpr q)), Or.inl c39⟩⟩⟩)
        · skip
          refine lv_iload hx hb d_V_retain_42 (lv_at hl 0 rfl) ?_
          refine lv_aload hx hb d_V_retain_44 (lv_at hl 1 rfl) ?_
          refine t_getP hx hb hts inN hown hC ha rfl 8 (by decide) (hts _ w_252) (fun _ h => h) d_V_retain_46 ?_
          refine lv_icmp_ge (tgt := 62) hx hb d_V_retain_49 (by decide) (fun c49 => ?_) (fun c49 => ?_)
          · skip
            refine lv_aload hx hb d_V_retain_62 (lv_at hl 1 rfl) ?_
            refine lv_iload hx hb d_V_retain_64 (lv_at hl 0 rfl) ?_
            refine t_putP (ty := .int) hx hb hts inN TN tyN nmN hown hC ha rfl 8 (by decide) (hts _ w_252) (fun _ h => h) (Or.inl rfl) (by decide +kernel) rfl rfl d_V_retain_66 (fun H locs hC => ?_)
            have hC : tC D cls (ty0 ca) A (zz e0 A) s (wC K ca RL LP (va_up fv a (upd (fv a) 8 (day + days))) FR day ever mo (nI vs.length) ea (nI w9) ch ring (eo ++ rest)) H locs := hC
            refine lv_aload hx hb d_V_retain_69 (lv_at hl 1 rfl) ?_
            refine lv_iload_n hx hb d_V_retain_71 rfl (lv_at hl 5 rfl) ?_
            refine t_putP (ty := .boolean) hx hb hts inN TN tyN nmN hown hC ha rfl 9 (by decide) (hts _ w_254) (fun _ h => h) (Or.inl rfl) (by decide +kernel) (by rcases hb01 with rfl | rfl <;> rfl) (by rcases hb01 with rfl | rfl <;> rfl) d_V_retain_72 (fun H locs hC => ?_)
            have hC : tC D cls (ty0 ca) A (zz e0 A) s (wC K ca RL LP (va_up (va_up fv a (upd (fv a) 8 (day + days))) a (upd ((va_up fv a (upd (fv a) 8 (day + days))) a) 9 st9)) FR day ever mo (nI vs.length) ea (nI w9) ch ring (eo ++ rest)) H locs := hC
            refine lv_aload_n hx hb d_V_retain_75 rfl (lv_at hl 2 rfl) ?_
            refine t_get (v := .ref (K 3)) hx hb hts inV hown hC 0 rfl rfl 2 (by decide) (hts _ w_99) (fun _ h => h) rfl d_V_retain_76 ?_
            refine lv_aload_n hx hb d_V_retain_79 rfl (lv_at hl 2 rfl) ?_
            refine t_get (v := .int day) hx hb hts inV hown hC 0 rfl rfl 3 (by decide) (hts _ w_100) (fun _ h => h) rfl d_V_retain_80 ?_
            refine lv_iconst (v := 5) hx hb d_V_retain_83 (by decide) ?_
            refine lv_aload hx hb d_V_retain_84 (lv_at hl 1 rfl) ?_
            refine t_getP hx hb hts inN hown hC ha rfl 0 (by decide) (hts _ w_237) (fun _ h => h) d_V_retain_86 ?_
            refine lv_iload hx hb d_V_retain_89 (lv_at hl 0 rfl) ?_
            refine t_call (t_invV (As := [.int day, .int 5, .int ((va_up (va_up fv a (upd (fv a) 8 (day + days))) a (upd ((va_up fv a (upd (fv a) 8 (day + days))) a) 9 st9)) a 0), .int (day + days)]) (rest := []) hx hb hown (hts _ w_376) (hts _ w_377) (hts _ w_378) (hts _ w_379) ⟨by decide, by decide⟩ (t_recv (q0 := 3) hC rfl rfl) rfl d_V_retain_91) (c_G_write hw9) zz_c tb_good hts w_6 hC (hl.1.trans hml.symm) ⟨Nat.le_of_ble_eq_true rfl, Nat.le_of_ble_eq_true rfl, Nat.le_of_ble_eq_true rfl, Nat.le_of_ble_eq_true rfl⟩ (Nat.le_of_ble_eq_true rfl) (fun E q ce w1 H1 l1 hp => hp.elim) (fun v w1 H locs hp hC => ?_)
            obtain ⟨rfl, rfl⟩ := hp
            have hC : tC D cls (ty0 ca) A (zz e0 A) s (wC K ca RL LP (va_up (va_up fv a (upd (fv a) 8 (day + days))) a (upd ((va_up fv a (upd (fv a) 8 (day + days))) a) 9 st9)) FR day ever mo (nI vs.length) ea (nI (w9 + 1)) ((lg_wr (ring, w9, ch) day 5 ((va_up (va_up fv a (upd (fv a) 8 (day + days))) a (upd ((va_up fv a (upd (fv a) 8 (day + days))) a) 9 st9)) a 0) (day + days)).2.2) ((lg_wr (ring, w9, ch) day 5 ((va_up (va_up fv a (upd (fv a) 8 (day + days))) a (upd ((va_up fv a (upd (fv a) 8 (day + days))) a) 9 st9)) a 0) (day + days)).1) (eo ++ rest)) H locs := hC
            refine W.eq (g2 := F0 m 94 ls []) rfl ?_
            exact t_vret hx hb hr hlk zz_c hC (⟨a, hfa, hob, Classical.not_not.mp (fun q => hdem (bI_ne.mpr q)), fun h => h.2.elim c39 (Int32.not_lt.mpr c49), rfl, by simp only [up_twice, va_up_self]; rfl⟩) (Nat.le_of_ble_eq_true rfl) (Nat.le_of_ble_eq_true rfl) d_V_retain_94
          · skip
            exact t_throw (by9 := prog_11_method_2_code) (ix := 7) (Y9 := "java/lang/RuntimeException") (r9 := ["java/lang/Exception"]) (text := "strict retention cannot be weakened") hx hb hst (by decide +kernel) (by decide +kernel) (by decide +kernel) (by decide +kernel) hown tb_good hts (by decide) (by decide) (by decide) w_214 w_12 (zz_str hC.2.2.2.2.2 (by decide +kernel)) at_ISE zz_c zz_X4 hC (hl.1.trans hml.symm) hex hlk d_V_retain_52 d_V_retain_55 d_V_retain_56 d_V_retain_58 d_V_retain_61 ⟨Nat.le_of_ble_eq_true rfl, Nat.le_of_ble_eq_true rfl, Nat.le_of_ble_eq_true rfl, Nat.le_of_ble_eq_true rfl⟩ (Nat.le_of_ble_eq_true rfl) (Nat.le_of_ble_eq_true rfl) (⟨rfl, Or.inr ⟨a, hfa, hob, Or.inr ⟨rfl, Classical.not_not.mp (fun q => hdem (bI_ne.mpr q)), Classical.not_not.mp (fun q => c35 (bI_ne.mpr q)), Or.inr (Int32.not_le.mp c49)⟩⟩⟩)

set_option maxRecDepth 100000 in
set_option maxHeartbeats 4000000 in
theorem c_V_fetch {l : Launch} (hst : l.stackTraces = false) {D : va_G} {A : Nat → Prop} {e0 : Nat → Nat} {K : Nat → Nat} {ca : Nat → ClassId} {RL LP : List Nat} {fv FR : Nat → RW} {day ever mo : Int32} {ea : Nat} {ch : Int64} {ring : Nat → Int32} {rest : va_W} {vs : List Nat} {eo : va_W} (hI : cI e0 ca vs LP ea eo) {w9 : Nat} (hw9 : w9 < 2 ^ 31) {number days : Int32} : tM l y_V_fetch tb ({ frames := 8, cells := 4, slots := 24, locals := 135 }) D cls (ty0 ca) A (zz e0 A) [.ref (K 0), .int number, .int days] (wC K ca RL LP fv FR day ever mo (nI vs.length) ea (nI w9) ch ring (eo ++ rest)) (fun v w2 => ∃ a, vs.find? (fun a => decide (fv a 0 = number)) = some a ∧ fv a 5 ≠ -1 ∧ (1 ≤ days ∧ days ≤ 100) ∧ 2 ≤ fv a 5 ∧ v = some (.int (day + (if fv a 5 = 3 then 3 else 1))) ∧ w2 = wC K ca RL LP (va_up fv a (upd (upd (fv a) 11 (day + (if fv a 5 = 3 then 3 else 1))) 12 (day + (if fv a 5 = 3 then 3 else 1) + days))) FR day ever mo (nI vs.length) ea (nI (w9 + 1)) ((lg_wr (ring, w9, ch) day 8 (fv a 0) (day + (if fv a 5 = 3 then 3 else 1))).2.2) ((lg_wr (ring, w9, ch) day 8 (fv a 0) (day + (if fv a 5 = 3 then 3 else 1))).1) (eo ++ rest)) (fun E w2 => w2 = wC K ca RL LP fv FR day ever mo (nI vs.length) ea (nI w9) ch ring (eo ++ rest) ∧ ((E = "java/util/NoSuchElementException" ∧ (vs.find? (fun a => decide (fv a 0 = number)) = none ∨ ∃ a, vs.find? (fun a => decide (fv a 0 = number)) = some a ∧ fv a 5 = -1)) ∨ (∃ a, vs.find? (fun a => decide (fv a 0 = number)) = some a ∧ fv a 5 ≠ -1 ∧ ((E = "java/lang/IllegalArgumentException" ∧ ¬ (1 ≤ days ∧ days ≤ 100)) ∨ (E = "java/lang/IllegalStateException" ∧ (1 ≤ days ∧ days ≤ 100) ∧ ¬ 2 ≤ fv a 5))))) := by
  refine t_ofW (by decide) w_503 (Nat.le_of_ble_eq_true rfl) ?_
  intro p e s m below meth c ls hx hb hr hts hown hlk hnm hml hex hl hC
  have hown : s.vm.findClass "RetentionVault" = some m.cls := hown
  have hl : lv_has ls 4 [(0, .ref (K 0)), (1, .int number), (2, .int days)] := hl
  obtain ⟨hLR, hvL, hnd, h40⟩ := hI
  refine lv_aload_n hx hb d_V_fetch_0 rfl (lv_at hl 0 rfl) ?_
  refine lv_iload_n hx hb d_V_fetch_1 rfl (lv_at hl 1 rfl) ?_
  refine t_call (t_invV (As := [.int number]) (rest := []) hx hb hown (hts _ w_462) (hts _ w_464) (hts _ s_V_objectNumbered) (hts _ w_465) ⟨by decide, by decide⟩ (t_recv (q0 := 0) hC rfl rfl) rfl d_V_fetch_2) (c_V_objectNumbered hst ⟨hLR, hvL, hnd, h40⟩) zz_c tb_good hts w_1 hC (hl.1.trans hml.symm) ⟨Nat.le_of_ble_eq_true rfl, Nat.le_of_ble_eq_true rfl, Nat.le_of_ble_eq_true rfl, Nat.le_of_ble_eq_true rfl⟩ (Nat.le_of_ble_eq_true rfl) (fun E q9 ce w1 H locs hp hC hce hcv hcl => ?_) (fun v w1 H locs hp hC => ?_)
  · skip
    obtain ⟨rfl, hwe9, hfa⟩ := hp
    rw [hwe9] at hC
    have hC : tC D cls (ty0 ca) A (zz e0 A) s (wC K ca RL LP fv FR day ever mo (nI vs.length) ea (nI w9) ch ring (eo ++ rest)) H locs := hC
    exact t_out (fun x h => (hex x h).elim) hlk zz_c hC hce hcv hcl (⟨rfl, Or.inl ⟨rfl, hfa⟩⟩) (Nat.le_of_ble_eq_true rfl) (Nat.le_of_ble_eq_true rfl)
  · skip
    obtain ⟨a, hfa, hob, rfl, hwe9⟩ := hp
    rw [hwe9] at hC
    have ha : a ∈ LP := hvL a (List.mem_of_find?_eq_some hfa)
    have hC : tC D cls (ty0 ca) A (zz e0 A) s (wC K ca RL LP fv FR day ever mo (nI vs.length) ea (nI w9) ch ring (eo ++ rest)) H locs := hC
    refine W.eq (g2 := F0 m 5 ls [.ref a]) rfl ?_
    refine lv_astore_n (lv' := [(3, .ref a), (0, .ref (K 0)), (1, .int number), (2, .int days)]) hx hb d_V_fetch_5 rfl hl (by decide) rfl (fun ls hl => ?_)
    refine lv_iload_n hx hb d_V_fetch_6 rfl (lv_at hl 3 rfl) ?_
    refine lv_iconst (v := 1) hx hb d_V_fetch_7 (by decide) ?_
    refine lv_bipush (v := 100) hx hb d_V_fetch_8 (by decide) ?_
    refine t_call (t_invS (As := [.int days, .int 1, .int 100]) (rest := []) hx hb hown (hts _ w_127) (hts _ w_128) (hts _ w_1) (hts _ w_129) ⟨by decide, by decide⟩ rfl d_V_fetch_10) (c_V_isWithin zz_c) zz_c tb_good hts w_1 hC (hl.1.trans hml.symm) ⟨Nat.le_of_ble_eq_true rfl, Nat.le_of_ble_eq_true rfl, Nat.le_of_ble_eq_true rfl, Nat.le_of_ble_eq_true rfl⟩ (Nat.le_of_ble_eq_true rfl) (fun E q ce w1 H1 l1 hp => hp.elim) (fun v w1 H locs hp hC => ?_)
    obtain ⟨rfl, hwe9⟩ := hp
    rw [hwe9] at hC
    have hC : tC D cls (ty0 ca) A (zz e0 A) s (wC K ca RL LP fv FR day ever mo (nI vs.length) ea (nI w9) ch ring (eo ++ rest)) H locs := hC
    refine W.eq (g2 := F0 m 13 ls [.int (bI (1 ≤ days ∧ days ≤ 100))]) rfl ?_
    refine t_call (t_invS (As := [.int (bI (1 ≤ days ∧ days ≤ 100))]) (rest := []) hx hb hown (hts _ w_130) (hts _ w_131) (hts _ w_1) (hts _ w_132) ⟨by decide, by decide⟩ rfl d_V_fetch_13) (c_V_demand hst) zz_c tb_good hts w_1 hC (hl.1.trans hml.symm) ⟨Nat.le_of_ble_eq_true rfl, Nat.le_of_ble_eq_true rfl, Nat.le_of_ble_eq_true rfl, Nat.le_of_ble_eq_true rfl⟩ (Nat.le_of_ble_eq_true rfl) (fun E q9 ce w1 H locs hp hC hce hcv hcl => ?_) (fun v w1 H locs hp hC => ?_)
    · skip
      obtain ⟨rfl, hwe9, hdem⟩ := hp
      rw [hwe9] at hC
      have hC : tC D cls (ty0 ca) A (zz e0 A) s (wC K ca RL LP fv FR day ever mo (nI vs.length) ea (nI w9) ch ring (eo ++ rest)) H locs := hC
      exact t_out (fun x h => (hex x h).elim) hlk zz_c hC hce hcv hcl (⟨rfl, Or.inr ⟨a, hfa, hob, Or.inl ⟨rfl, bI_ne.mp hdem⟩⟩⟩) (Nat.le_of_ble_eq_true rfl) (Nat.le_of_ble_eq_true rfl)
    · skip
      obtain ⟨rfl, hwe9, hdem⟩ := hp
      rw [hwe9] at hC
      have hC : tC D cls (ty0 ca) A (zz e0 A) s (wC K ca RL LP fv FR day ever mo (nI vs.length) ea (nI w9) ch ring (eo ++ rest)) H locs := hC
      refine W.eq (g2 := F0 m 16 ls []) rfl ?_
      refine lv_aload_n hx hb d_V_fetch_16 rfl (lv_at hl 0 rfl) ?_
      refine t_call (t_invV (As := []) (rest := []) hx hb hown (hts _ w_504) (hts _ w_505) (hts _ w_506) (hts _ w_507) ⟨by decide, by decide⟩ (t_recvP hC ha rfl rfl) rfl d_V_fetch_17) (c_N_isCold zz_c ha) zz_c tb_good hts w_13 hC (hl.1.trans hml.symm) ⟨Nat.le_of_ble_eq_true rfl, Nat.le_of_ble_eq_true rfl, Nat.le_of_ble_eq_true rfl, Nat.le_of_ble_eq_true rfl⟩ (Nat.le_of_ble_eq_true rfl) (fun E q ce w1 H1 l1 hp => hp.elim) (fun v w1 H locs hp hC => ?_)
      obtain ⟨rfl, hwe9⟩ := hp
      rw [hwe9] at hC
      have hC : tC D cls (ty0 ca) A (zz e0 A) s (wC K ca RL LP fv FR day ever mo (nI vs.length) ea (nI w9) ch ring (eo ++ rest)) H locs := hC
      refine W.eq (g2 := F0 m 20 ls [.int (bI (2 ≤ fv a 5))]) rfl ?_
      refine lv_if_ne (tgt := 33) hx hb d_V_fetch_20 (by decide) (fun c20 => ?_) (fun c20 => ?_)
      · skip
        refine lv_aload_n hx hb d_V_fetch_33 rfl (lv_at hl 0 rfl) ?_
        refine lv_aload_n hx hb d_V_fetch_34 rfl (lv_at hl 1 rfl) ?_
        refine t_get (v := .int day) hx hb hts inV hown hC 0 rfl rfl 3 (by decide) (hts _ w_100) (fun _ h => h) rfl d_V_fetch_35 ?_
        refine lv_aload_n hx hb d_V_fetch_38 rfl (lv_at hl 0 rfl) ?_
        refine t_getP hx hb hts inN hown hC ha rfl 5 (by decide) (hts _ w_246) (fun _ h => h) d_V_fetch_39 ?_
        refine lv_iconst (v := 3) hx hb d_V_fetch_42 (by decide) ?_
        refine lv_icmp_ne (tgt := 50) hx hb d_V_fetch_43 (by decide) (fun c43 => ?_) (fun c43 => ?_)
        · skip
          refine lv_iconst (v := 1) hx hb d_V_fetch_50 (by decide) ?_
          refine lv_iadd hx hb d_V_fetch_51 ?_
          refine t_putP (ty := .int) hx hb hts inN TN tyN nmN hown hC ha rfl 11 (by decide) (hts _ w_258) (fun _ h => h) (Or.inl rfl) (by decide +kernel) rfl rfl d_V_fetch_52 (fun H locs hC => ?_)
          have hC : tC D cls (ty0 ca) A (zz e0 A) s (wC K ca RL LP (va_up fv a (upd (fv a) 11 (day + 1))) FR day ever mo (nI vs.length) ea (nI w9) ch ring (eo ++ rest)) H locs := hC
          refine lv_aload_n hx hb d_V_fetch_55 rfl (lv_at hl 0 rfl) ?_
          refine lv_aload_n hx hb d_V_fetch_56 rfl (lv_at hl 0 rfl) ?_
          refine t_getP hx hb hts inN hown hC ha rfl 11 (by decide) (hts _ w_258) (fun _ h => h) d_V_fetch_57 ?_
          refine lv_iload_n hx hb d_V_fetch_60 rfl (lv_at hl 3 rfl) ?_
          refine lv_iadd hx hb d_V_fetch_61 ?_
          refine t_putP (ty := .int) hx hb hts inN TN tyN nmN hown hC ha rfl 12 (by decide) (hts _ w_260) (fun _ h => h) (Or.inl rfl) (by decide +kernel) rfl rfl d_V_fetch_62 (fun H locs hC => ?_)
          have hC : tC D cls (ty0 ca) A (zz e0 A) s (wC K ca RL LP (va_up (va_up fv a (upd (fv a) 11 (day + 1))) a (upd ((va_up fv a (upd (fv a) 11 (day + 1))) a) 12 (((va_up fv a (upd (fv a) 11 (day + 1))) a 11) + days))) FR day ever mo (nI vs.length) ea (nI w9) ch ring (eo ++ rest)) H locs := hC
          refine lv_aload_n hx hb d_V_fetch_65 rfl (lv_at hl 1 rfl) ?_
          refine t_get (v := .ref (K 3)) hx hb hts inV hown hC 0 rfl rfl 2 (by decide) (hts _ w_99) (fun _ h => h) rfl d_V_fetch_66 ?_
          refine lv_aload_n hx hb d_V_fetch_69 rfl (lv_at hl 1 rfl) ?_
          refine t_get (v := .int day) hx hb hts inV hown hC 0 rfl rfl 3 (by decide) (hts _ w_100) (fun _ h => h) rfl d_V_fetch_70 ?_
          refine lv_bipush (v := 8) hx hb d_V_fetch_73 (by decide) ?_
          refine lv_aload_n hx hb d_V_fetch_75 rfl (lv_at hl 0 rfl) ?_
          refine t_getP hx hb hts inN hown hC ha rfl 0 (by decide) (hts _ w_237) (fun _ h => h) d_V_fetch_76 ?_
          refine lv_aload_n hx hb d_V_fetch_79 rfl (lv_at hl 0 rfl) ?_
          refine t_getP hx hb hts inN hown hC ha rfl 11 (by decide) (hts _ w_258) (fun _ h => h) d_V_fetch_80 ?_
          refine t_call (t_invV (As := [.int day, .int 8, .int ((va_up (va_up fv a (upd (fv a) 11 (day + 1))) a (upd ((va_up fv a (upd (fv a) 11 (day + 1))) a) 12 (((va_up fv a (upd (fv a) 11 (day + 1))) a 11) + days))) a 0), .int ((va_up (va_up fv a (upd (fv a) 11 (day + 1))) a (upd ((va_up fv a (upd (fv a) 11 (day + 1))) a) 12 (((va_up fv a (upd (fv a) 11 (day + 1))) a 11) + days))) a 11)]) (rest := []) hx hb hown (hts _ w_376) (hts _ w_377) (hts _ w_378) (hts _ w_379) ⟨by decide, by decide⟩ (t_recv (q0 := 3) hC rfl rfl) rfl d_V_fetch_83) (c_G_write hw9) zz_c tb_good hts w_6 hC (hl.1.trans hml.symm) ⟨Nat.le_of_ble_eq_true rfl, Nat.le_of_ble_eq_true rfl, Nat.le_of_ble_eq_true rfl, Nat.le_of_ble_eq_true rfl⟩ (Nat.le_of_ble_eq_true rfl) (fun E q ce w1 H1 l1 hp => hp.elim) (fun v w1 H locs hp hC => ?_)
          obtain ⟨rfl, rfl⟩ := hp
          have hC : tC D cls (ty0 ca) A (zz e0 A) s (wC K ca RL LP (va_up (va_up fv a (upd (fv a) 11 (day + 1))) a (upd ((va_up fv a (upd (fv a) 11 (day + 1))) a) 12 (((va_up fv a (upd (fv a) 11 (day + 1))) a 11) + days))) FR day ever mo (nI vs.length) ea (nI (w9 + 1)) ((lg_wr (ring, w9, ch) day 8 ((va_up (va_up fv a (upd (fv a) 11 (day + 1))) a (upd ((va_up fv a (upd (fv a) 11 (day + 1))) a) 12 (((va_up fv a (upd (fv a) 11 (day + 1))) a 11) + days))) a 0) ((va_up (va_up fv a (upd (fv a) 11 (day + 1))) a (upd ((va_up fv a (upd (fv a) 11 (day + 1))) a) 12 (((va_up fv a (upd (fv a) 11 (day + 1))) a 11) + days))) a 11)).2.2) ((lg_wr (ring, w9, ch) day 8 ((va_up (va_up fv a (upd (fv a) 11 (day + 1))) a (upd ((va_up fv a (upd (fv a) 11 (day + 1))) a) 12 (((va_up fv a (upd (fv a) 11 (day + 1))) a 11) + days))) a 0) ((va_up (va_up fv a (upd (fv a) 11 (day + 1))) a (upd ((va_up fv a (upd (fv a) 11 (day + 1))) a) 12 (((va_up fv a (upd (fv a) 11 (day + 1))) a 11) + days))) a 11)).1) (eo ++ rest)) H locs := hC
          refine W.eq (g2 := F0 m 86 ls []) rfl ?_
          refine lv_aload_n hx hb d_V_fetch_86 rfl (lv_at hl 0 rfl) ?_
          refine t_getP hx hb hts inN hown hC ha rfl 11 (by decide) (hts _ w_258) (fun _ h => h) d_V_fetch_87 ?_
          exact t_iret hx hb hr hlk zz_c hC (⟨a, hfa, hob, Classical.not_not.mp (fun q => hdem (bI_ne.mpr q)), Classical.not_not.mp (fun q => c20 (bI_ne.mpr q)), by rw [if_neg c43]; simp only [up_twice, va_up_self]; rfl, by rw [if_neg c43]; simp only [up_twice, va_up_self]; rfl⟩) (Nat.le_of_ble_eq_true rfl) (Nat.le_of_ble_eq_true rfl) d_V_fetch_90
        · skip
          refine lv_iconst (v := 3) hx hb d_V_fetch_46 (by decide) ?_
          refine lv_goto (tgt := 51) hx hb d_V_fetch_47 (by decide) ?_
          refine lv_iadd hx hb d_V_fetch_51 ?_
          refine t_putP (ty := .int) hx hb hts inN TN tyN nmN hown hC ha rfl 11 (by decide) (hts _ w_258) (fun _ h => h) (Or.inl rfl) (by decide +kernel) rfl rfl d_V_fetch_52 (fun H locs hC => ?_)
          have hC : tC D cls (ty0 ca) A (zz e0 A) s (wC K ca RL LP (va_up fv a (upd (fv a) 11 (day + 3))) FR day ever mo (nI vs.length) ea (nI w9) ch ring (eo ++ rest)) H locs := hC
          refine lv_aload_n hx hb d_V_fetch_55 rfl (lv_at hl 0 rfl) ?_
          refine lv_aload_n hx hb d_V_fetch_56 rfl (lv_at hl 0 rfl) ?_
          refine t_getP hx hb hts inN hown hC ha rfl 11 (by decide) (hts _ w_258) (fun _ h => h) d_V_fetch_57 ?_
          refine lv_iload_n hx hb d_V_fetch_60 rfl (lv_at hl 3 rfl) ?_
          refine lv_iadd hx hb d_V_fetch_61 ?_
          refine t_putP (ty := .int) hx hb hts inN TN tyN nmN hown hC ha rfl 12 (by decide) (hts _ w_260) (fun _ h => h) (Or.inl rfl) (by decide +kernel) rfl rfl d_V_fetch_62 (fun H locs hC => ?_)
          have hC : tC D cls (ty0 ca) A (zz e0 A) s (wC K ca RL LP (va_up (va_up fv a (upd (fv a) 11 (day + 3))) a (upd ((va_up fv a (upd (fv a) 11 (day + 3))) a) 12 (((va_up fv a (upd (fv a) 11 (day + 3))) a 11) + days))) FR day ever mo (nI vs.length) ea (nI w9) ch ring (eo ++ rest)) H locs := hC
          refine lv_aload_n hx hb d_V_fetch_65 rfl (lv_at hl 1 rfl) ?_
          refine t_get (v := .ref (K 3)) hx hb hts inV hown hC 0 rfl rfl 2 (by decide) (hts _ w_99) (fun _ h => h) rfl d_V_fetch_66 ?_
          refine lv_aload_n hx hb d_V_fetch_69 rfl (lv_at hl 1 rfl) ?_
          refine t_get (v := .int day) hx hb hts inV hown hC 0 rfl rfl 3 (by decide) (hts _ w_100) (fun _ h => h) rfl d_V_fetch_70 ?_
          refine lv_bipush (v := 8) hx hb d_V_fetch_73 (by decide) ?_
          refine lv_aload_n hx hb d_V_fetch_75 rfl (lv_at hl 0 rfl) ?_
          refine t_getP hx hb hts inN hown hC ha rfl 0 (by decide) (hts _ w_237) (fun _ h => h) d_V_fetch_76 ?_
          refine lv_aload_n hx hb d_V_fetch_79 rfl (lv_at hl 0 rfl) ?_
          refine t_getP hx hb hts inN hown hC ha rfl 11 (by decide) (hts _ w_258) (fun _ h => h) d_V_fetch_80 ?_
          refine t_call (t_invV (As := [.int day, .int 8, .int ((va_up (va_up fv a (upd (fv a) 11 (day + 3))) a (upd ((va_up fv a (upd (fv a) 11 (day + 3))) a) 12 (((va_up fv a (upd (fv a) 11 (day + 3))) a 11) + days))) a 0), .int ((va_up (va_up fv a (upd (fv a) 11 (day + 3))) a (upd ((va_up fv a (upd (fv a) 11 (day + 3))) a) 12 (((va_up fv a (upd (fv a) 11 (day + 3))) a 11) + days))) a 11)]) (rest := []) hx hb hown (hts _ w_376) (hts _ w_377) (hts _ w_378) (hts _ w_379) ⟨by decide, by decide⟩ (t_recv (q0 := 3) hC rfl rfl) rfl d_V_fetch_83) (c_G_write hw9) zz_c tb_good hts w_6 hC (hl.1.trans hml.symm) ⟨Nat.le_of_ble_eq_true rfl, Nat.le_of_ble_eq_true rfl, Nat.le_of_ble_eq_true rfl, Nat.le_of_ble_eq_true rfl⟩ (Nat.le_of_ble_eq_true rfl) (fun E q ce w1 H1 l1 hp => hp.elim) (fun v w1 H locs hp hC => ?_)
          obtain ⟨rfl, rfl⟩ := hp
          have hC : tC D cls (ty0 ca) A (zz e0 A) s (wC K ca RL LP (va_up (va_up fv a (upd (fv a) 11 (day + 3))) a (upd ((va_up fv a (upd (fv a) 11 (day + 3))) a) 12 (((va_up fv a (upd (fv a) 11 (day + 3))) a 11) + days))) FR day ever mo (nI vs.length) ea (nI (w9 + 1)) ((lg_wr (ring, w9, ch) day 8 ((va_up (va_up fv a (upd (fv a) 11 (day + 3))) a (upd ((va_up fv a (upd (fv a) 11 (day + 3))) a) 12 (((va_up fv a (upd (fv a) 11 (day + 3))) a 11) + days))) a 0) ((va_up (va_up fv a (upd (fv a) 11 (day + 3))) a (upd ((va_up fv a (upd (fv a) 11 (day + 3))) a) 12 (((va_up fv a (upd (fv a) 11 (day + 3))) a 11) + days))) a 11)).2.2) ((lg_wr (ring, w9, ch) day 8 ((va_up (va_up fv a (upd (fv a) 11 (day + 3))) a (upd ((va_up fv a (upd (fv a) 11 (day + 3))) a) 12 (((va_up fv a (upd (fv a) 11 (day + 3))) a 11) + days))) a 0) ((va_up (va_up fv a (upd (fv a) 11 (day + 3))) a (upd ((va_up fv a (upd (fv a) 11 (day + 3))) a) 12 (((va_up fv a (upd (fv a) 11 (day + 3))) a 11) + days))) a 11)).1) (eo ++ rest)) H locs := hC
          refine W.eq (g2 := F0 m 86 ls []) rfl ?_
          refine lv_aload_n hx hb d_V_fetch_86 rfl (lv_at hl 0 rfl) ?_
          refine t_getP hx hb hts inN hown hC ha rfl 11 (by decide) (hts _ w_258) (fun _ h => h) d_V_fetch_87 ?_
          exact t_iret hx hb hr hlk zz_c hC (⟨a, hfa, hob, Classical.not_not.mp (fun q => hdem (bI_ne.mpr q)), Classical.not_not.mp (fun q => c20 (bI_ne.mpr q)), by rw [if_pos c43]; simp only [up_twice, va_up_self]; rfl, by rw [if_pos c43]; simp only [up_twice, va_up_self]; rfl⟩) (Nat.le_of_ble_eq_true rfl) (Nat.le_of_ble_eq_true rfl) d_V_fetch_90
      · skip
        exact t_throw (by9 := prog_11_method_2_code) (ix := 7) (Y9 := "java/lang/RuntimeException") (r9 := ["java/lang/Exception"]) (text := "the object is not cold") hx hb hst (by decide +kernel) (by decide +kernel) (by decide +kernel) (by decide +kernel) hown tb_good hts (by decide) (by decide) (by decide) w_214 w_12 (zz_str hC.2.2.2.2.2 (by decide +kernel)) at_ISE zz_c zz_X4 hC (hl.1.trans hml.symm) hex hlk d_V_fetch_23 d_V_fetch_26 d_V_fetch_27 d_V_fetch_29 d_V_fetch_32 ⟨Nat.le_of_ble_eq_true rfl, Nat.le_of_ble_eq_true rfl, Nat.le_of_ble_eq_true rfl, Nat.le_of_ble_eq_true rfl⟩ (Nat.le_of_ble_eq_true rfl) (Nat.le_of_ble_eq_true rfl) (⟨rfl, Or.inr ⟨a, hfa, hob, Or.inr ⟨rfl, Classical.not_not.mp (fun q => hdem (bI_ne.mpr q)), bI_ne.mp c20⟩⟩⟩)

set_option maxRecDepth 100000 in
set_option maxHeartbeats 4000000 in
theorem c_V_hold {l : Launch} (hst : l.stackTraces = false) {D : va_G} {A : Nat → Prop} {e0 : Nat → Nat} {K : Nat → Nat} {ca : Nat → ClassId} {RL LP : List Nat} {fv FR : Nat → RW} {day ever mo : Int32} {ea : Nat} {ch : Int64} {ring : Nat → Int32} {rest : va_W} {vs : List Nat} {eo : va_W} (hI : cI e0 ca vs LP ea eo) {w9 : Nat} (hw9 : w9 < 2 ^ 31) {number ho9 on9 : Int32} : tM l y_V_hold tb ({ frames := 8, cells := 3, slots := 18, locals := 135 }) D cls (ty0 ca) A (zz e0 A) [.ref (K 0), .int number, .int ho9, .int on9] (wC K ca RL LP fv FR day ever mo (nI vs.length) ea (nI w9) ch ring (eo ++ rest)) (fun v w2 => ∃ a, vs.find? (fun a => decide (fv a 0 = number)) = some a ∧ fv a 5 ≠ -1 ∧ (0 ≤ ho9 ∧ ho9 ≤ 7) ∧ ((bI (fv a 10 &&& (1 <<< (ho9 &&& 31)) ≠ 0) = on9 ∧ v = some (.int 0) ∧ w2 = wC K ca RL LP fv FR day ever mo (nI vs.length) ea (nI w9) ch ring (eo ++ rest)) ∨ (bI (fv a 10 &&& (1 <<< (ho9 &&& 31)) ≠ 0) ≠ on9 ∧ v = some (.int 1) ∧ w2 = wC K ca RL LP (va_up fv a (upd (fv a) 10 (fv a 10 ^^^ (1 <<< (ho9 &&& 31))))) FR day ever mo (nI vs.length) ea (nI (w9 + 1)) ((lg_wr (ring, w9, ch) day (if on9 = 0 then 7 else 6) (fv a 0) ho9).2.2) ((lg_wr (ring, w9, ch) day (if on9 = 0 then 7 else 6) (fv a 0) ho9).1) (eo ++ rest)))) (fun E w2 => w2 = wC K ca RL LP fv FR day ever mo (nI vs.length) ea (nI w9) ch ring (eo ++ rest) ∧ ((E = "java/util/NoSuchElementException" ∧ (vs.find? (fun a => decide (fv a 0 = number)) = none ∨ ∃ a, vs.find? (fun a => decide (fv a 0 = number)) = some a ∧ fv a 5 = -1)) ∨ (∃ a, vs.find? (fun a => decide (fv a 0 = number)) = some a ∧ fv a 5 ≠ -1 ∧ E = "java/lang/IllegalArgumentException" ∧ ¬ (0 ≤ ho9 ∧ ho9 ≤ 7)))) := by
  refine t_ofW (by decide) w_474 (Nat.le_of_ble_eq_true rfl) ?_
  intro p e s m below meth c ls hx hb hr hts hown hlk hnm hml hex hl hC
  have hown : s.vm.findClass "RetentionVault" = some m.cls := hown
  have hl : lv_has ls 7 [(0, .ref (K 0)), (1, .int number), (2, .int ho9), (3, .int on9)] := hl
  obtain ⟨hLR, hvL, hnd, h40⟩ := hI
  refine lv_aload_n hx hb d_V_hold_0 rfl (lv_at hl 0 rfl) ?_
  refine lv_iload_n hx hb d_V_hold_1 rfl (lv_at hl 1 rfl) ?_
  refine t_call (t_invV (As := [.int number]) (rest := []) hx hb hown (hts _ w_462) (hts _ w_464) (hts _ s_V_objectNumbered) (hts _ w_465) ⟨by decide, by decide⟩ (t_recv (q0 := 0) hC rfl rfl) rfl d_V_hold_2) (c_V_objectNumbered hst ⟨hLR, hvL, hnd, h40⟩) zz_c tb_good hts w_1 hC (hl.1.trans hml.symm) ⟨Nat.le_of_ble_eq_true rfl, Nat.le_of_ble_eq_true rfl, Nat.le_of_ble_eq_true rfl, Nat.le_of_ble_eq_true rfl⟩ (Nat.le_of_ble_eq_true rfl) (fun E q9 ce w1 H locs hp hC hce hcv hcl => ?_) (fun v w1 H locs hp hC => ?_)
  · skip
    obtain ⟨rfl, hwe9, hfa⟩ := hp
    rw [hwe9] at hC
    have hC : tC D cls (ty0 ca) A (zz e0 A) s (wC K ca RL LP fv FR day ever mo (nI vs.length) ea (nI w9) ch ring (eo ++ rest)) H locs := hC
    exact t_out (fun x h => (hex x h).elim) hlk zz_c hC hce hcv hcl (⟨rfl, Or.inl ⟨rfl, hfa⟩⟩) (Nat.le_of_ble_eq_true rfl) (Nat.le_of_ble_eq_true rfl)
  · skip
    obtain ⟨a, hfa, hob, rfl, hwe9⟩ := hp
    rw [hwe9] at hC
    have ha : a ∈ LP := hvL a (List.mem_of_find?_eq_some hfa)
    have hC : tC D cls (ty0 ca) A (zz e0 A) s (wC K ca RL LP fv FR day ever mo (nI vs.length) ea (nI w9) ch ring (eo ++ rest)) H locs := hC
    refine W.eq (g2 := F0 m 5 ls [.ref a]) rfl ?_
    refine lv_astore (lv' := [(4, .ref a), (0, .ref (K 0)), (1, .int number), (2, .int ho9), (3, .int on9)]) hx hb d_V_hold_5 hl (by decide) rfl (fun ls hl => ?_)
    refine lv_iload_n hx hb d_V_hold_7 rfl (lv_at hl 3 rfl) ?_
    refine lv_iconst (v := 0) hx hb d_V_hold_8 (by decide) ?_
    refine lv_bipush (v := 7) hx hb d_V_hold_9 (by decide) ?_
    refine t_call (t_invS (As := [.int ho9, .int 0, .int 7]) (rest := []) hx hb hown (hts _ w_127) (hts _ w_128) (hts _ w_1) (hts _ w_129) ⟨by decide, by decide⟩ rfl d_V_hold_11) (c_V_isWithin zz_c) zz_c tb_good hts w_1 hC (hl.1.trans hml.symm) ⟨Nat.le_of_ble_eq_true rfl, Nat.le_of_ble_eq_true rfl, Nat.le_of_ble_eq_true rfl, Nat.le_of_ble_eq_true rfl⟩ (Nat.le_of_ble_eq_true rfl) (fun E q ce w1 H1 l1 hp => hp.elim) (fun v w1 H locs hp hC => ?_)
    obtain ⟨rfl, hwe9⟩ := hp
    rw [hwe9] at hC
    have hC : tC D cls (ty0 ca) A (zz e0 A) s (wC K ca RL LP fv FR day ever mo (nI vs.length) ea (nI w9) ch ring (eo ++ rest)) H locs := hC
    refine W.eq (g2 := F0 m 14 ls [.int (bI (0 ≤ ho9 ∧ ho9 ≤ 7))]) rfl ?_
    refine t_call (t_invS (As := [.int (bI (0 ≤ ho9 ∧ ho9 ≤ 7))]) (rest := []) hx hb hown (hts _ w_130) (hts _ w_131) (hts _ w_1) (hts _ w_132) ⟨by decide, by decide⟩ rfl d_V_hold_14) (c_V_demand hst) zz_c tb_good hts w_1 hC (hl.1.trans hml.symm) ⟨Nat.le_of_ble_eq_true rfl, Nat.le_of_ble_eq_true rfl, Nat.le_of_ble_eq_true rfl, Nat.le_of_ble_eq_true rfl⟩ (Nat.le_of_ble_eq_true rfl) (fun E q9 ce w1 H locs hp hC hce hcv hcl => ?_) (fun v w1 H locs hp hC => ?_)
    · skip
      obtain ⟨rfl, hwe9, hdem⟩ := hp
      rw [hwe9] at hC
      have hC : tC D cls (ty0 ca) A (zz e0 A) s (wC K ca RL LP fv FR day ever mo (nI vs.length) ea (nI w9) ch ring (eo ++ rest)) H locs := hC
      exact t_out (fun x h => (hex x h).elim) hlk zz_c hC hce hcv hcl (⟨rfl, Or.inr ⟨a, hfa, hob, rfl, bI_ne.mp hdem⟩⟩) (Nat.le_of_ble_eq_true rfl) (Nat.le_of_ble_eq_true rfl)
    · skip
      obtain ⟨rfl, hwe9, hdem⟩ := hp
      rw [hwe9] at hC
      have hC : tC D cls (ty0 ca) A (zz e0 A) s (wC K ca RL LP fv FR day ever mo (nI vs.length) ea (nI w9) ch ring (eo ++ rest)) H locs := hC
      refine W.eq (g2 := F0 m 17 ls []) rfl ?_
      refine lv_iconst (v := 1) hx hb d_V_hold_17 (by decide) ?_
      refine lv_iload_n hx hb d_V_hold_18 rfl (lv_at hl 3 rfl) ?_
      refine lv_ishl hx hb d_V_hold_19 ?_
      refine lv_istore (lv' := [(5, .int (1 <<< (ho9 &&& 31))), (4, .ref a), (0, .ref (K 0)), (1, .int number), (2, .int ho9), (3, .int on9)]) hx hb d_V_hold_20 hl (by decide) rfl (fun ls hl => ?_)
      refine lv_aload hx hb d_V_hold_22 (lv_at hl 1 rfl) ?_
      refine t_getP hx hb hts inN hown hC ha rfl 10 (by decide) (hts _ w_257) (fun _ h => h) d_V_hold_24 ?_
      refine lv_iload hx hb d_V_hold_27 (lv_at hl 0 rfl) ?_
      refine lv_iand hx hb d_V_hold_29 ?_
      refine lv_if_eq (tgt := 37) hx hb d_V_hold_30 (by decide) (fun c30 => ?_) (fun c30 => ?_)
      · skip
        refine lv_iconst (v := 0) hx hb d_V_hold_37 (by decide) ?_
        refine lv_istore (lv' := [(6, .int 0), (5, .int (1 <<< (ho9 &&& 31))), (4, .ref a), (0, .ref (K 0)), (1, .int number), (2, .int ho9), (3, .int on9)]) hx hb d_V_hold_38 hl (by decide) rfl (fun ls hl => ?_)
        refine lv_iload hx hb d_V_hold_40 (lv_at hl 0 rfl) ?_
        refine lv_iload_n hx hb d_V_hold_42 rfl (lv_at hl 6 rfl) ?_
        refine lv_icmp_ne (tgt := 48) hx hb d_V_hold_43 (by decide) (fun c43 => ?_) (fun c43 => ?_)
        · skip
          refine lv_aload hx hb d_V_hold_48 (lv_at hl 2 rfl) ?_
          refine lv_dup hx hb d_V_hold_50 rfl ?_
          refine t_getP hx hb hts inN hown hC ha rfl 10 (by decide) (hts _ w_257) (fun _ h => h) d_V_hold_51 ?_
          refine lv_iload hx hb d_V_hold_54 (lv_at hl 1 rfl) ?_
          refine lv_ixor hx hb d_V_hold_56 ?_
          refine t_putP (ty := .int) hx hb hts inN TN tyN nmN hown hC ha rfl 10 (by decide) (hts _ w_257) (fun _ h => h) (Or.inl rfl) (by decide +kernel) rfl rfl d_V_hold_57 (fun H locs hC => ?_)
          have hC : tC D cls (ty0 ca) A (zz e0 A) s (wC K ca RL LP (va_up fv a (upd (fv a) 10 ((fv a 10) ^^^ (1 <<< (ho9 &&& 31))))) FR day ever mo (nI vs.length) ea (nI w9) ch ring (eo ++ rest)) H locs := hC
          refine lv_aload_n hx hb d_V_hold_60 rfl (lv_at hl 3 rfl) ?_
          refine t_get (v := .ref (K 3)) hx hb hts inV hown hC 0 rfl rfl 2 (by decide) (hts _ w_99) (fun _ h => h) rfl d_V_hold_61 ?_
          refine lv_aload_n hx hb d_V_hold_64 rfl (lv_at hl 3 rfl) ?_
          refine t_get (v := .int day) hx hb hts inV hown hC 0 rfl rfl 3 (by decide) (hts _ w_100) (fun _ h => h) rfl d_V_hold_65 ?_
          refine lv_iload_n hx hb d_V_hold_68 rfl (lv_at hl 6 rfl) ?_
          refine lv_if_eq (tgt := 77) hx hb d_V_hold_69 (by decide) (fun c69 => ?_) (fun c69 => ?_)
          · skip
            refine lv_bipush (v := 7) hx hb d_V_hold_77 (by decide) ?_
            refine lv_aload hx hb d_V_hold_79 (lv_at hl 2 rfl) ?_
            refine t_getP hx hb hts inN hown hC ha rfl 0 (by decide) (hts _ w_237) (fun _ h => h) d_V_hold_81 ?_
            refine lv_iload_n hx hb d_V_hold_84 rfl (lv_at hl 5 rfl) ?_
            refine t_call (t_invV (As := [.int day, .int 7, .int ((va_up fv a (upd (fv a) 10 ((fv a 10) ^^^ (1 <<< (ho9 &&& 31))))) a 0), .int ho9]) (rest := []) hx hb hown (hts _ w_376) (hts _ w_377) (hts _ w_378) (hts _ w_379) ⟨by decide, by decide⟩ (t_recv (q0 := 3) hC rfl rfl) rfl d_V_hold_85) (c_G_write hw9) zz_c tb_good hts w_6 hC (hl.1.trans hml.symm) ⟨Nat.le_of_ble_eq_true rfl, Nat.le_of_ble_eq_true rfl, Nat.le_of_ble_eq_true rfl, Nat.le_of_ble_eq_true rfl⟩ (Nat.le_of_ble_eq_true rfl) (fun E q ce w1 H1 l1 hp => hp.elim) (fun v w1 H locs hp hC => ?_)
            obtain ⟨rfl, rfl⟩ := hp
            have hC : tC D cls (ty0 ca) A (zz e0 A) s (wC K ca RL LP (va_up fv a (upd (fv a) 10 ((fv a 10) ^^^ (1 <<< (ho9 &&& 31))))) FR day ever mo (nI vs.length) ea (nI (w9 + 1)) ((lg_wr (ring, w9, ch) day 7 ((va_up fv a (upd (fv a) 10 ((fv a 10) ^^^ (1 <<< (ho9 &&& 31))))) a 0) ho9).2.2) ((lg_wr (ring, w9, ch) day 7 ((va_up fv a (upd (fv a) 10 ((fv a 10) ^^^ (1 <<< (ho9 &&& 31))))) a 0) ho9).1) (eo ++ rest)) H locs := hC
            refine W.eq (g2 := F0 m 88 ls []) rfl ?_
            refine lv_iconst (v := 1) hx hb d_V_hold_88 (by decide) ?_
            exact t_zret hx hb hr hlk (Or.inr rfl) zz_c hC (⟨a, hfa, hob, Classical.not_not.mp (fun q => hdem (bI_ne.mpr q)), Or.inr ⟨fun h => c43 ((bI_f (q := fv a 10 &&& (1 <<< (ho9 &&& 31)) ≠ 0) (fun h => h c30)).symm.trans h), rfl, by rw [if_pos c69]; simp only [up_twice, va_up_self]; rfl⟩⟩) (Nat.le_of_ble_eq_true rfl) (Nat.le_of_ble_eq_true rfl) d_V_hold_89
          · skip
            refine lv_bipush (v := 6) hx hb d_V_hold_72 (by decide) ?_
            refine lv_goto (tgt := 79) hx hb d_V_hold_74 (by decide) ?_
            refine lv_aload hx hb d_V_hold_79 (lv_at hl 2 rfl) ?_
            refine t_getP hx hb hts inN hown hC ha rfl 0 (by decide) (hts _ w_237) (fun _ h => h) d_V_hold_81 ?_
            refine lv_iload_n hx hb d_V_hold_84 rfl (lv_at hl 5 rfl) ?_
            refine t_call (t_invV (As := [.int day, .int 6, .int ((va_up fv a (upd (fv a) 10 ((fv a 10) ^^^ (1 <<< (ho9 &&& 31))))) a 0), .int ho9]) (rest := []) hx hb hown (hts _ w_376) (hts _ w_377) (hts _ w_378) (hts _ w_379) ⟨by decide, by decide⟩ (t_recv (q0 := 3) hC rfl rfl) rfl d_V_hold_85) (c_G_write hw9) zz_c tb_good hts w_6 hC (hl.1.trans hml.symm) ⟨Nat.le_of_ble_eq_true rfl, Nat.le_of_ble_eq_true rfl, Nat.le_of_ble_eq_true rfl, Nat.le_of_ble_eq_true rfl⟩ (Nat.le_of_ble_eq_true rfl) (fun E q ce w1 H1 l1 hp => hp.elim) (fun v w1 H locs hp hC => ?_)
            obtain ⟨rfl, rfl⟩ := hp
            have hC : tC D cls (ty0 ca) A (zz e0 A) s (wC K ca RL LP (va_up fv a (upd (fv a) 10 ((fv a 10) ^^^ (1 <<< (ho9 &&& 31))))) FR day ever mo (nI vs.length) ea (nI (w9 + 1)) ((lg_wr (ring, w9, ch) day 6 ((va_up fv a (upd (fv a) 10 ((fv a 10) ^^^ (1 <<< (ho9 &&& 31))))) a 0) ho9).2.2) ((lg_wr (ring, w9, ch) day 6 ((va_up fv a (upd (fv a) 10 ((fv a 10) ^^^ (1 <<< (ho9 &&& 31))))) a 0) ho9).1) (eo ++ rest)) H locs := hC
            refine W.eq (g2 := F0 m 88 ls []) rfl ?_
            refine lv_iconst (v := 1) hx hb d_V_hold_88 (by decide) ?_
            exact t_zret hx hb hr hlk (Or.inr rfl) zz_c hC (⟨a, hfa, hob, Classical.not_not.mp (fun q => hdem (bI_ne.mpr q)), Or.inr ⟨fun h => c43 ((bI_f (q := fv a 10 &&& (1 <<< (ho9 &&& 31)) ≠ 0) (fun h => h c30)).symm.trans h), rfl, by rw [if_neg c69]; simp only [up_twice, va_up_self]; rfl⟩⟩) (Nat.le_of_ble_eq_true rfl) (Nat.le_of_ble_eq_true rfl) d_V_hold_89
        · skip
          refine lv_iconst (v := 0) hx hb d_V_hold_46 (by decide) ?_
          exact t_zret hx hb hr hlk (Or.inl rfl) zz_c hC (⟨a, hfa, hob, Classical.not_not.mp (fun q => hdem (bI_ne.mpr q)), Or.inl ⟨(bI_f (q := fv a 10 &&& (1 <<< (ho9 &&& 31)) ≠ 0) (fun h => h c30)).trans c43, rfl, rfl⟩⟩) (Nat.le_of_ble_eq_true rfl) (Nat.le_of_ble_eq_true rfl) d_V_hold_47
      · skip
        refine lv_iconst (v := 1) hx hb d_V_hold_33 (by decide) ?_
        refine lv_goto (tgt := 38) hx hb d_V_hold_34 (by decide) ?_
        refine lv_istore (lv' := [(6, .int 1), (5, .int (1 <<< (ho9 &&& 31))), (4, .ref a), (0, .ref (K 0)), (1, .int number), (2, .int ho9), (3, .int on9)]) hx hb d_V_hold_38 hl (by decide) rfl (fun ls hl => ?_)
        refine lv_iload hx hb d_V_hold_40 (lv_at hl 0 rfl) ?_
        refine lv_iload_n hx hb d_V_hold_42 rfl (lv_at hl 6 rfl) ?_
        refine lv_icmp_ne (tgt := 48) hx hb d_V_hold_43 (by decide) (fun c43 => ?_) (fun c43 => ?_)
        · skip
          refine lv_aload hx hb d_V_hold_48 (lv_at hl 2 rfl) ?_
          refine lv_dup hx hb d_V_hold_50 rfl ?_
          refine t_getP hx hb hts inN hown hC ha rfl 10 (by decide) (hts _ w_257) (fun _ h => h) d_V_hold_51 ?_
          refine lv_iload hx hb d_V_hold_54 (lv_at hl 1 rfl) ?_
          refine lv_ixor hx hb d_V_hold_56 ?_
          refine t_putP (ty := .int) hx hb hts inN TN tyN nmN hown hC ha rfl 10 (by decide) (hts _ w_257) (fun _ h => h) (Or.inl rfl) (by decide +kernel) rfl rfl d_V_hold_57 (fun H locs hC => ?_)
          have hC : tC D cls (ty0 ca) A (zz e0 A) s (wC K ca RL LP (va_up fv a (upd (fv a) 10 ((fv a 10) ^^^ (1 <<< (ho9 &&& 31))))) FR day ever mo (nI vs.length) ea (nI w9) ch ring (eo ++ rest)) H locs := hC
          refine lv_aload_n hx hb d_V_hold_60 rfl (lv_at hl 3 rfl) ?_
          refine t_get (v := .ref (K 3)) hx hb hts inV hown hC 0 rfl rfl 2 (by decide) (hts _ w_99) (fun _ h => h) rfl d_V_hold_61 ?_
          refine lv_aload_n hx hb d_V_hold_64 rfl (lv_at hl 3 rfl) ?_
          refine t_get (v := .int day) hx hb hts inV hown hC 0 rfl rfl 3 (by decide) (hts _ w_100) (fun _ h => h) rfl d_V_hold_65 ?_
          refine lv_iload_n hx hb d_V_hold_68 rfl (lv_at hl 6 rfl) ?_
          refine lv_if_eq (tgt := 77) hx hb d_V_hold_69 (by decide) (fun c69 => ?_) (fun c69 => ?_)
          · skip
            refine lv_bipush (v := 7) hx hb d_V_hold_77 (by decide) ?_
            refine lv_aload hx hb d_V_hold_79 (lv_at hl 2 rfl) ?_
            refine t_getP hx hb hts inN hown hC ha rfl 0 (by decide) (hts _ w_237) (fun _ h => h) d_V_hold_81 ?_
            refine lv_iload_n hx hb d_V_hold_84 rfl (lv_at hl 5 rfl) ?_
            refine t_call (t_invV (As := [.int day, .int 7, .int ((va_up fv a (upd (fv a) 10 ((fv a 10) ^^^ (1 <<< (ho9 &&& 31))))) a 0), .int ho9]) (rest := []) hx hb hown (hts _ w_376) (hts _ w_377) (hts _ w_378) (hts _ w_379) ⟨by decide, by decide⟩ (t_recv (q0 := 3) hC rfl rfl) rfl d_V_hold_85) (c_G_write hw9) zz_c tb_good hts w_6 hC (hl.1.trans hml.symm) ⟨Nat.le_of_ble_eq_true rfl, Nat.le_of_ble_eq_true rfl, Nat.le_of_ble_eq_true rfl, Nat.le_of_ble_eq_true rfl⟩ (Nat.le_of_ble_eq_true rfl) (fun E q ce w1 H1 l1 hp => hp.elim) (fun v w1 H locs hp hC => ?_)
            obtain ⟨rfl, rfl⟩ := hp
            have hC : tC D cls (ty0 ca) A (zz e0 A) s (wC K ca RL LP (va_up fv a (upd (fv a) 10 ((fv a 10) ^^^ (1 <<< (ho9 &&& 31))))) FR day ever mo (nI vs.length) ea (nI (w9 + 1)) ((lg_wr (ring, w9, ch) day 7 ((va_up fv a (upd (fv a) 10 ((fv a 10) ^^^ (1 <<< (ho9 &&& 31))))) a 0) ho9).2.2) ((lg_wr (ring, w9, ch) day 7 ((va_up fv a (upd (fv a) 10 ((fv a 10) ^^^ (1 <<< (ho9 &&& 31))))) a 0) ho9).1) (eo ++ rest)) H locs := hC
            refine W.eq (g2 := F0 m 88 ls []) rfl ?_
            refine lv_iconst (v := 1) hx hb d_V_hold_88 (by decide) ?_
            exact t_zret hx hb hr hlk (Or.inr rfl) zz_c hC (⟨a, hfa, hob, Classical.not_not.mp (fun q => hdem (bI_ne.mpr q)), Or.inr ⟨fun h => c43 ((bI_t (q := fv a 10 &&& (1 <<< (ho9 &&& 31)) ≠ 0) c30).symm.trans h), rfl, by rw [if_pos c69]; simp only [up_twice, va_up_self]; rfl⟩⟩) (Nat.le_of_ble_eq_true rfl) (Nat.le_of_ble_eq_true rfl) d_V_hold_89
          · skip
            refine lv_bipush (v := 6) hx hb d_V_hold_72 (by decide) ?_
            refine lv_goto (tgt := 79) hx hb d_V_hold_74 (by decide) ?_
            refine lv_aload hx hb d_V_hold_79 (lv_at hl 2 rfl) ?_
            refine t_getP hx hb hts inN hown hC ha rfl 0 (by decide) (hts _ w_237) (fun _ h => h) d_V_hold_81 ?_
            refine lv_iload_n hx hb d_V_hold_84 rfl (lv_at hl 5 rfl) ?_
            refine t_call (t_invV (As := [.int day, .int 6, .int ((va_up fv a (upd (fv a) 10 ((fv a 10) ^^^ (1 <<< (ho9 &&& 31))))) a 0), .int ho9]) (rest := []) hx hb hown (hts _ w_376) (hts _ w_377) (hts _ w_378) (hts _ w_379) ⟨by decide, by decide⟩ (t_recv (q0 := 3) hC rfl rfl) rfl d_V_hold_85) (c_G_write hw9) zz_c tb_good hts w_6 hC (hl.1.trans hml.symm) ⟨Nat.le_of_ble_eq_true rfl, Nat.le_of_ble_eq_true rfl, Nat.le_of_ble_eq_true rfl, Nat.le_of_ble_eq_true rfl⟩ (Nat.le_of_ble_eq_true rfl) (fun E q ce w1 H1 l1 hp => hp.elim) (fun v w1 H locs hp hC => ?_)
            obtain ⟨rfl, rfl⟩ := hp
            have hC : tC D cls (ty0 ca) A (zz e0 A) s (wC K ca RL LP (va_up fv a (upd (fv a) 10 ((fv a 10) ^^^ (1 <<< (ho9 &&& 31))))) FR day ever mo (nI vs.length) ea (nI (w9 + 1)) ((lg_wr (ring, w9, ch) day 6 ((va_up fv a (upd (fv a) 10 ((fv a 10) ^^^ (1 <<< (ho9 &&& 31))))) a 0) ho9).2.2) ((lg_wr (ring, w9, ch) day 6 ((va_up fv a (upd (fv a) 10 ((fv a 10) ^^^ (1 <<< (ho9 &&& 31))))) a 0) ho9).1) (eo ++ rest)) H locs := hC
            refine W.eq (g2 := F0 m 88 ls []) rfl ?_
            refine lv_iconst (v := 1) hx hb d_V_hold_88 (by decide) ?_
            exact t_zret hx hb hr hlk (Or.inr rfl) zz_c hC (⟨a, hfa, hob, Classical.not_not.mp (fun q => hdem (bI_ne.mpr q)), Or.inr ⟨fun h => c43 ((bI_t (q := fv a 10 &&& (1 <<< (ho9 &&& 31)) ≠ 0) c30).symm.trans h), rfl, by rw [if_neg c69]; simp only [up_twice, va_up_self]; rfl⟩⟩) (Nat.le_of_ble_eq_true rfl) (Nat.le_of_ble_eq_true rfl) d_V_hold_89
        · skip
          refine lv_iconst (v := 0) hx hb d_V_hold_46 (by decide) ?_
          exact t_zret hx hb hr hlk (Or.inl rfl) zz_c hC (⟨a, hfa, hob, Classical.not_not.mp (fun q => hdem (bI_ne.mpr q)), Or.inl ⟨(bI_t (q := fv a 10 &&& (1 <<< (ho9 &&& 31)) ≠ 0) c30).trans c43, rfl, rfl⟩⟩) (Nat.le_of_ble_eq_true rfl) (Nat.le_of_ble_eq_true rfl) d_V_hold_47

theorem ru_at {RL : List Nat} (hRL : RL.length = 6) {r : Int32} (h : 0 ≤ r ∧ r ≤ 5) : vp_in r 6 ∧ ∃ u, RL[r.toNatClampNeg]? = some u := by
  obtain ⟨j, hj, rfl⟩ := nI_of2 (x := r) (M := 5) (n := 5) (by decide) (Int32.not_lt.mpr h.1) h.2
  refine ⟨vp_in_nI (by omega) (by decide), ?_⟩
  rw [nI_clamp (by omega)]
  exact ⟨RL[j], List.getElem?_eq_getElem (by omega)⟩

set_option maxRecDepth 100000 in
set_option maxHeartbeats 4000000 in
theorem c_V_rule {l : Launch} (hst : l.stackTraces = false) {D : va_G} {A : Nat → Prop} {e0 : Nat → Nat} {K : Nat → Nat} {ca : Nat → ClassId} {RL LP : List Nat} {fv FR : Nat → RW} {day ever mo : Int32} {ea : Nat} {ch : Int64} {ring : Nat → Int32} {rest : va_W} {vs : List Nat} {eo : va_W} (hI : cI e0 ca vs LP ea eo) {w9 : Nat} (hw9 : w9 < 2 ^ 31) {ru9 tg9 cu9 da9 ac9 : Int32} (hb01 : cu9 = 0 ∨ cu9 = 1) (hRL : RL.length = 6) : tM l y_V_rule tb ({ frames := 7, cells := 2, slots := 12, locals := 110 }) D cls (ty0 ca) A (zz e0 A) [.ref (K 0), .int ru9, .int tg9, .int cu9, .int da9, .int ac9] (wC K ca RL LP fv FR day ever mo (nI vs.length) ea (nI w9) ch ring (eo ++ rest)) (fun v w2 => ((0 ≤ ru9 ∧ ru9 ≤ 5) ∧ (-1 ≤ tg9 ∧ tg9 ≤ 3) ∧ (0 ≤ da9 ∧ da9 ≤ 10000) ∧ (1 ≤ ac9 ∧ ac9 ≤ 4)) ∧ ∃ u, RL[ru9.toNatClampNeg]? = some u ∧ v = none ∧ w2 = wC K ca RL LP fv (va_up FR u (upd (upd (upd (upd (FR u) 0 tg9) 1 cu9) 2 da9) 3 ac9)) day ever mo (nI vs.length) ea (nI (w9 + 1)) ((lg_wr (ring, w9, ch) day 9 ru9 ac9).2.2) ((lg_wr (ring, w9, ch) day 9 ru9 ac9).1) (eo ++ rest)) (fun E w2 => E = "java/lang/IllegalArgumentException" ∧ w2 = wC K ca RL LP fv FR day ever mo (nI vs.length) ea (nI w9) ch ring (eo ++ rest) ∧ ¬ ((0 ≤ ru9 ∧ ru9 ≤ 5) ∧ (-1 ≤ tg9 ∧ tg9 ≤ 3) ∧ (0 ≤ da9 ∧ da9 ≤ 10000) ∧ (1 ≤ ac9 ∧ ac9 ≤ 4))) := by
  refine t_ofW (by decide) w_481 (Nat.le_of_ble_eq_true rfl) ?_
  intro p e s m below meth c ls hx hb hr hts hown hlk hnm hml hex hl hC
  have hown : s.vm.findClass "RetentionVault" = some m.cls := hown
  have hl : lv_has ls 6 [(0, .ref (K 0)), (1, .int ru9), (2, .int tg9), (3, .int cu9), (4, .int da9), (5, .int ac9)] := hl
  obtain ⟨hLR, hvL, hnd, h40⟩ := hI
  refine lv_iload_n hx hb d_V_rule_0 rfl (lv_at hl 1 rfl) ?_
  refine lv_iconst (v := 0) hx hb d_V_rule_1 (by decide) ?_
  refine lv_iconst (v := 5) hx hb d_V_rule_2 (by decide) ?_
  refine t_call (t_invS (As := [.int ru9, .int 0, .int 5]) (rest := []) hx hb hown (hts _ w_127) (hts _ w_128) (hts _ w_1) (hts _ w_129) ⟨by decide, by decide⟩ rfl d_V_rule_3) (c_V_isWithin zz_c) zz_c tb_good hts w_1 hC (hl.1.trans hml.symm) ⟨Nat.le_of_ble_eq_true rfl, Nat.le_of_ble_eq_true rfl, Nat.le_of_ble_eq_true rfl, Nat.le_of_ble_eq_true rfl⟩ (Nat.le_of_ble_eq_true rfl) (fun E q ce w1 H1 l1 hp => hp.elim) (fun v w1 H locs hp hC => ?_)
  obtain ⟨rfl, hwe9⟩ := hp
  rw [hwe9] at hC
  have hC : tC D cls (ty0 ca) A (zz e0 A) s (wC K ca RL LP fv FR day ever mo (nI vs.length) ea (nI w9) ch ring (eo ++ rest)) H locs := hC
  refine W.eq (g2 := F0 m 6 ls [.int (bI (0 ≤ ru9 ∧ ru9 ≤ 5))]) rfl ?_
  refine lv_if_eq (tgt := 22) hx hb d_V_rule_6 (by decide) (fun c6 => ?_) (fun c6 => ?_)
  · skip
    refine lv_iconst (v := 0) hx hb d_V_rule_22 (by decide) ?_
    refine t_call (t_invS (As := [.int 0]) (rest := []) hx hb hown (hts _ w_130) (hts _ w_131) (hts _ w_1) (hts _ w_132) ⟨by decide, by decide⟩ rfl d_V_rule_23) (c_V_demand hst) zz_c tb_good hts w_1 hC (hl.1.trans hml.symm) ⟨Nat.le_of_ble_eq_true rfl, Nat.le_of_ble_eq_true rfl, Nat.le_of_ble_eq_true rfl, Nat.le_of_ble_eq_true rfl⟩ (Nat.le_of_ble_eq_true rfl) (fun E q9 ce w1 H locs hp hC hce hcv hcl => ?_) (fun v w1 H locs hp hC => ?_)
    · skip
      obtain ⟨rfl, hwe9, hdem⟩ := hp
      rw [hwe9] at hC
      have hC : tC D cls (ty0 ca) A (zz e0 A) s (wC K ca RL LP fv FR day ever mo (nI vs.length) ea (nI w9) ch ring (eo ++ rest)) H locs := hC
      exact t_out (fun x h => (hex x h).elim) hlk zz_c hC hce hcv hcl (⟨rfl, rfl, fun h => bI_ne.mp c6 h.1⟩) (Nat.le_of_ble_eq_true rfl) (Nat.le_of_ble_eq_true rfl)
    · skip
      obtain ⟨rfl, hwe9, hdem⟩ := hp
      exact absurd rfl hdem
  · skip
    refine lv_iload_n hx hb d_V_rule_9 rfl (lv_at hl 2 rfl) ?_
    refine lv_iconst (v := (-1)) hx hb d_V_rule_10 (by decide) ?_
    refine lv_iconst (v := 3) hx hb d_V_rule_11 (by decide) ?_
    refine t_call (t_invS (As := [.int tg9, .int (-1), .int 3]) (rest := []) hx hb hown (hts _ w_127) (hts _ w_128) (hts _ w_1) (hts _ w_129) ⟨by decide, by decide⟩ rfl d_V_rule_12) (c_V_isWithin zz_c) zz_c tb_good hts w_1 hC (hl.1.trans hml.symm) ⟨Nat.le_of_ble_eq_true rfl, Nat.le_of_ble_eq_true rfl, Nat.le_of_ble_eq_true rfl, Nat.le_of_ble_eq_true rfl⟩ (Nat.le_of_ble_eq_true rfl) (fun E q ce w1 H1 l1 hp => hp.elim) (fun v w1 H locs hp hC => ?_)
    obtain ⟨rfl, hwe9⟩ := hp
    rw [hwe9] at hC
    have hC : tC D cls (ty0 ca) A (zz e0 A) s (wC K ca RL LP fv FR day ever mo (nI vs.length) ea (nI w9) ch ring (eo ++ rest)) H locs := hC
    refine W.eq (g2 := F0 m 15 ls [.int (bI ((-1) ≤ tg9 ∧ tg9 ≤ 3))]) rfl ?_
    refine lv_if_eq (tgt := 22) hx hb d_V_rule_15 (by decide) (fun c15 => ?_) (fun c15 => ?_)
    · skip
      refine lv_iconst (v := 0) hx hb d_V_rule_22 (by decide) ?_
      refine t_call (t_invS (As := [.int 0]) (rest := []) hx hb hown (hts _ w_130) (hts _ w_131) (hts _ w_1) (hts _ w_132) ⟨by decide, by decide⟩ rfl d_V_rule_23) (c_V_demand hst) zz_c tb_good hts w_1 hC (hl.1.trans hml.symm) ⟨Nat.le_of_ble_eq_true rfl, Nat.le_of_ble_eq_true rfl, Nat.le_of_ble_eq_true rfl, Nat.le_of_ble_eq_true rfl⟩ (Nat.le_of_ble_eq_true rfl) (fun E q9 ce w1 H locs hp hC hce hcv hcl => ?_) (fun v w1 H locs hp hC => ?_)
      · skip
        obtain ⟨rfl, hwe9, hdem⟩ := hp
        rw [hwe9] at hC
        have hC : tC D cls (ty0 ca) A (zz e0 A) s (wC K ca RL LP fv FR day ever mo (nI vs.length) ea (nI w9) ch ring (eo ++ rest)) H locs := hC
        exact t_out (fun x h => (hex x h).elim) hlk zz_c hC hce hcv hcl (⟨rfl, rfl, fun h => bI_ne.mp c15 h.2.1⟩) (Nat.le_of_ble_eq_true rfl) (Nat.le_of_ble_eq_true rfl)
      · skip
        obtain ⟨rfl, hwe9, hdem⟩ := hp
        exact absurd rfl hdem
    · skip
      refine lv_iconst (v := 1) hx hb d_V_rule_18 (by decide) ?_
      refine lv_goto (tgt := 23) hx hb d_V_rule_19 (by decide) ?_
      refine t_call (t_invS (As := [.int 1]) (rest := []) hx hb hown (hts _ w_130) (hts _ w_131) (hts _ w_1) (hts _ w_132) ⟨by decide, by decide⟩ rfl d_V_rule_23) (c_V_demand hst) zz_c tb_good hts w_1 hC (hl.1.trans hml.symm) ⟨Nat.le_of_ble_eq_true rfl, Nat.le_of_ble_eq_true rfl, Nat.le_of_ble_eq_true rfl, Nat.le_of_ble_eq_true rfl⟩ (Nat.le_of_ble_eq_true rfl) (fun E q9 ce w1 H locs hp hC hce hcv hcl => ?_) (fun v w1 H locs hp hC => ?_)
      · skip
        obtain ⟨rfl, hwe9, hdem⟩ := hp
        exact absurd hdem (by decide)
      · skip
        obtain ⟨rfl, hwe9, hdem⟩ := hp
        rw [hwe9] at hC
        have hC : tC D cls (ty0 ca) A (zz e0 A) s (wC K ca RL LP fv FR day ever mo (nI vs.length) ea (nI w9) ch ring (eo ++ rest)) H locs := hC
        refine W.eq (g2 := F0 m 26 ls []) rfl ?_
        refine lv_iload hx hb d_V_rule_26 (lv_at hl 4 rfl) ?_
        refine lv_iconst (v := 0) hx hb d_V_rule_28 (by decide) ?_
        refine lv_sipush (v := 10000) hx hb d_V_rule_29 (by decide) ?_
        refine t_call (t_invS (As := [.int da9, .int 0, .int 10000]) (rest := []) hx hb hown (hts _ w_127) (hts _ w_128) (hts _ w_1) (hts _ w_129) ⟨by decide, by decide⟩ rfl d_V_rule_32) (c_V_isWithin zz_c) zz_c tb_good hts w_1 hC (hl.1.trans hml.symm) ⟨Nat.le_of_ble_eq_true rfl, Nat.le_of_ble_eq_true rfl, Nat.le_of_ble_eq_true rfl, Nat.le_of_ble_eq_true rfl⟩ (Nat.le_of_ble_eq_true rfl) (fun E q ce w1 H1 l1 hp => hp.elim) (fun v w1 H locs hp hC => ?_)
        obtain ⟨rfl, hwe9⟩ := hp
        rw [hwe9] at hC
        have hC : tC D cls (ty0 ca) A (zz e0 A) s (wC K ca RL LP fv FR day ever mo (nI vs.length) ea (nI w9) ch ring (eo ++ rest)) H locs := hC
        refine W.eq (g2 := F0 m 35 ls [.int (bI (0 ≤ da9 ∧ da9 ≤ 10000))]) rfl ?_
        refine lv_if_eq (tgt := 52) hx hb d_V_rule_35 (by decide) (fun c35 => ?_) (fun c35 => ?_)
        · skip
          refine lv_iconst (v := 0) hx hb d_V_rule_52 (by decide) ?_
          refine t_call (t_invS (As := [.int 0]) (rest := []) hx hb hown (hts _ w_130) (hts _ w_131) (hts _ w_1) (hts _ w_132) ⟨by decide, by decide⟩ rfl d_V_rule_53) (c_V_demand hst) zz_c tb_good hts w_1 hC (hl.1.trans hml.symm) ⟨Nat.le_of_ble_eq_true rfl, Nat.le_of_ble_eq_true rfl, Nat.le_of_ble_eq_true rfl, Nat.le_of_ble_eq_true rfl⟩ (Nat.le_of_ble_eq_true rfl) (fun E q9 ce w1 H locs hp hC hce hcv hcl => ?_) (fun v w1 H locs hp hC => ?_)
          · skip
            obtain ⟨rfl, hwe9, hdem⟩ := hp
            rw [hwe9] at hC
            have hC : tC D cls (ty0 ca) A (zz e0 A) s (wC K ca RL LP fv FR day ever mo (nI vs.length) ea (nI w9) ch ring (eo ++ rest)) H locs := hC
            exact t_out (fun x h => (hex x h).elim) hlk zz_c hC hce hcv hcl (⟨rfl, rfl, fun h => bI_ne.mp c35 h.2.2.1⟩) (Nat.le_of_ble_eq_true rfl) (Nat.le_of_ble_eq_true rfl)
          · skip
            obtain ⟨rfl, hwe9, hdem⟩ := hp
            exact absurd rfl hdem
        · skip
          refine lv_iload hx hb d_V_rule_38 (lv_at hl 5 rfl) ?_
          refine lv_iconst (v := 1) hx hb d_V_rule_40 (by decide) ?_
          refine lv_iconst (v := 4) hx hb d_V_rule_41 (by decide) ?_
          refine t_call (t_invS (As := [.int ac9, .int 1, .int 4]) (rest := []) hx hb hown (hts _ w_127) (hts _ w_128) (hts _ w_1) (hts _ w_129) ⟨by decide, by decide⟩ rfl d_V_rule_42) (c_V_isWithin zz_c) zz_c tb_good hts w_1 hC (hl.1.trans hml.symm) ⟨Nat.le_of_ble_eq_true rfl, Nat.le_of_ble_eq_true rfl, Nat.le_of_ble_eq_true rfl, Nat.le_of_ble_eq_true rfl⟩ (Nat.le_of_ble_eq_true rfl) (fun E q ce w1 H1 l1 hp => hp.elim) (fun v w1 H locs hp hC => ?_)
          obtain ⟨rfl, hwe9⟩ := hp
          rw [hwe9] at hC
          have hC : tC D cls (ty0 ca) A (zz e0 A) s (wC K ca RL LP fv FR day ever mo (nI vs.length) ea (nI w9) ch ring (eo ++ rest)) H locs := hC
          refine W.eq (g2 := F0 m 45 ls [.int (bI (1 ≤ ac9 ∧ ac9 ≤ 4))]) rfl ?_
          refine lv_if_eq (tgt := 52) hx hb d_V_rule_45 (by decide) (fun c45 => ?_) (fun c45 => ?_)
          · skip
            refine lv_iconst (v := 0) hx hb d_V_rule_52 (by decide) ?_
            refine t_call (t_invS (As := [.int 0]) (rest := []) hx hb hown (hts _ w_130) (hts _ w_131) (hts _ w_1) (hts _ w_132) ⟨by decide, by decide⟩ rfl d_V_rule_53) (c_V_demand hst) zz_c tb_good hts w_1 hC (hl.1.trans hml.symm) ⟨Nat.le_of_ble_eq_true rfl, Nat.le_of_ble_eq_true rfl, Nat.le_of_ble_eq_true rfl, Nat.le_of_ble_eq_true rfl⟩ (Nat.le_of_ble_eq_true rfl) (fun E q9 ce w1 H locs hp hC hce hcv hcl => ?_) (fun v w1 H locs hp hC => ?_)
            · skip
              obtain ⟨rfl, hwe9, hdem⟩ := hp
              rw [hwe9] at hC
              have hC : tC D cls (ty0 ca) A (zz e0 A) s (wC K ca RL LP fv FR day ever mo (nI vs.length) ea (nI w9) ch ring (eo ++ rest)) H locs := hC
              exact t_out (fun x h => (hex x h).elim) hlk zz_c hC hce hcv hcl (⟨rfl, rfl, fun h => bI_ne.mp c45 h.2.2.2⟩) (Nat.le_of_ble_eq_true rfl) (Nat.le_of_ble_eq_true rfl)
            · skip
              obtain ⟨rfl, hwe9, hdem⟩ := hp
              exact absurd rfl hdem
          · skip
            refine lv_iconst (v := 1) hx hb d_V_rule_48 (by decide) ?_
            refine lv_goto (tgt := 53) hx hb d_V_rule_49 (by decide) ?_
            refine t_call (t_invS (As := [.int 1]) (rest := []) hx hb hown (hts _ w_130) (hts _ w_131) (hts _ w_1) (hts _ w_132) ⟨by decide, by decide⟩ rfl d_V_rule_53) (c_V_demand hst) zz_c tb_good hts w_1 hC (hl.1.trans hml.symm) ⟨Nat.le_of_ble_eq_true rfl, Nat.le_of_ble_eq_true rfl, Nat.le_of_ble_eq_true rfl, Nat.le_of_ble_eq_true rfl⟩ (Nat.le_of_ble_eq_true rfl) (fun E q9 ce w1 H locs hp hC hce hcv hcl => ?_) (fun v w1 H locs hp hC => ?_)
            · skip
              obtain ⟨rfl, hwe9, hdem⟩ := hp
              exact absurd hdem (by decide)
            · skip
              obtain ⟨rfl, hwe9, hdem⟩ := hp
              rw [hwe9] at hC
              have hC : tC D cls (ty0 ca) A (zz e0 A) s (wC K ca RL LP fv FR day ever mo (nI vs.length) ea (nI w9) ch ring (eo ++ rest)) H locs := hC
              refine W.eq (g2 := F0 m 56 ls []) rfl ?_
              obtain ⟨hin, u, hru⟩ := ru_at hRL (Classical.not_not.mp (fun q => c6 (bI_ne.mpr q)))
              have hu : u ∈ RL := List.mem_of_getElem? hru
              refine lv_aload_n hx hb d_V_rule_56 rfl (lv_at hl 0 rfl) ?_
              refine t_get (v := .ref (K 2)) hx hb hts inV hown hC 0 rfl rfl 1 (by decide) (hts _ w_98) (fun _ h => h) rfl d_V_rule_57 ?_
              refine lv_iload_n hx hb d_V_rule_60 rfl (lv_at hl 1 rfl) ?_
              refine t_aldq (C := "RetentionVault$Rule") hx hb hC 2 4 rfl rfl (hin) d_V_rule_61 ?_
              refine W.eq (g2 := F0 m 62 ls [.ref u]) (by rw [hru]; rfl) ?_
              refine lv_iload_n hx hb d_V_rule_62 rfl (lv_at hl 2 rfl) ?_
              refine lv_iload_n hx hb d_V_rule_63 rfl (lv_at hl 3 rfl) ?_
              refine lv_iload hx hb d_V_rule_64 (lv_at hl 4 rfl) ?_
              refine lv_iload hx hb d_V_rule_66 (lv_at hl 5 rfl) ?_
              refine t_call (t_invV (As := [.int tg9, .int cu9, .int da9, .int ac9]) (rest := []) hx hb hown (hts _ w_482) (hts _ w_483) (hts _ w_484) (hts _ w_485) ⟨by decide, by decide⟩ (t_recvP (wC_R hC) hu rfl rfl) rfl d_V_rule_68) (c_U_become hu hb01) zz_c tb_good hts w_5 hC (hl.1.trans hml.symm) ⟨Nat.le_of_ble_eq_true rfl, Nat.le_of_ble_eq_true rfl, Nat.le_of_ble_eq_true rfl, Nat.le_of_ble_eq_true rfl⟩ (Nat.le_of_ble_eq_true rfl) (fun E q ce w1 H1 l1 hp => hp.elim) (fun v w1 H locs hp hC => ?_)
              obtain ⟨rfl, hwe9⟩ := hp
              rw [hwe9] at hC
              have hC : tC D cls (ty0 ca) A (zz e0 A) s (wC K ca RL LP fv (va_up FR u (upd (upd (upd (upd (FR u) 0 tg9) 1 cu9) 2 da9) 3 ac9)) day ever mo (nI vs.length) ea (nI w9) ch ring (eo ++ rest)) H locs := hC
              refine W.eq (g2 := F0 m 71 ls []) rfl ?_
              refine lv_aload_n hx hb d_V_rule_71 rfl (lv_at hl 0 rfl) ?_
              refine t_get (v := .ref (K 3)) hx hb hts inV hown hC 0 rfl rfl 2 (by decide) (hts _ w_99) (fun _ h => h) rfl d_V_rule_72 ?_
              refine lv_aload_n hx hb d_V_rule_75 rfl (lv_at hl 0 rfl) ?_
              refine t_get (v := .int day) hx hb hts inV hown hC 0 rfl rfl 3 (by decide) (hts _ w_100) (fun _ h => h) rfl d_V_rule_76 ?_
              refine lv_bipush (v := 9) hx hb d_V_rule_79 (by decide) ?_
              refine lv_iload_n hx hb d_V_rule_81 rfl (lv_at hl 1 rfl) ?_
              refine lv_iload hx hb d_V_rule_82 (lv_at hl 5 rfl) ?_
              refine t_call (t_invV (As := [.int day, .int 9, .int ru9, .int ac9]) (rest := []) hx hb hown (hts _ w_376) (hts _ w_377) (hts _ w_378) (hts _ w_379) ⟨by decide, by decide⟩ (t_recv (q0 := 3) hC rfl rfl) rfl d_V_rule_84) (c_G_write hw9) zz_c tb_good hts w_6 hC (hl.1.trans hml.symm) ⟨Nat.le_of_ble_eq_true rfl, Nat.le_of_ble_eq_true rfl, Nat.le_of_ble_eq_true rfl, Nat.le_of_ble_eq_true rfl⟩ (Nat.le_of_ble_eq_true rfl) (fun E q ce w1 H1 l1 hp => hp.elim) (fun v w1 H locs hp hC => ?_)
              obtain ⟨rfl, rfl⟩ := hp
              have hC : tC D cls (ty0 ca) A (zz e0 A) s (wC K ca RL LP fv (va_up FR u (upd (upd (upd (upd (FR u) 0 tg9) 1 cu9) 2 da9) 3 ac9)) day ever mo (nI vs.length) ea (nI (w9 + 1)) ((lg_wr (ring, w9, ch) day 9 ru9 ac9).2.2) ((lg_wr (ring, w9, ch) day 9 ru9 ac9).1) (eo ++ rest)) H locs := hC
              refine W.eq (g2 := F0 m 87 ls []) rfl ?_
              exact t_vret hx hb hr hlk zz_c hC (⟨⟨Classical.not_not.mp (fun q => c6 (bI_ne.mpr q)), Classical.not_not.mp (fun q => c15 (bI_ne.mpr q)), Classical.not_not.mp (fun q => c35 (bI_ne.mpr q)), Classical.not_not.mp (fun q => c45 (bI_ne.mpr q))⟩, u, hru, rfl, rfl⟩) (Nat.le_of_ble_eq_true rfl) (Nat.le_of_ble_eq_true rfl) d_V_rule_87

set_option maxRecDepth 100000 in
set_option maxHeartbeats 4000000 in
theorem c_V_unrule {l : Launch} (hst : l.stackTraces = false) {D : va_G} {A : Nat → Prop} {e0 : Nat → Nat} {K : Nat → Nat} {ca : Nat → ClassId} {RL LP : List Nat} {fv FR : Nat → RW} {day ever mo : Int32} {ea : Nat} {ch : Int64} {ring : Nat → Int32} {rest : va_W} {vs : List Nat} {eo : va_W} (hI : cI e0 ca vs LP ea eo) {w9 : Nat} (hw9 : w9 < 2 ^ 31) {ru9 : Int32} (hRL : RL.length = 6) : tM l y_V_unrule tb ({ frames := 7, cells := 1, slots := 6, locals := 110 }) D cls (ty0 ca) A (zz e0 A) [.ref (K 0), .int ru9] (wC K ca RL LP fv FR day ever mo (nI vs.length) ea (nI w9) ch ring (eo ++ rest)) (fun v w2 => (0 ≤ ru9 ∧ ru9 ≤ 5) ∧ ∃ u, RL[ru9.toNatClampNeg]? = some u ∧ ((FR u 3 = 0 ∧ v = some (.int 0) ∧ w2 = wC K ca RL LP fv FR day ever mo (nI vs.length) ea (nI w9) ch ring (eo ++ rest)) ∨ (FR u 3 ≠ 0 ∧ v = some (.int 1) ∧ w2 = wC K ca RL LP fv (va_up FR u (upd (FR u) 3 0)) day ever mo (nI vs.length) ea (nI (w9 + 1)) ((lg_wr (ring, w9, ch) day 10 ru9 0).2.2) ((lg_wr (ring, w9, ch) day 10 ru9 0).1) (eo ++ rest)))) (fun E w2 => E = "java/lang/IllegalArgumentException" ∧ w2 = wC K ca RL LP fv FR day ever mo (nI vs.length) ea (nI w9) ch ring (eo ++ rest) ∧ ¬ (0 ≤ ru9 ∧ ru9 ≤ 5)) := by
  refine t_ofW (by decide) w_492 (Nat.le_of_ble_eq_true rfl) ?_
  intro p e s m below meth c ls hx hb hr hts hown hlk hnm hml hex hl hC
  have hown : s.vm.findClass "RetentionVault" = some m.cls := hown
  have hl : lv_has ls 3 [(0, .ref (K 0)), (1, .int ru9)] := hl
  obtain ⟨hLR, hvL, hnd, h40⟩ := hI
  refine lv_iload_n hx hb d_V_unrule_0 rfl (lv_at hl 1 rfl) ?_
  refine lv_iconst (v := 0) hx hb d_V_unrule_1 (by decide) ?_
  refine lv_iconst (v := 5) hx hb d_V_unrule_2 (by decide) ?_
  refine t_call (t_invS (As := [.int ru9, .int 0, .int 5]) (rest := []) hx hb hown (hts _ w_127) (hts _ w_128) (hts _ w_1) (hts _ w_129) ⟨by decide, by decide⟩ rfl d_V_unrule_3) (c_V_isWithin zz_c) zz_c tb_good hts w_1 hC (hl.1.trans hml.symm) ⟨Nat.le_of_ble_eq_true rfl, Nat.le_of_ble_eq_true rfl, Nat.le_of_ble_eq_true rfl, Nat.le_of_ble_eq_true rfl⟩ (Nat.le_of_ble_eq_true rfl) (fun E q ce w1 H1 l1 hp => hp.elim) (fun v w1 H locs hp hC => ?_)
  obtain ⟨rfl, hwe9⟩ := hp
  rw [hwe9] at hC
  have hC : tC D cls (ty0 ca) A (zz e0 A) s (wC K ca RL LP fv FR day ever mo (nI vs.length) ea (nI w9) ch ring (eo ++ rest)) H locs := hC
  refine W.eq (g2 := F0 m 6 ls [.int (bI (0 ≤ ru9 ∧ ru9 ≤ 5))]) rfl ?_
  refine t_call (t_invS (As := [.int (bI (0 ≤ ru9 ∧ ru9 ≤ 5))]) (rest := []) hx hb hown (hts _ w_130) (hts _ w_131) (hts _ w_1) (hts _ w_132) ⟨by decide, by decide⟩ rfl d_V_unrule_6) (c_V_demand hst) zz_c tb_good hts w_1 hC (hl.1.trans hml.symm) ⟨Nat.le_of_ble_eq_true rfl, Nat.le_of_ble_eq_true rfl, Nat.le_of_ble_eq_true rfl, Nat.le_of_ble_eq_true rfl⟩ (Nat.le_of_ble_eq_true rfl) (fun E q9 ce w1 H locs hp hC hce hcv hcl => ?_) (fun v w1 H locs hp hC => ?_)
  · skip
    obtain ⟨rfl, hwe9, hdem⟩ := hp
    rw [hwe9] at hC
    have hC : tC D cls (ty0 ca) A (zz e0 A) s (wC K ca RL LP fv FR day ever mo (nI vs.length) ea (nI w9) ch ring (eo ++ rest)) H locs := hC
    exact t_out (fun x h => (hex x h).elim) hlk zz_c hC hce hcv hcl (⟨rfl, rfl, bI_ne.mp hdem⟩) (Nat.le_of_ble_eq_true rfl) (Nat.le_of_ble_eq_true rfl)
  · skip
    obtain ⟨rfl, hwe9, hdem⟩ := hp
    rw [hwe9] at hC
    have hC : tC D cls (ty0 ca) A (zz e0 A) s (wC K ca RL LP fv FR day ever mo (nI vs.length) ea (nI w9) ch ring (eo ++ rest)) H locs := hC
    refine W.eq (g2 := F0 m 9 ls []) rfl ?_
    obtain ⟨hin, u, hru⟩ := ru_at hRL (Classical.not_not.mp (fun q => hdem (bI_ne.mpr q)))
    have hu : u ∈ RL := List.mem_of_getElem? hru
    refine lv_aload_n hx hb d_V_unrule_9 rfl (lv_at hl 0 rfl) ?_
    refine t_get (v := .ref (K 2)) hx hb hts inV hown hC 0 rfl rfl 1 (by decide) (hts _ w_98) (fun _ h => h) rfl d_V_unrule_10 ?_
    refine lv_iload_n hx hb d_V_unrule_13 rfl (lv_at hl 1 rfl) ?_
    refine t_aldq (C := "RetentionVault$Rule") hx hb hC 2 4 rfl rfl (hin) d_V_unrule_14 ?_
    refine W.eq (g2 := F0 m 15 ls [.ref u]) (by rw [hru]; rfl) ?_
    refine lv_astore_n (lv' := [(2, .ref u), (0, .ref (K 0)), (1, .int ru9)]) hx hb d_V_unrule_15 rfl hl (by decide) rfl (fun ls hl => ?_)
    refine lv_aload_n hx hb d_V_unrule_16 rfl (lv_at hl 0 rfl) ?_
    refine t_call (t_invV (As := []) (rest := []) hx hb hown (hts _ w_493) (hts _ w_494) (hts _ w_495) (hts _ w_496) ⟨by decide, by decide⟩ (t_recvP (wC_R hC) hu rfl rfl) rfl d_V_unrule_17) (c_U_isEmpty hu) zz_c tb_good hts w_5 hC (hl.1.trans hml.symm) ⟨Nat.le_of_ble_eq_true rfl, Nat.le_of_ble_eq_true rfl, Nat.le_of_ble_eq_true rfl, Nat.le_of_ble_eq_true rfl⟩ (Nat.le_of_ble_eq_true rfl) (fun E q ce w1 H1 l1 hp => hp.elim) (fun v w1 H locs hp hC => ?_)
    obtain ⟨rfl, hwe9⟩ := hp
    rw [hwe9] at hC
    have hC : tC D cls (ty0 ca) A (zz e0 A) s (wC K ca RL LP fv FR day ever mo (nI vs.length) ea (nI w9) ch ring (eo ++ rest)) H locs := hC
    refine W.eq (g2 := F0 m 20 ls [.int (bI (FR u 3 = 0))]) rfl ?_
    refine lv_if_eq (tgt := 25) hx hb d_V_unrule_20 (by decide) (fun c20 => ?_) (fun c20 => ?_)
    · skip
      refine lv_aload_n hx hb d_V_unrule_25 rfl (lv_at hl 0 rfl) ?_
      refine lv_iconst (v := 0) hx hb d_V_unrule_26 (by decide) ?_
      refine t_putP (ty := .int) hx hb hts inU TU tyU nmU hown (wC_R hC) hu rfl 3 (by decide) (hts _ w_67) (fun _ h => h) (Or.inl rfl) (by decide +kernel) rfl rfl d_V_unrule_27 (fun H locs hC => ?_)
      have hC := wC_ofR hC
      have hC : tC D cls (ty0 ca) A (zz e0 A) s (wC K ca RL LP fv (va_up FR u (upd (FR u) 3 0)) day ever mo (nI vs.length) ea (nI w9) ch ring (eo ++ rest)) H locs := hC
      refine lv_aload_n hx hb d_V_unrule_30 rfl (lv_at hl 1 rfl) ?_
      refine t_get (v := .ref (K 3)) hx hb hts inV hown hC 0 rfl rfl 2 (by decide) (hts _ w_99) (fun _ h => h) rfl d_V_unrule_31 ?_
      refine lv_aload_n hx hb d_V_unrule_34 rfl (lv_at hl 1 rfl) ?_
      refine t_get (v := .int day) hx hb hts inV hown hC 0 rfl rfl 3 (by decide) (hts _ w_100) (fun _ h => h) rfl d_V_unrule_35 ?_
      refine lv_bipush (v := 10) hx hb d_V_unrule_38 (by decide) ?_
      refine lv_iload_n hx hb d_V_unrule_40 rfl (lv_at hl 2 rfl) ?_
      refine lv_iconst (v := 0) hx hb d_V_unrule_41 (by decide) ?_
      refine t_call (t_invV (As := [.int day, .int 10, .int ru9, .int 0]) (rest := []) hx hb hown (hts _ w_376) (hts _ w_377) (hts _ w_378) (hts _ w_379) ⟨by decide, by decide⟩ (t_recv (q0 := 3) hC rfl rfl) rfl d_V_unrule_42) (c_G_write hw9) zz_c tb_good hts w_6 hC (hl.1.trans hml.symm) ⟨Nat.le_of_ble_eq_true rfl, Nat.le_of_ble_eq_true rfl, Nat.le_of_ble_eq_true rfl, Nat.le_of_ble_eq_true rfl⟩ (Nat.le_of_ble_eq_true rfl) (fun E q ce w1 H1 l1 hp => hp.elim) (fun v w1 H locs hp hC => ?_)
      obtain ⟨rfl, rfl⟩ := hp
      have hC : tC D cls (ty0 ca) A (zz e0 A) s (wC K ca RL LP fv (va_up FR u (upd (FR u) 3 0)) day ever mo (nI vs.length) ea (nI (w9 + 1)) ((lg_wr (ring, w9, ch) day 10 ru9 0).2.2) ((lg_wr (ring, w9, ch) day 10 ru9 0).1) (eo ++ rest)) H locs := hC
      refine W.eq (g2 := F0 m 45 ls []) rfl ?_
      refine lv_iconst (v := 1) hx hb d_V_unrule_45 (by decide) ?_
      exact t_zret hx hb hr hlk (Or.inr rfl) zz_c hC (⟨Classical.not_not.mp (fun q => hdem (bI_ne.mpr q)), u, hru, Or.inr ⟨bI_ne.mp c20, rfl, rfl⟩⟩) (Nat.le_of_ble_eq_true rfl) (Nat.le_of_ble_eq_true rfl) d_V_unrule_46
    · skip
      refine lv_iconst (v := 0) hx hb d_V_unrule_23 (by decide) ?_
      exact t_zret hx hb hr hlk (Or.inl rfl) zz_c hC (⟨Classical.not_not.mp (fun q => hdem (bI_ne.mpr q)), u, hru, Or.inl ⟨Classical.not_not.mp (fun q => c20 (bI_ne.mpr q)), rfl, rfl⟩⟩) (Nat.le_of_ble_eq_true rfl) (Nat.le_of_ble_eq_true rfl) d_V_unrule_24

set_option maxRecDepth 100000 in
set_option maxHeartbeats 4000000 in
theorem c_V_cool {l : Launch} {D : va_G} {A : Nat → Prop} {e0 : Nat → Nat} {K : Nat → Nat} {ca : Nat → ClassId} {RL LP : List Nat} {fv FR : Nat → RW} {day ever mo : Int32} {ea : Nat} {ch : Int64} {ring : Nat → Int32} {rest : va_W} {vs : List Nat} {eo : va_W} (hI : cI e0 ca vs LP ea eo) {w9 : Nat} (hw9 : w9 < 2 ^ 31) {a : Nat} {ti9 : Int32} (ha : a ∈ LP) : tM l y_V_cool tb ({ frames := 2, cells := 0, slots := 0, locals := 47 }) D cls (ty0 ca) A (zz e0 A) [.ref (K 0), .ref a, .int ti9] (wC K ca RL LP fv FR day ever mo (nI vs.length) ea (nI w9) ch ring (eo ++ rest)) (fun v w2 => v = none ∧ ((fv a 5 < ti9 ∧ w2 = wC K ca RL LP (va_up fv a (upd (fv a) 5 ti9)) FR day ever mo (nI vs.length) ea (nI (w9 + 1)) ((lg_wr (ring, w9, ch) day 4 (fv a 0) ti9).2.2) ((lg_wr (ring, w9, ch) day 4 (fv a 0) ti9).1) (eo ++ rest)) ∨ (¬ fv a 5 < ti9 ∧ w2 = wC K ca RL LP fv FR day ever mo (nI vs.length) ea (nI w9) ch ring (eo ++ rest)))) (xN) := by
  refine t_ofW (by decide) w_548 (Nat.le_of_ble_eq_true rfl) ?_
  intro p e s m below meth c ls hx hb hr hts hown hlk hnm hml hex hl hC
  have hown : s.vm.findClass "RetentionVault" = some m.cls := hown
  have hl : lv_has ls 3 [(0, .ref (K 0)), (1, .ref a), (2, .int ti9)] := hl
  obtain ⟨hLR, hvL, hnd, h40⟩ := hI
  refine lv_iload_n hx hb d_V_cool_0 rfl (lv_at hl 2 rfl) ?_
  refine lv_aload_n hx hb d_V_cool_1 rfl (lv_at hl 1 rfl) ?_
  refine t_getP hx hb hts inN hown hC ha rfl 5 (by decide) (hts _ w_246) (fun _ h => h) d_V_cool_2 ?_
  refine lv_icmp_le (tgt := 30) hx hb d_V_cool_5 (by decide) (fun c5 => ?_) (fun c5 => ?_)
  · skip
    exact t_vret hx hb hr hlk zz_c hC (⟨rfl, Or.inr ⟨Int32.not_lt.mpr c5, rfl⟩⟩) (Nat.le_of_ble_eq_true rfl) (Nat.le_of_ble_eq_true rfl) d_V_cool_30
  · skip
    refine lv_aload_n hx hb d_V_cool_8 rfl (lv_at hl 1 rfl) ?_
    refine lv_iload_n hx hb d_V_cool_9 rfl (lv_at hl 2 rfl) ?_
    refine t_putP (ty := .int) hx hb hts inN TN tyN nmN hown hC ha rfl 5 (by decide) (hts _ w_246) (fun _ h => h) (Or.inl rfl) (by decide +kernel) rfl rfl d_V_cool_10 (fun H locs hC => ?_)
    have hC : tC D cls (ty0 ca) A (zz e0 A) s (wC K ca RL LP (va_up fv a (upd (fv a) 5 ti9)) FR day ever mo (nI vs.length) ea (nI w9) ch ring (eo ++ rest)) H locs := hC
    refine lv_aload_n hx hb d_V_cool_13 rfl (lv_at hl 0 rfl) ?_
    refine t_get (v := .ref (K 3)) hx hb hts inV hown hC 0 rfl rfl 2 (by decide) (hts _ w_99) (fun _ h => h) rfl d_V_cool_14 ?_
    refine lv_aload_n hx hb d_V_cool_17 rfl (lv_at hl 0 rfl) ?_
    refine t_get (v := .int day) hx hb hts inV hown hC 0 rfl rfl 3 (by decide) (hts _ w_100) (fun _ h => h) rfl d_V_cool_18 ?_
    refine lv_iconst (v := 4) hx hb d_V_cool_21 (by decide) ?_
    refine lv_aload_n hx hb d_V_cool_22 rfl (lv_at hl 1 rfl) ?_
    refine t_getP hx hb hts inN hown hC ha rfl 0 (by decide) (hts _ w_237) (fun _ h => h) d_V_cool_23 ?_
    refine lv_iload_n hx hb d_V_cool_26 rfl (lv_at hl 2 rfl) ?_
    refine t_call (t_invV (As := [.int day, .int 4, .int ((va_up fv a (upd (fv a) 5 ti9)) a 0), .int ti9]) (rest := []) hx hb hown (hts _ w_376) (hts _ w_377) (hts _ w_378) (hts _ w_379) ⟨by decide, by decide⟩ (t_recv (q0 := 3) hC rfl rfl) rfl d_V_cool_27) (c_G_write hw9) zz_c tb_good hts w_6 hC (hl.1.trans hml.symm) ⟨Nat.le_of_ble_eq_true rfl, Nat.le_of_ble_eq_true rfl, Nat.le_of_ble_eq_true rfl, Nat.le_of_ble_eq_true rfl⟩ (Nat.le_of_ble_eq_true rfl) (fun E q ce w1 H1 l1 hp => hp.elim) (fun v w1 H locs hp hC => ?_)
    obtain ⟨rfl, rfl⟩ := hp
    have hC : tC D cls (ty0 ca) A (zz e0 A) s (wC K ca RL LP (va_up fv a (upd (fv a) 5 ti9)) FR day ever mo (nI vs.length) ea (nI (w9 + 1)) ((lg_wr (ring, w9, ch) day 4 ((va_up fv a (upd (fv a) 5 ti9)) a 0) ti9).2.2) ((lg_wr (ring, w9, ch) day 4 ((va_up fv a (upd (fv a) 5 ti9)) a 0) ti9).1) (eo ++ rest)) H locs := hC
    refine W.eq (g2 := F0 m 30 ls []) rfl ?_
    exact t_vret hx hb hr hlk zz_c hC (⟨rfl, Or.inl ⟨Int32.not_le.mp c5, by simp only [up_twice, va_up_self]; rfl⟩⟩) (Nat.le_of_ble_eq_true rfl) (Nat.le_of_ble_eq_true rfl) d_V_cool_30
end
section
/-! The list grows and shrinks: ArrayList add, grow, copyOf, remove. Laid by program (wip/whole/p17.py) -/
section TL
variable {p : Program} {l : Launch} {e : Env} {R : Room} {s : State} {m : MethodId} {args : Array Value} {below : List Frame} {meth : Method} {c : Code} {H : Heap} {locs : List Loc} {cells slots : Nat} {Q : State → Prop}
variable {cc : ByteArray} {pc : Nat} {ls : Array Slot} {rest : List Value} {D : va_G} {cl : List vw_C} {A : Nat → Prop} {Z : State → Heap → Prop} {a : Nat} {tys : List (ClassId × FieldType)} {w : va_W}
theorem t_more {c2 s2 : Nat} {g : JFrame} (h1 : cells ≤ c2) (h2 : slots ≤ s2) (k : W p l e R s m args below meth c H locs c2 s2 Q g) : W p l e R s m args below meth c H locs cells slots Q g :=
  fun T hT X => k T hT ⟨X.admits, X.cas, X.clock, X.frames, X.room, X.hears, X.method, X.code, X.here, X.tail, X.warmed, X.limits, X.bytes, X.same.mono h1 h2⟩
theorem t_newq (hx : p.tables.exec = Jvm.exec) (hb : c.code = cc) {own C : String} {index : Nat} (hown : s.vm.findClass own = some m.cls) (hclink : (Cond.classLink own index C).before args s = true) (hover : va_AO C s) (hC : tC D cl tys A Z s w H locs) (t0 : Nat) {cT : ClassId} (ht : tys[t0]? = some (cT, .object C))
    {n : Int32} {N' : Nat} (hn : ¬ n < 0) (hN : n.toNatClampNeg = N') (hbytes : N' * 4 ≤ 536870912) (hcells : cells + 1 ≤ R.cells) (hslots : slots + N' ≤ R.slots) (hdg : decode cc pc = .ok (.anewarray index, 3))
    (kk : ∀ (q : Nat) (H1 : Heap) (locs1 : List Loc), tC D cl tys A Z s (w ++ [(q, .inl (cT, N', .inr (.inr (.inr (.inr (fun _ => none))))))]) H1 locs1 → W p l e R s m args below meth c H1 locs1 (cells + 1) (slots + N') Q (F0 m (pc + 3) ls (.ref q :: rest))) : W p l e R s m args below meth c H locs cells slots Q (F0 m pc ls (.int n :: rest)) := by
  refine va_newq hx hb hown hclink hover hC.2.2.2.1 hC.1 hC.2.1 hC.2.2.1 hC.2.2.2.2.1 hn hN hbytes hcells hslots hdg (fun q cA H1 hK hP hD hS => ?_)
  have h1 := (hK.2 tys.length (cA, .object C) (by simp)).2
  have h2 := (hC.2.2.2.1.2 t0 _ ht).2
  obtain ⟨_, _, _, _, _, e1⟩ := h1
  obtain ⟨_, _, _, _, _, e2⟩ := h2
  have e3 : cA = cT := Option.some.inj (e1.symm.trans e2)
  subst e3
  exact kk q H1 locs ⟨hP, hD, hS, hC.2.2.2⟩
theorem t_astqO (hx : p.tables.exec = Jvm.exec) (hb : c.code = cc) (hC : tC D cl tys A Z s w H locs) (q0 t0 qk ci : Nat) {E : String} {cA : ClassId} {r : vw_C} {n v : Nat} {vs : List Value} {f : Nat → Option Nat} (ha : w[q0]? = some (a, .inl (cA, n, .inr (.inr (.inr (.inr f)))))) (ht : tys[t0]? = some (cA, .object E)) (hca : va_Nw (.castable r.1 E) s) (hv : w[qk]? = some (v, .inr (ci, vs))) (hc : cl[ci]? = some r) {i : Int32} (hin : vp_in i n) (hdg : decode cc pc = .ok (.aastore, 1))
    (kk : ∀ (H1 : Heap) (locs1 : List Loc), tC D cl tys A Z s (w.set q0 (a, .inl (cA, n, .inr (.inr (.inr (.inr (va_up f i.toNatClampNeg (some v)))))))) H1 locs1 → W p l e R s m args below meth c H1 locs1 cells slots Q (F0 m (pc + 1) ls rest)) : W p l e R s m args below meth c H locs cells slots Q (F0 m pc ls (.ref v :: .int i :: .ref a :: rest)) :=
  va_astqO hx hb hC.2.2.2.1 hC.1 hC.2.1 hC.2.2.1 q0 t0 qk ci ha ht hca hv hc hin hdg (fun H1 l1 h1 h2 h3 => kk H1 l1 ⟨h1, h2, h3, hC.2.2.2⟩)
theorem t_astqN (hx : p.tables.exec = Jvm.exec) (hb : c.code = cc) (hC : tC D cl tys A Z s w H locs) (q0 t0 : Nat) {cA : ClassId} {C : String} {n : Nat} {f : Nat → Option Nat} (ha : w[q0]? = some (a, .inl (cA, n, .inr (.inr (.inr (.inr f)))))) (ht : tys[t0]? = some (cA, .object C)) {i : Int32} (hin : vp_in i n) (hdg : decode cc pc = .ok (.aastore, 1))
    (kk : ∀ (H1 : Heap) (locs1 : List Loc), tC D cl tys A Z s (w.set q0 (a, .inl (cA, n, .inr (.inr (.inr (.inr (va_up f i.toNatClampNeg none))))))) H1 locs1 → W p l e R s m args below meth c H1 locs1 cells slots Q (F0 m (pc + 1) ls rest)) : W p l e R s m args below meth c H locs cells slots Q (F0 m pc ls (.null :: .int i :: .ref a :: rest)) :=
  va_astqN hx hb hC.2.2.2.1 hC.1 hC.2.1 hC.2.2.1 q0 t0 ha ht hin hdg (fun H1 l1 h1 h2 h3 => kk H1 l1 ⟨h1, h2, h3, hC.2.2.2⟩)
theorem t_copyq (hx : p.tables.exec = Jvm.exec) (hb : c.code = cc) (hml : c.maxLocals = ls.size) {own : String} {index : Nat} (hown : s.vm.findClass own = some m.cls) (hlink : (Cond.methodLink own index arraycopyName).before args s = true) (hnat : (Cond.native arraycopyName).before args s = true) (hstat : (Cond.static arraycopyName).before args s = true) (hini : (Cond.initialized "java/lang/System").before args s = true)
    (hC : tC D cl tys A Z s w H locs) (q0 q1 t0 : Nat) {a0 : Nat} {c0 : ClassId} {n0 n1 : Nat} {f g : Nat → Option Nat} {E0 : String} (qV : vw_C) (ha0 : w[q0]? = some (a0, .inl (c0, n0, .inr (.inr (.inr (.inr f)))))) (ha1 : w[q1]? = some (a, .inl (c0, n1, .inr (.inr (.inr (.inr g)))))) (ht0 : tys[t0]? = some (c0, .object E0)) (hca : va_Nw (.castable qV.1 E0) s)
    {sp dp n : Int32} (h1 : ¬ sp < 0) (h2 : ¬ dp < 0) (h3 : ¬ n < 0) (h4 : sp.toNatClampNeg + n.toNatClampNeg ≤ n0) (h5 : dp.toNatClampNeg + n.toNatClampNeg ≤ n1) (hel : ∀ i : Nat, i < n.toNatClampNeg → ∀ y : Nat, f (sp.toNatClampNeg + i) = some y → ∃ cellV : Cell, H[y]? = some cellV ∧ cellV.vm.isStatics = false ∧ s.vm.findClass qV.1 = some cellV.cls)
    (hframes : 1 ≤ R.frames) (hlocals : (rest.map fun v => v.category).sum + (nativeFrameWords "java/lang/System" "arraycopy" 5 + 11) ≤ R.locals) (hdg : decode cc pc = .ok (.invokestatic index, 3))
    (kk : ∀ (H1 : Heap) (locs1 : List Loc), tC D cl tys A Z s (w.set q1 (a, .inl (c0, n1, .inr (.inr (.inr (.inr (va_cpy f g sp.toNatClampNeg dp.toNatClampNeg n.toNatClampNeg))))))) H1 locs1 → W p l e R s m args below meth c H1 locs1 cells slots Q (F0 m (pc + 3) ls rest)) : W p l e R s m args below meth c H locs cells slots Q (F0 m pc ls (.int n :: .int dp :: .ref a :: .int sp :: .ref a0 :: rest)) := by
  refine va_copyq (C := qV.1) hx hb hml hown hlink hnat hstat hini hC.2.2.2.1 hC.1 hC.2.1 hC.2.2.1 q0 q1 t0 t0 ha0 ha1 ht0 ht0 h1 h2 h3 h4 h5 hel ?_ hframes hlocals hdg (fun H1 l1 h1 h2 h3 => kk H1 l1 ⟨h1, h2, h3, hC.2.2.2⟩)
  intro comp c1 g1 g2
  obtain ⟨c3, t1, f1, f2, f3⟩ := Cond.castable_spec (va_Nw.use (A := args) rfl hca)
  cases g1.symm.trans f2
  cases g2.symm.trans f1
  exact f3
theorem t_alen0 {e0 : Nat → Nat} (hx : p.tables.exec = Jvm.exec) (hb : c.code = cc) (hC : tC D cl tys A (zz e0 A) s w H locs) (hdg : decode cc pc = .ok (.arraylength, 1))
    (kk : W p l e R s m args below meth c H locs cells slots Q (F0 m (pc + 1) ls (.int 0 :: rest))) : W p l e R s m args below meth c H locs cells slots Q (F0 m pc ls (.ref (e0 0) :: rest)) := by
  obtain ⟨-, -, ⟨-, hnA, cell, h5, h6, h7, h8⟩, -⟩ := hC.2.2.2.2.2
  have h9 : H[e0 0]? = some cell := by rw [hC.2.2.1.2.1 (e0 0) (Array.getElem?_eq_some_iff.mp h5).1 hnA]; exact h5
  exact W.alen (n := 0) hx hb h9 h6 (by rw [h8]; rfl) rfl rfl hdg kk
theorem zz_mi {e0 : Nat → Nat} {U : State} {H : Heap} (h : zz e0 A U H) : va_Mi "[Ljava/lang/Object;" (e0 1) U := h.2.2.2.2.2.2.2.2.2
theorem zz_ao {e0 : Nat → Nat} {U : State} {H : Heap} (h : zz e0 A U H) {C : String} (hC : C ∈ zO) : va_AO C U := h.2.2.2.2.2.2.1 C hC
theorem zz_cast {e0 : Nat → Nat} {U : State} {H : Heap} (h : zz e0 A U H) {C E : String} (hC : (C, E) ∈ zC) : va_Nw (.castable C E) U := h.2.2.2.2.1 (C, E) hC
theorem zz_de {e0 : Nat → Nat} {U : State} {H : Heap} (h : zz e0 A U H) : va_Z "java/util/ArrayList" "DEFAULTCAPACITY_EMPTY_ELEMENTDATA" "[Ljava/lang/Object;" (.ref (e0 0)) A U H := h.2.2.1.1.Z
theorem zz_decl {e0 : Nat → Nat} {U : State} {H : Heap} (h : zz e0 A U H) {y : MethodName} (hy : y ∈ zD) {ar : Array Value} : (Cond.declares y).before ar U = true := va_Nw.use rfl (h.2.2.2.1 y hy)
theorem t_recvA {cA : ClassId} {n q0 t0 : Nat} {f : Nat → Option Nat} {C nm : String} (hC : tC D cl tys A Z s w H locs) (ha : w[q0]? = some (a, .inl (cA, n, .inr (.inr (.inr (.inr f)))))) (ht : tys[t0]? = some (cA, .object C)) (e : "[" ++ (FieldType.object C).toString = nm) : ∃ cell : Cell, H[a]? = some cell ∧ cell.vm.isStatics = false ∧ s.vm.findClass nm = some cell.cls :=
  ⟨_, hC.1 q0 _ ha, rfl, va_nmO (hC.2.2.2.1.2 t0 _ ht).2 e⟩
end TL
section WX
variable {D : va_G} {cl : List vw_C} {tys : List (ClassId × FieldType)} {A : Nat → Prop} {Z : State → Heap → Prop} {s : State} {H : Heap} {locs : List Loc}
variable {K : Nat → Nat} {ca : Nat → ClassId} {RL LP : List Nat} {fv FR : Nat → RW} {day ever mo n : Int32} {ea : Nat} {wr : Int32} {ch : Int64} {ring : Nat → Int32} {rest : va_W} {x y : Nat × va_E}
theorem wC_perm : (wC K ca RL LP fv FR day ever mo n ea wr ch ring (x :: rest)).Perm (x :: wC K ca RL LP fv FR day ever mo n ea wr ch ring rest) := by
  simp only [wC, ← List.append_assoc]
  exact List.perm_middle
theorem wC_out (hC : tC D cl tys A Z s (wC K ca RL LP fv FR day ever mo n ea wr ch ring (x :: rest)) H locs) : tC D cl tys A Z s (x :: wC K ca RL LP fv FR day ever mo n ea wr ch ring rest) H locs := t_perm wC_perm hC
theorem wC_in (hC : tC D cl tys A Z s (x :: wC K ca RL LP fv FR day ever mo n ea wr ch ring rest) H locs) : tC D cl tys A Z s (wC K ca RL LP fv FR day ever mo n ea wr ch ring (x :: rest)) H locs := t_perm wC_perm.symm hC
theorem wC_app (hC : tC D cl tys A Z s (wC K ca RL LP fv FR day ever mo n ea wr ch ring rest ++ [x]) H locs) : tC D cl tys A Z s (wC K ca RL LP fv FR day ever mo n ea wr ch ring (x :: rest)) H locs := wC_in (t_perm (List.perm_append_singleton _ _) hC)
theorem wC_out2 (hC : tC D cl tys A Z s (wC K ca RL LP fv FR day ever mo n ea wr ch ring (x :: y :: rest)) H locs) : tC D cl tys A Z s (x :: y :: wC K ca RL LP fv FR day ever mo n ea wr ch ring rest) H locs := t_perm (wC_perm.trans (List.Perm.cons _ wC_perm)) hC
theorem wC_in2 (hC : tC D cl tys A Z s (x :: y :: wC K ca RL LP fv FR day ever mo n ea wr ch ring rest) H locs) : tC D cl tys A Z s (wC K ca RL LP fv FR day ever mo n ea wr ch ring (x :: y :: rest)) H locs := t_perm (wC_perm.trans (List.Perm.cons _ wC_perm)).symm hC
theorem wC_drop2 (hC : tC D cl tys A Z s (wC K ca RL LP fv FR day ever mo n ea wr ch ring (x :: y :: rest)) H locs) : tC D cl tys A Z s (wC K ca RL LP fv FR day ever mo n ea wr ch ring (x :: rest)) H locs := wC_in (t_less (List.Sublist.cons₂ _ (List.Sublist.cons _ (List.Sublist.refl _))) (wC_out2 hC))
theorem wC_N {v : Nat} {ex : va_W} (hC : tC D cls tys A Z s (ex ++ wC K ca RL LP fv FR day ever mo n ea wr ch ring rest) H locs) (hv : v ∈ LP) : ∃ k : Nat, (ex ++ wC K ca RL LP fv FR day ever mo n ea wr ch ring rest)[k]? = some (v, tO 3 13 fv v) := by
  refine List.getElem?_of_mem ?_
  exact List.mem_append_right _ (List.mem_append_right _ (List.mem_append_left _ (t_plm hv)))
theorem wC_recvN {v : Nat} (hC : tC D cls tys A Z s (wC K ca RL LP fv FR day ever mo n ea wr ch ring rest) H locs) (hv : v ∈ LP) : ∃ cell : Cell, H[v]? = some cell ∧ cell.vm.isStatics = false ∧ s.vm.findClass "RetentionVault$Version" = some cell.cls := by
  exact t_recvP hC hv rfl rfl
end WX
theorem sh1 : ∀ n, n < 61 → nI n >>> (1 &&& 31) = nI (n / 2) := by decide +kernel
theorem nI_sub1 (n : Nat) : nI (n + 1) - nI n = nI 1 := by
  rw [← nI_1, Int32.add_comm, Int32.add_sub_cancel]
  rfl
theorem mm_max {a b : Nat} (ha : a < 2 ^ 31) (hb : b < 2 ^ 31) : (if nI a < nI b then nI b else nI a) = nI (max a b) := by
  by_cases h : nI a < nI b
  · rw [if_pos h, Nat.max_eq_right (Nat.le_of_lt ((nI_ltI ha hb).mp h))]
  · rw [if_neg h, Nat.max_eq_left (Nat.not_lt.mp (fun q => h ((nI_ltI ha hb).mpr q)))]

set_option maxRecDepth 100000 in
set_option maxHeartbeats 4000000 in
theorem c_AS_newLength {l : Launch} {D : va_G} {tys : List (ClassId × FieldType)} {A : Nat → Prop} {Z : State → Heap → Prop} (hZc : tZ A Z) {w : va_W} {x : Nat} (hx9 : x < 61) : tM l y_AS_newLength tb ({ frames := 1, cells := 0, slots := 0, locals := 40 }) D cls tys A Z [.int (nI x), .int (nI 1), .int (nI (x / 2))] (w) (pR (.int (nI (x + max 1 (x / 2)))) w) (xN) := by
  refine t_ofW (by decide) w_333 (Nat.le_of_ble_eq_true rfl) ?_
  intro p e s m below meth c ls hx hb hr hts hown hlk hnm hml hex hl hC
  have hown : s.vm.findClass "jdk/internal/util/ArraysSupport" = some m.cls := hown
  have hl : lv_has ls 4 [(0, .int (nI x)), (1, .int (nI 1)), (2, .int (nI (x / 2)))] := hl
  refine lv_iload_n hx hb d_AS_newLength_0 rfl (lv_at hl 0 rfl) ?_
  refine lv_iload_n hx hb d_AS_newLength_1 rfl (lv_at hl 1 rfl) ?_
  refine lv_iload_n hx hb d_AS_newLength_2 rfl (lv_at hl 2 rfl) ?_
  refine va_mmax hx hb (hml.trans hl.1.symm) hown (hts _ w_334) (hts _ w_335) (hts _ w_17) (hts _ w_336) (Nat.le_of_ble_eq_true rfl) (Nat.le_of_ble_eq_true rfl) (Nat.le_of_ble_eq_true rfl) (Nat.le_of_ble_eq_true rfl) d_AS_newLength_3 ?_
  rw [mm_max (a := 1) (b := x / 2) (by omega) (by omega)]
  refine lv_iadd hx hb d_AS_newLength_6 ?_
  rw [nI_add]
  refine lv_istore_n (lv' := [(3, .int (nI (x + max 1 (x / 2)))), (0, .int (nI x)), (1, .int (nI 1)), (2, .int (nI (x / 2)))]) hx hb d_AS_newLength_7 rfl hl (by decide) rfl (fun ls hl => ?_)
  refine lv_iconst (v := 0) hx hb d_AS_newLength_8 (by decide) ?_
  refine lv_iload_n hx hb d_AS_newLength_9 rfl (lv_at hl 0 rfl) ?_
  refine lv_icmp_ge (tgt := 21) hx hb d_AS_newLength_10 (by decide) (fun c10 => ?_) (fun c10 => ?_)
  · exact absurd c10 (by show ¬ nI (x + max 1 (x / 2)) ≤ nI 0; exact nI_ge (by omega) (by omega))
  · skip
    refine lv_iload_n hx hb d_AS_newLength_13 rfl (lv_at hl 0 rfl) ?_
    refine lv_ldc (v := 2147483639) hx hb hown (hts _ w_337) d_AS_newLength_14 ?_
    refine lv_icmp_gt (tgt := 21) hx hb d_AS_newLength_16 (by decide) (fun c16 => ?_) (fun c16 => ?_)
    · exact absurd c16 (Int32.not_lt.mpr (show nI (x + max 1 (x / 2)) ≤ nI 2147483639 from nI_le (by omega) (by omega)))
    · skip
      refine lv_iload_n hx hb d_AS_newLength_19 rfl (lv_at hl 0 rfl) ?_
      exact t_iret hx hb hr hlk hZc hC (⟨rfl, rfl⟩) (Nat.le_of_ble_eq_true rfl) (Nat.le_of_ble_eq_true rfl) d_AS_newLength_20

set_option maxRecDepth 100000 in
set_option maxHeartbeats 4000000 in
theorem c_AR_copyOf1 {l : Launch} {D : va_G} {A : Nat → Prop} {e0 : Nat → Nat} {K : Nat → Nat} {ca : Nat → ClassId} {RL LP : List Nat} {fv FR : Nat → RW} {day ever mo n : Int32} {ea : Nat} {wr : Int32} {ch : Int64} {ring : Nat → Int32} {rest : va_W} {n1 n2 : Nat} {el : Nat → Option Nat} (hn12 : n1 ≤ n2) (hn2 : n2 ≤ 60) (hel : ∀ i y, i < n1 → el i = some y → y ∈ LP) : tM l y_AR_copyOf1 tb ({ frames := 1, cells := 1, slots := 60, locals := 40 }) D cls (ty0 ca) A (zz e0 A) [.ref ea, .int (nI n2), .ref (e0 1)] (wC K ca RL LP fv FR day ever mo n ea wr ch ring ((ea, .inl (ca 3, n1, .inr (.inr (.inr (.inr el))))) :: rest)) (fun v w2 => ∃ q, v = some (.ref q) ∧ w2 = wC K ca RL LP fv FR day ever mo n ea wr ch ring ((q, .inl (ca 3, n2, .inr (.inr (.inr (.inr (va_cpy el (fun _ => none) 0 0 n1)))))) :: (ea, .inl (ca 3, n1, .inr (.inr (.inr (.inr el))))) :: rest)) (xN) := by
  refine t_ofW (by decide) w_360 (Nat.le_of_ble_eq_true rfl) ?_
  intro p e s m below meth c ls hx hb hr hts hown hlk hnm hml hex hl hC
  have hown : s.vm.findClass "java/util/Arrays" = some m.cls := hown
  have hl : lv_has ls 4 [(0, .ref ea), (1, .int (nI n2)), (2, .ref (e0 1))] := hl
  refine lv_aload_n hx hb d_AR_copyOf1_0 rfl (lv_at hl 2 rfl) ?_
  refine va_ldcM hx hb hown (hts _ w_361) (zz_mi hC.2.2.2.2.2) d_AR_copyOf1_1 ?_
  refine lv_acmp_ne (rx := (some (e0 1))) (ry := (some (e0 1))) (tgt := 13) hx hb d_AR_copyOf1_3 (by decide) (fun c3 => ?_) (fun c3 => ?_)
  · exact absurd rfl c3
  · skip
    refine lv_iload_n hx hb d_AR_copyOf1_6 rfl (lv_at hl 1 rfl) ?_
    refine t_newq hx hb hown (hts _ w_363) (zz_ao hC.2.2.2.2.2 (by decide +kernel)) hC 3 rfl (N' := n2) (nI_pos (by omega)) (nI_clamp (by omega)) (by omega) (Nat.le_of_ble_eq_true rfl) (by show 0 + n2 ≤ 60; omega) d_AR_copyOf1_7 (fun q H locs hC => ?_)
    have hC := wC_app hC
    refine t_more (c2 := 1) (s2 := 60) (Nat.le_of_ble_eq_true rfl) (by first | exact Nat.le_of_ble_eq_true rfl | omega) ?_
    have hC : tC D cls (ty0 ca) A (zz e0 A) s (wC K ca RL LP fv FR day ever mo n ea wr ch ring ((q, .inl (ca 3, n2, .inr (.inr (.inr (.inr (fun _ => none)))))) :: (ea, .inl (ca 3, n1, .inr (.inr (.inr (.inr el))))) :: rest)) H locs := hC
    refine lv_goto (tgt := 24) hx hb d_AR_copyOf1_10 (by decide) ?_
    refine lv_astore_n (lv' := [(3, .ref q), (0, .ref ea), (1, .int (nI n2)), (2, .ref (e0 1))]) hx hb d_AR_copyOf1_24 rfl hl (by decide) rfl (fun ls hl => ?_)
    refine lv_aload_n hx hb d_AR_copyOf1_25 rfl (lv_at hl 1 rfl) ?_
    refine lv_iconst (v := 0) hx hb d_AR_copyOf1_26 (by decide) ?_
    refine lv_aload_n hx hb d_AR_copyOf1_27 rfl (lv_at hl 0 rfl) ?_
    refine lv_iconst (v := 0) hx hb d_AR_copyOf1_28 (by decide) ?_
    refine lv_aload_n hx hb d_AR_copyOf1_29 rfl (lv_at hl 1 rfl) ?_
    obtain ⟨q0, hq0⟩ : ∃ k, (wC K ca RL LP fv FR day ever mo n ea wr ch ring ((q, .inl (ca 3, n2, .inr (.inr (.inr (.inr (fun _ => none)))))) :: (ea, .inl (ca 3, n1, .inr (.inr (.inr (.inr el))))) :: rest))[k]? = some ((ea, .inl (ca 3, n1, .inr (.inr (.inr (.inr el))))) : Nat × va_E) := List.getElem?_of_mem (by simp [wC])
    refine t_alen (v := nI n1) hx hb hC q0 3 hq0 rfl rfl d_AR_copyOf1_30 ?_
    refine lv_iload_n hx hb d_AR_copyOf1_31 rfl (lv_at hl 2 rfl) ?_
    refine va_mmin hx hb (hml.trans hl.1.symm) hown (hts _ w_364) (hts _ w_365) (hts _ w_17) (hts _ w_366) (Nat.le_of_ble_eq_true rfl) (Nat.le_of_ble_eq_true rfl) (Nat.le_of_ble_eq_true rfl) (by first | exact Nat.le_of_ble_eq_true rfl | (show 0 + n2 ≤ 60; omega)) d_AR_copyOf1_32 ?_
    rw [if_neg (Int32.not_lt.mpr ((nI_leI (a := n1) (b := n2) (by omega) (by omega)).mpr hn12))]
    have hC := wC_out2 hC
    refine t_copyq hx hb (hml.trans hl.1.symm) hown (hts _ w_367) (hts _ w_369) (hts _ w_368) (hts _ w_19) hC 1 0 3 (cls[3]) rfl rfl rfl (zz_cast hC.2.2.2.2.2 (by decide +kernel)) (sp := 0) (dp := 0) (n := nI n1) (by decide) (by decide) (nI_pos (by omega)) (by rw [nI_clamp (by omega)]; show 0 + n1 ≤ n1; omega) (by rw [nI_clamp (by omega)]; show 0 + n1 ≤ n2; omega) (fun i hi y hy => wC_recvN (wC_in2 hC) (hel i y (by rw [nI_clamp (by omega)] at hi; exact hi) (by rw [show (0 : Int32).toNatClampNeg = 0 from rfl, Nat.zero_add] at hy; exact hy))) (Nat.le_of_ble_eq_true rfl) (Nat.le_of_ble_eq_true rfl) d_AR_copyOf1_35 (fun H locs hC => ?_)
    rw [nI_clamp (n := n1) (by omega)] at hC
    have hC := wC_in2 hC
    have hC : tC D cls (ty0 ca) A (zz e0 A) s (wC K ca RL LP fv FR day ever mo n ea wr ch ring ((q, .inl (ca 3, n2, .inr (.inr (.inr (.inr (va_cpy el (fun _ => none) 0 0 n1)))))) :: (ea, .inl (ca 3, n1, .inr (.inr (.inr (.inr el))))) :: rest)) H locs := hC
    refine lv_aload_n hx hb d_AR_copyOf1_38 rfl (lv_at hl 0 rfl) ?_
    exact t_aret (r := some q) hx hb hr (Or.inr ⟨_, rfl⟩) hlk zz_c hC (⟨q, rfl, rfl⟩) (Nat.le_of_ble_eq_true rfl) (Nat.le_of_ble_eq_true rfl) d_AR_copyOf1_39

set_option maxRecDepth 100000 in
set_option maxHeartbeats 4000000 in
theorem c_AR_copyOf0 {l : Launch} {D : va_G} {A : Nat → Prop} {e0 : Nat → Nat} {K : Nat → Nat} {ca : Nat → ClassId} {RL LP : List Nat} {fv FR : Nat → RW} {day ever mo n : Int32} {ea : Nat} {wr : Int32} {ch : Int64} {ring : Nat → Int32} {rest : va_W} {n1 n2 : Nat} {el : Nat → Option Nat} (hn12 : n1 ≤ n2) (hn2 : n2 ≤ 60) (hel : ∀ i y, i < n1 → el i = some y → y ∈ LP) : tM l y_AR_copyOf0 tb ({ frames := 2, cells := 1, slots := 60, locals := 63 }) D cls (ty0 ca) A (zz e0 A) [.ref ea, .int (nI n2)] (wC K ca RL LP fv FR day ever mo n ea wr ch ring ((ea, .inl (ca 3, n1, .inr (.inr (.inr (.inr el))))) :: rest)) (fun v w2 => ∃ q, v = some (.ref q) ∧ w2 = wC K ca RL LP fv FR day ever mo n ea wr ch ring ((q, .inl (ca 3, n2, .inr (.inr (.inr (.inr (va_cpy el (fun _ => none) 0 0 n1)))))) :: (ea, .inl (ca 3, n1, .inr (.inr (.inr (.inr el))))) :: rest)) (xN) := by
  refine t_ofW (by decide) w_343 (Nat.le_of_ble_eq_true rfl) ?_
  intro p e s m below meth c ls hx hb hr hts hown hlk hnm hml hex hl hC
  have hown : s.vm.findClass "java/util/Arrays" = some m.cls := hown
  have hl : lv_has ls 2 [(0, .ref ea), (1, .int (nI n2))] := hl
  refine lv_aload_n hx hb d_AR_copyOf0_0 rfl (lv_at hl 0 rfl) ?_
  refine lv_iload_n hx hb d_AR_copyOf0_1 rfl (lv_at hl 1 rfl) ?_
  refine lv_aload_n hx hb d_AR_copyOf0_2 rfl (lv_at hl 0 rfl) ?_
  obtain ⟨q0, hq0⟩ : ∃ k, (wC K ca RL LP fv FR day ever mo n ea wr ch ring ((ea, .inl (ca 3, n1, .inr (.inr (.inr (.inr el))))) :: rest))[k]? = some ((ea, .inl (ca 3, n1, .inr (.inr (.inr (.inr el))))) : Nat × va_E) := List.getElem?_of_mem (by simp [wC])
  refine va_getC hx hb (hml.trans hl.1.symm) hown (hts _ w_344) (zz_decl hC.2.2.2.2.2 (by decide +kernel)) (hts _ w_834) (hts _ w_345) (hts _ w_357) (zz_mi hC.2.2.2.2.2) (t_recvA (t0 := 3) hC hq0 rfl (by decide +kernel)) (Nat.le_of_ble_eq_true rfl) (Nat.le_of_ble_eq_true rfl) d_AR_copyOf0_3 ?_
  refine t_call (t_invS (As := [.ref ea, .int (nI n2), .ref (e0 1)]) (rest := []) hx hb hown (hts _ w_358) (hts _ w_359) (hts _ w_18) (hts _ w_360) ⟨by decide, by decide⟩ rfl d_AR_copyOf0_6) (c_AR_copyOf1 hn12 hn2 hel) zz_c tb_good hts w_18 hC (hl.1.trans hml.symm) ⟨Nat.le_of_ble_eq_true rfl, Nat.le_of_ble_eq_true rfl, Nat.le_of_ble_eq_true rfl, Nat.le_of_ble_eq_true rfl⟩ (Nat.le_of_ble_eq_true rfl) (fun E q ce w1 H1 l1 hp => hp.elim) (fun v w1 H locs hp hC => ?_)
  obtain ⟨q, rfl, hwe9⟩ := hp
  rw [hwe9] at hC
  have hC : tC D cls (ty0 ca) A (zz e0 A) s (wC K ca RL LP fv FR day ever mo n ea wr ch ring ((q, .inl (ca 3, n2, .inr (.inr (.inr (.inr (va_cpy el (fun _ => none) 0 0 n1)))))) :: (ea, .inl (ca 3, n1, .inr (.inr (.inr (.inr el))))) :: rest)) H locs := hC
  refine W.eq (g2 := F0 m 9 ls [.ref q]) rfl ?_
  exact t_aret (r := some q) hx hb hr (Or.inr ⟨_, rfl⟩) hlk zz_c hC (⟨q, rfl, rfl⟩) (Nat.le_of_ble_eq_true rfl) (Nat.le_of_ble_eq_true rfl) d_AR_copyOf0_9

set_option maxRecDepth 100000 in
set_option maxHeartbeats 4000000 in
theorem c_A_grow1_E {l : Launch} {D : va_G} {A : Nat → Prop} {e0 : Nat → Nat} {K : Nat → Nat} {ca : Nat → ClassId} {RL LP : List Nat} {fv FR : Nat → RW} {day ever mo : Int32} {wr : Int32} {ch : Int64} {ring : Nat → Int32} {rest : va_W} : tM l y_A_grow1 tb ({ frames := 1, cells := 1, slots := 60, locals := 40 }) D cls (ty0 ca) A (zz e0 A) [.ref (K 1), .int (nI 1)] (wC K ca RL LP fv FR day ever mo (nI 0) (e0 0) wr ch ring rest) (fun v w2 => ∃ q, v = some (.ref q) ∧ w2 = wC K ca RL LP fv FR day ever mo (nI 0) q wr ch ring ((q, .inl (ca 3, 10, .inr (.inr (.inr (.inr (fun _ => none)))))) :: rest)) (xN) := by
  refine t_ofW (by decide) w_330 (Nat.le_of_ble_eq_true rfl) ?_
  intro p e s m below meth c ls hx hb hr hts hown hlk hnm hml hex hl hC
  have hown : s.vm.findClass "java/util/ArrayList" = some m.cls := hown
  have hl : lv_has ls 4 [(0, .ref (K 1)), (1, .int (nI 1))] := hl
  refine lv_aload_n hx hb d_A_grow1_0 rfl (lv_at hl 0 rfl) ?_
  refine t_get (v := .ref (e0 0)) hx hb hts inA hown hC 1 rfl rfl 1 (by decide) (hts _ w_44) (fun _ h => h) rfl d_A_grow1_1 ?_
  refine t_alen0 hx hb hC d_A_grow1_4 ?_
  refine lv_istore_n (lv' := [(2, .int 0), (0, .ref (K 1)), (1, .int (nI 1))]) hx hb d_A_grow1_5 rfl hl (by decide) rfl (fun ls hl => ?_)
  refine lv_iload_n hx hb d_A_grow1_6 rfl (lv_at hl 0 rfl) ?_
  refine lv_if_gt (tgt := 20) hx hb d_A_grow1_7 (by decide) (fun c7 => ?_) (fun c7 => ?_)
  · exact absurd c7 (by decide)
  · skip
    refine lv_aload_n hx hb d_A_grow1_10 rfl (lv_at hl 1 rfl) ?_
    refine t_get (v := .ref (e0 0)) hx hb hts inA hown hC 1 rfl rfl 1 (by decide) (hts _ w_44) (fun _ h => h) rfl d_A_grow1_11 ?_
    refine va_gets hx hb (zz_de hC.2.2.2.2.2) hC.2.2.1 hown (hts _ w_42) (fun _ h => h) d_A_grow1_14 ?_
    refine lv_acmp_eq (rx := (some (e0 0))) (ry := (some (e0 0))) (tgt := 45) hx hb d_A_grow1_17 (by decide) (fun c17 => ?_) (fun c17 => ?_)
    · skip
      refine lv_aload_n hx hb d_A_grow1_45 rfl (lv_at hl 1 rfl) ?_
      refine lv_bipush (v := nI 10) hx hb d_A_grow1_46 (by decide) ?_
      refine lv_iload_n hx hb d_A_grow1_48 rfl (lv_at hl 2 rfl) ?_
      refine va_mmax hx hb (hml.trans hl.1.symm) hown (hts _ w_370) (hts _ w_335) (hts _ w_17) (hts _ w_336) (Nat.le_of_ble_eq_true rfl) (Nat.le_of_ble_eq_true rfl) (Nat.le_of_ble_eq_true rfl) (Nat.le_of_ble_eq_true rfl) d_A_grow1_49 ?_
      rw [mm_max (a := 10) (b := 1) (by omega) (by omega)]
      refine t_newq hx hb hown (hts _ w_371) (zz_ao hC.2.2.2.2.2 (by decide +kernel)) hC 3 rfl (N' := 10) (nI_pos (by omega)) (nI_clamp (by omega)) (by omega) (Nat.le_of_ble_eq_true rfl) (by show 0 + 10 ≤ 60; omega) d_A_grow1_52 (fun q H locs hC => ?_)
      have hC := wC_app hC
      refine t_more (c2 := 1) (s2 := 60) (Nat.le_of_ble_eq_true rfl) (by first | exact Nat.le_of_ble_eq_true rfl | omega) ?_
      have hC : tC D cls (ty0 ca) A (zz e0 A) s (wC K ca RL LP fv FR day ever mo (nI 0) (e0 0) wr ch ring ((q, .inl (ca 3, 10, .inr (.inr (.inr (.inr (fun _ => none)))))) :: rest)) H locs := hC
      refine lv_dup_x1 hx hb d_A_grow1_55 rfl rfl ?_
      refine t_put (ty := .array (.object "java/lang/Object")) (v := .ref q) hx hb hts inA TA tyA nmA hown hC 1 rfl rfl 1 (by decide) (hts _ w_44) (fun _ h => h) rfl (by decide +kernel) rfl rfl (Nat.le_of_ble_eq_true rfl) d_A_grow1_56 (fun H locs hC => ?_)
      have hC : tC D cls (ty0 ca) A (zz e0 A) s (wC K ca RL LP fv FR day ever mo (nI 0) q wr ch ring ((q, .inl (ca 3, 10, .inr (.inr (.inr (.inr (fun _ => none)))))) :: rest)) H locs := hC
      exact t_aret (r := some q) hx hb hr (Or.inr ⟨_, rfl⟩) hlk zz_c hC (⟨q, rfl, rfl⟩) (Nat.le_of_ble_eq_true rfl) (Nat.le_of_ble_eq_true rfl) d_A_grow1_59
    · exact absurd rfl c17

set_option maxRecDepth 100000 in
set_option maxHeartbeats 4000000 in
theorem c_A_grow0_E {l : Launch} {D : va_G} {A : Nat → Prop} {e0 : Nat → Nat} {K : Nat → Nat} {ca : Nat → ClassId} {RL LP : List Nat} {fv FR : Nat → RW} {day ever mo : Int32} {wr : Int32} {ch : Int64} {ring : Nat → Int32} {rest : va_W} : tM l y_A_grow0 tb ({ frames := 2, cells := 1, slots := 60, locals := 63 }) D cls (ty0 ca) A (zz e0 A) [.ref (K 1)] (wC K ca RL LP fv FR day ever mo (nI 0) (e0 0) wr ch ring rest) (fun v w2 => ∃ q, v = some (.ref q) ∧ w2 = wC K ca RL LP fv FR day ever mo (nI 0) q wr ch ring ((q, .inl (ca 3, 10, .inr (.inr (.inr (.inr (fun _ => none)))))) :: rest)) (xN) := by
  refine t_ofW (by decide) w_326 (Nat.le_of_ble_eq_true rfl) ?_
  intro p e s m below meth c ls hx hb hr hts hown hlk hnm hml hex hl hC
  have hown : s.vm.findClass "java/util/ArrayList" = some m.cls := hown
  have hl : lv_has ls 1 [(0, .ref (K 1))] := hl
  refine lv_aload_n hx hb d_A_grow0_0 rfl (lv_at hl 0 rfl) ?_
  refine lv_aload_n hx hb d_A_grow0_1 rfl (lv_at hl 0 rfl) ?_
  refine t_get (v := .int (nI 0)) hx hb hts inA hown hC 1 rfl rfl 2 (by decide) (hts _ w_45) (fun _ h => h) rfl d_A_grow0_2 ?_
  refine lv_iconst (v := 1) hx hb d_A_grow0_5 (by decide) ?_
  refine lv_iadd hx hb d_A_grow0_6 ?_
  rw [nI_1]
  refine t_call (t_invV (As := [.int (nI (0 + 1))]) (rest := []) hx hb hown (hts _ w_327) (hts _ w_329) (hts _ s_A_grow1) (hts _ w_330) ⟨by decide, by decide⟩ (t_recv (q0 := 1) hC rfl rfl) rfl d_A_grow0_7) c_A_grow1_E zz_c tb_good hts w_4 hC (hl.1.trans hml.symm) ⟨Nat.le_of_ble_eq_true rfl, Nat.le_of_ble_eq_true rfl, Nat.le_of_ble_eq_true rfl, Nat.le_of_ble_eq_true rfl⟩ (Nat.le_of_ble_eq_true rfl) (fun E q ce w1 H1 l1 hp => hp.elim) (fun v w1 H locs hp hC => ?_)
  obtain ⟨q, rfl, hwe9⟩ := hp
  rw [hwe9] at hC
  have hC : tC D cls (ty0 ca) A (zz e0 A) s (wC K ca RL LP fv FR day ever mo (nI 0) q wr ch ring ((q, .inl (ca 3, 10, .inr (.inr (.inr (.inr (fun _ => none)))))) :: rest)) H locs := hC
  refine W.eq (g2 := F0 m 10 ls [.ref q]) rfl ?_
  exact t_aret (r := some q) hx hb hr (Or.inr ⟨_, rfl⟩) hlk zz_c hC (⟨q, rfl, rfl⟩) (Nat.le_of_ble_eq_true rfl) (Nat.le_of_ble_eq_true rfl) d_A_grow0_10

set_option maxRecDepth 100000 in
set_option maxHeartbeats 4000000 in
theorem c_A_grow1_F {l : Launch} {D : va_G} {A : Nat → Prop} {e0 : Nat → Nat} {K : Nat → Nat} {ca : Nat → ClassId} {RL LP : List Nat} {fv FR : Nat → RW} {day ever mo : Int32} {ea : Nat} {wr : Int32} {ch : Int64} {ring : Nat → Int32} {rest : va_W} {vs : List Nat} {el : Nat → Option Nat} (hv0 : 0 < vs.length) (hv40 : vs.length < 40) (hel : ∀ i y, i < vs.length → el i = some y → y ∈ LP) : tM l y_A_grow1 tb ({ frames := 3, cells := 1, slots := 60, locals := 84 }) D cls (ty0 ca) A (zz e0 A) [.ref (K 1), .int (nI (vs.length + 1))] (wC K ca RL LP fv FR day ever mo (nI vs.length) ea wr ch ring ((ea, .inl (ca 3, vs.length, .inr (.inr (.inr (.inr el))))) :: rest)) (fun v w2 => ∃ q, v = some (.ref q) ∧ w2 = wC K ca RL LP fv FR day ever mo (nI vs.length) q wr ch ring ((q, .inl (ca 3, (vs.length + max 1 (vs.length / 2)), .inr (.inr (.inr (.inr (va_cpy el (fun _ => none) 0 0 vs.length)))))) :: rest)) (xN) := by
  refine t_ofW (by decide) w_330 (Nat.le_of_ble_eq_true rfl) ?_
  intro p e s m below meth c ls hx hb hr hts hown hlk hnm hml hex hl hC
  have hown : s.vm.findClass "java/util/ArrayList" = some m.cls := hown
  have hl : lv_has ls 4 [(0, .ref (K 1)), (1, .int (nI (vs.length + 1)))] := hl
  refine lv_aload_n hx hb d_A_grow1_0 rfl (lv_at hl 0 rfl) ?_
  refine t_get (v := .ref ea) hx hb hts inA hown hC 1 rfl rfl 1 (by decide) (hts _ w_44) (fun _ h => h) rfl d_A_grow1_1 ?_
  obtain ⟨q0, hq0⟩ : ∃ k, (wC K ca RL LP fv FR day ever mo (nI vs.length) ea wr ch ring ((ea, .inl (ca 3, vs.length, .inr (.inr (.inr (.inr el))))) :: rest))[k]? = some ((ea, .inl (ca 3, vs.length, .inr (.inr (.inr (.inr el))))) : Nat × va_E) := List.getElem?_of_mem (by simp [wC])
  refine t_alen (v := nI vs.length) hx hb hC q0 3 hq0 rfl rfl d_A_grow1_4 ?_
  refine lv_istore_n (lv' := [(2, .int (nI vs.length)), (0, .ref (K 1)), (1, .int (nI (vs.length + 1)))]) hx hb d_A_grow1_5 rfl hl (by decide) rfl (fun ls hl => ?_)
  refine lv_iload_n hx hb d_A_grow1_6 rfl (lv_at hl 0 rfl) ?_
  refine lv_if_gt (tgt := 20) hx hb d_A_grow1_7 (by decide) (fun c7 => ?_) (fun c7 => ?_)
  · skip
    refine lv_iload_n hx hb d_A_grow1_20 rfl (lv_at hl 0 rfl) ?_
    refine lv_iload_n hx hb d_A_grow1_21 rfl (lv_at hl 2 rfl) ?_
    refine lv_iload_n hx hb d_A_grow1_22 rfl (lv_at hl 0 rfl) ?_
    refine lv_isub hx hb d_A_grow1_23 ?_
    rw [nI_sub1]
    refine lv_iload_n hx hb d_A_grow1_24 rfl (lv_at hl 0 rfl) ?_
    refine lv_iconst (v := 1) hx hb d_A_grow1_25 (by decide) ?_
    refine lv_ishr hx hb d_A_grow1_26 ?_
    rw [sh1 vs.length (by omega)]
    refine t_call (t_invS (As := [.int (nI vs.length), .int (nI 1), .int (nI (vs.length / 2))]) (rest := []) hx hb hown (hts _ w_331) (hts _ w_332) (hts _ w_16) (hts _ w_333) ⟨by decide, by decide⟩ rfl d_A_grow1_27) (c_AS_newLength zz_c (x := vs.length) (by omega)) zz_c tb_good hts w_16 hC (hl.1.trans hml.symm) ⟨Nat.le_of_ble_eq_true rfl, Nat.le_of_ble_eq_true rfl, Nat.le_of_ble_eq_true rfl, Nat.le_of_ble_eq_true rfl⟩ (Nat.le_of_ble_eq_true rfl) (fun E q ce w1 H1 l1 hp => hp.elim) (fun v w1 H locs hp hC => ?_)
    obtain ⟨rfl, hwe9⟩ := hp
    rw [hwe9] at hC
    have hC : tC D cls (ty0 ca) A (zz e0 A) s (wC K ca RL LP fv FR day ever mo (nI vs.length) ea wr ch ring ((ea, .inl (ca 3, vs.length, .inr (.inr (.inr (.inr el))))) :: rest)) H locs := hC
    refine W.eq (g2 := F0 m 30 ls [.int (nI (vs.length + max 1 (vs.length / 2)))]) rfl ?_
    refine lv_istore_n (lv' := [(3, .int (nI (vs.length + max 1 (vs.length / 2)))), (2, .int (nI vs.length)), (0, .ref (K 1)), (1, .int (nI (vs.length + 1)))]) hx hb d_A_grow1_30 rfl hl (by decide) rfl (fun ls hl => ?_)
    refine lv_aload_n hx hb d_A_grow1_31 rfl (lv_at hl 2 rfl) ?_
    refine lv_aload_n hx hb d_A_grow1_32 rfl (lv_at hl 2 rfl) ?_
    refine t_get (v := .ref ea) hx hb hts inA hown hC 1 rfl rfl 1 (by decide) (hts _ w_44) (fun _ h => h) rfl d_A_grow1_33 ?_
    refine lv_iload_n hx hb d_A_grow1_36 rfl (lv_at hl 0 rfl) ?_
    refine t_call (t_invS (As := [.ref ea, .int (nI (vs.length + max 1 (vs.length / 2)))]) (rest := [.ref (K 1)]) hx hb hown (hts _ w_341) (hts _ w_342) (hts _ w_18) (hts _ w_343) ⟨by decide, by decide⟩ rfl d_A_grow1_37) (c_AR_copyOf0 (n2 := (vs.length + max 1 (vs.length / 2))) (by omega) (by omega) hel) zz_c tb_good hts w_18 hC (hl.1.trans hml.symm) ⟨Nat.le_of_ble_eq_true rfl, Nat.le_of_ble_eq_true rfl, Nat.le_of_ble_eq_true rfl, Nat.le_of_ble_eq_true rfl⟩ (Nat.le_of_ble_eq_true rfl) (fun E q ce w1 H1 l1 hp => hp.elim) (fun v w1 H locs hp hC => ?_)
    obtain ⟨q, rfl, hwe9⟩ := hp
    rw [hwe9] at hC
    have hC : tC D cls (ty0 ca) A (zz e0 A) s (wC K ca RL LP fv FR day ever mo (nI vs.length) ea wr ch ring ((q, .inl (ca 3, (vs.length + max 1 (vs.length / 2)), .inr (.inr (.inr (.inr (va_cpy el (fun _ => none) 0 0 vs.length)))))) :: (ea, .inl (ca 3, vs.length, .inr (.inr (.inr (.inr el))))) :: rest)) H locs := hC
    refine W.eq (g2 := F0 m 40 ls [.ref q, .ref (K 1)]) rfl ?_
    have hC := wC_drop2 hC
    have hC : tC D cls (ty0 ca) A (zz e0 A) s (wC K ca RL LP fv FR day ever mo (nI vs.length) ea wr ch ring ((q, .inl (ca 3, (vs.length + max 1 (vs.length / 2)), .inr (.inr (.inr (.inr (va_cpy el (fun _ => none) 0 0 vs.length)))))) :: rest)) H locs := hC
    refine lv_dup_x1 hx hb d_A_grow1_40 rfl rfl ?_
    refine t_put (ty := .array (.object "java/lang/Object")) (v := .ref q) hx hb hts inA TA tyA nmA hown hC 1 rfl rfl 1 (by decide) (hts _ w_44) (fun _ h => h) rfl (by decide +kernel) rfl rfl (Nat.le_of_ble_eq_true rfl) d_A_grow1_41 (fun H locs hC => ?_)
    have hC : tC D cls (ty0 ca) A (zz e0 A) s (wC K ca RL LP fv FR day ever mo (nI vs.length) q wr ch ring ((q, .inl (ca 3, (vs.length + max 1 (vs.length / 2)), .inr (.inr (.inr (.inr (va_cpy el (fun _ => none) 0 0 vs.length)))))) :: rest)) H locs := hC
    exact t_aret (r := some q) hx hb hr (Or.inr ⟨_, rfl⟩) hlk zz_c hC (⟨q, rfl, rfl⟩) (Nat.le_of_ble_eq_true rfl) (Nat.le_of_ble_eq_true rfl) d_A_grow1_44
  · exact absurd (show nI 0 < nI vs.length from nI_lt hv0 (by omega)) c7

set_option maxRecDepth 100000 in
set_option maxHeartbeats 4000000 in
theorem c_A_grow0_F {l : Launch} {D : va_G} {A : Nat → Prop} {e0 : Nat → Nat} {K : Nat → Nat} {ca : Nat → ClassId} {RL LP : List Nat} {fv FR : Nat → RW} {day ever mo : Int32} {ea : Nat} {wr : Int32} {ch : Int64} {ring : Nat → Int32} {rest : va_W} {vs : List Nat} {el : Nat → Option Nat} (hv0 : 0 < vs.length) (hv40 : vs.length < 40) (hel : ∀ i y, i < vs.length → el i = some y → y ∈ LP) : tM l y_A_grow0 tb ({ frames := 4, cells := 1, slots := 60, locals := 107 }) D cls (ty0 ca) A (zz e0 A) [.ref (K 1)] (wC K ca RL LP fv FR day ever mo (nI vs.length) ea wr ch ring ((ea, .inl (ca 3, vs.length, .inr (.inr (.inr (.inr el))))) :: rest)) (fun v w2 => ∃ q, v = some (.ref q) ∧ w2 = wC K ca RL LP fv FR day ever mo (nI vs.length) q wr ch ring ((q, .inl (ca 3, (vs.length + max 1 (vs.length / 2)), .inr (.inr (.inr (.inr (va_cpy el (fun _ => none) 0 0 vs.length)))))) :: rest)) (xN) := by
  refine t_ofW (by decide) w_326 (Nat.le_of_ble_eq_true rfl) ?_
  intro p e s m below meth c ls hx hb hr hts hown hlk hnm hml hex hl hC
  have hown : s.vm.findClass "java/util/ArrayList" = some m.cls := hown
  have hl : lv_has ls 1 [(0, .ref (K 1))] := hl
  refine lv_aload_n hx hb d_A_grow0_0 rfl (lv_at hl 0 rfl) ?_
  refine lv_aload_n hx hb d_A_grow0_1 rfl (lv_at hl 0 rfl) ?_
  refine t_get (v := .int (nI vs.length)) hx hb hts inA hown hC 1 rfl rfl 2 (by decide) (hts _ w_45) (fun _ h => h) rfl d_A_grow0_2 ?_
  refine lv_iconst (v := 1) hx hb d_A_grow0_5 (by decide) ?_
  refine lv_iadd hx hb d_A_grow0_6 ?_
  rw [nI_1]
  refine t_call (t_invV (As := [.int (nI (vs.length + 1))]) (rest := []) hx hb hown (hts _ w_327) (hts _ w_329) (hts _ s_A_grow1) (hts _ w_330) ⟨by decide, by decide⟩ (t_recv (q0 := 1) hC rfl rfl) rfl d_A_grow0_7) (c_A_grow1_F hv0 hv40 hel) zz_c tb_good hts w_4 hC (hl.1.trans hml.symm) ⟨Nat.le_of_ble_eq_true rfl, Nat.le_of_ble_eq_true rfl, Nat.le_of_ble_eq_true rfl, Nat.le_of_ble_eq_true rfl⟩ (Nat.le_of_ble_eq_true rfl) (fun E q ce w1 H1 l1 hp => hp.elim) (fun v w1 H locs hp hC => ?_)
  obtain ⟨q, rfl, hwe9⟩ := hp
  rw [hwe9] at hC
  have hC : tC D cls (ty0 ca) A (zz e0 A) s (wC K ca RL LP fv FR day ever mo (nI vs.length) q wr ch ring ((q, .inl (ca 3, (vs.length + max 1 (vs.length / 2)), .inr (.inr (.inr (.inr (va_cpy el (fun _ => none) 0 0 vs.length)))))) :: rest)) H locs := hC
  refine W.eq (g2 := F0 m 10 ls [.ref q]) rfl ?_
  exact t_aret (r := some q) hx hb hr (Or.inr ⟨_, rfl⟩) hlk zz_c hC (⟨q, rfl, rfl⟩) (Nat.le_of_ble_eq_true rfl) (Nat.le_of_ble_eq_true rfl) d_A_grow0_10

set_option maxRecDepth 100000 in
set_option maxHeartbeats 4000000 in
theorem c_A_add1_E {l : Launch} {D : va_G} {A : Nat → Prop} {e0 : Nat → Nat} {K : Nat → Nat} {ca : Nat → ClassId} {RL LP : List Nat} {fv FR : Nat → RW} {day ever mo : Int32} {wr : Int32} {ch : Int64} {ring : Nat → Int32} {rest : va_W} {a : Nat} (ha : a ∈ LP) : tM l y_A_add1 tb ({ frames := 5, cells := 1, slots := 60, locals := 127 }) D cls (ty0 ca) A (zz e0 A) [.ref (K 1), .ref a, .ref (e0 0), .int (nI 0)] (wC K ca RL LP fv FR day ever mo (nI 0) (e0 0) wr ch ring rest) (fun v w2 => v = none ∧ ∃ q, w2 = wC K ca RL LP fv FR day ever mo (nI (0 + 1)) q wr ch ring ((q, .inl (ca 3, 10, .inr (.inr (.inr (.inr (va_up (fun _ => none) 0 (some a))))))) :: rest)) (xN) := by
  refine t_ofW (by decide) w_322 (Nat.le_of_ble_eq_true rfl) ?_
  intro p e s m below meth c ls hx hb hr hts hown hlk hnm hml hex hl hC
  have hown : s.vm.findClass "java/util/ArrayList" = some m.cls := hown
  have hl : lv_has ls 4 [(0, .ref (K 1)), (1, .ref a), (2, .ref (e0 0)), (3, .int (nI 0))] := hl
  refine lv_iload_n hx hb d_A_add1_0 rfl (lv_at hl 3 rfl) ?_
  refine lv_aload_n hx hb d_A_add1_1 rfl (lv_at hl 2 rfl) ?_
  refine t_alen0 hx hb hC d_A_add1_2 ?_
  refine lv_icmp_ne (tgt := 11) hx hb d_A_add1_3 (by decide) (fun c3 => ?_) (fun c3 => ?_)
  · exact absurd rfl c3
  · skip
    refine lv_aload_n hx hb d_A_add1_6 rfl (lv_at hl 0 rfl) ?_
    refine t_call (t_invV (As := []) (rest := []) hx hb hown (hts _ w_323) (hts _ w_325) (hts _ s_A_grow0) (hts _ w_326) ⟨by decide, by decide⟩ (t_recv (q0 := 1) hC rfl rfl) rfl d_A_add1_7) c_A_grow0_E zz_c tb_good hts w_4 hC (hl.1.trans hml.symm) ⟨Nat.le_of_ble_eq_true rfl, Nat.le_of_ble_eq_true rfl, Nat.le_of_ble_eq_true rfl, Nat.le_of_ble_eq_true rfl⟩ (Nat.le_of_ble_eq_true rfl) (fun E q ce w1 H1 l1 hp => hp.elim) (fun v w1 H locs hp hC => ?_)
    obtain ⟨q, rfl, hwe9⟩ := hp
    rw [hwe9] at hC
    have hC : tC D cls (ty0 ca) A (zz e0 A) s (wC K ca RL LP fv FR day ever mo (nI 0) q wr ch ring ((q, .inl (ca 3, 10, .inr (.inr (.inr (.inr (fun _ => none)))))) :: rest)) H locs := hC
    refine W.eq (g2 := F0 m 10 ls [.ref q]) rfl ?_
    refine lv_astore_n (lv' := [(2, .ref q), (0, .ref (K 1)), (1, .ref a), (3, .int (nI 0))]) hx hb d_A_add1_10 rfl hl (by decide) rfl (fun ls hl => ?_)
    refine lv_aload_n hx hb d_A_add1_11 rfl (lv_at hl 0 rfl) ?_
    refine lv_iload_n hx hb d_A_add1_12 rfl (lv_at hl 3 rfl) ?_
    refine lv_aload_n hx hb d_A_add1_13 rfl (lv_at hl 2 rfl) ?_
    obtain ⟨qk, hqk⟩ := wC_N (ex := [(q, .inl (ca 3, 10, .inr (.inr (.inr (.inr (fun _ => none))))))]) (wC_out hC) ha
    have hC := wC_out hC
    refine t_astqO hx hb hC 0 3 qk 3 rfl rfl (zz_cast hC.2.2.2.2.2 (by decide +kernel)) hqk rfl (vp_in_nI (by omega) (by omega)) d_A_add1_14 (fun H locs hC => ?_)
    rw [nI_clamp (by omega)] at hC
    have hC := wC_in hC
    have hC : tC D cls (ty0 ca) A (zz e0 A) s (wC K ca RL LP fv FR day ever mo (nI 0) q wr ch ring ((q, .inl (ca 3, 10, .inr (.inr (.inr (.inr (va_up (fun _ => none) 0 (some a))))))) :: rest)) H locs := hC
    refine lv_aload_n hx hb d_A_add1_15 rfl (lv_at hl 1 rfl) ?_
    refine lv_iload_n hx hb d_A_add1_16 rfl (lv_at hl 3 rfl) ?_
    refine lv_iconst (v := 1) hx hb d_A_add1_17 (by decide) ?_
    refine lv_iadd hx hb d_A_add1_18 ?_
    rw [nI_1]
    refine t_put (ty := .int) (v := .int (nI (0 + 1))) hx hb hts inA TA tyA nmA hown hC 1 rfl rfl 2 (by decide) (hts _ w_45) (fun _ h => h) rfl (by decide +kernel) rfl rfl (Nat.le_of_ble_eq_true rfl) d_A_add1_19 (fun H locs hC => ?_)
    have hC : tC D cls (ty0 ca) A (zz e0 A) s (wC K ca RL LP fv FR day ever mo (nI (0 + 1)) q wr ch ring ((q, .inl (ca 3, 10, .inr (.inr (.inr (.inr (va_up (fun _ => none) 0 (some a))))))) :: rest)) H locs := hC
    exact t_vret hx hb hr hlk zz_c hC (⟨rfl, q, rfl⟩) (Nat.le_of_ble_eq_true rfl) (Nat.le_of_ble_eq_true rfl) d_A_add1_22

set_option maxRecDepth 100000 in
set_option maxHeartbeats 4000000 in
theorem c_A_add1_F {l : Launch} {D : va_G} {A : Nat → Prop} {e0 : Nat → Nat} {K : Nat → Nat} {ca : Nat → ClassId} {RL LP : List Nat} {fv FR : Nat → RW} {day ever mo : Int32} {ea : Nat} {wr : Int32} {ch : Int64} {ring : Nat → Int32} {rest : va_W} {vs : List Nat} {el : Nat → Option Nat} (hv0 : 0 < vs.length) (hv40 : vs.length < 40) (hel : ∀ i y, i < vs.length → el i = some y → y ∈ LP) {a : Nat} (ha : a ∈ LP) : tM l y_A_add1 tb ({ frames := 5, cells := 1, slots := 60, locals := 127 }) D cls (ty0 ca) A (zz e0 A) [.ref (K 1), .ref a, .ref ea, .int (nI vs.length)] (wC K ca RL LP fv FR day ever mo (nI vs.length) ea wr ch ring ((ea, .inl (ca 3, vs.length, .inr (.inr (.inr (.inr el))))) :: rest)) (fun v w2 => v = none ∧ ∃ q, w2 = wC K ca RL LP fv FR day ever mo (nI (vs.length + 1)) q wr ch ring ((q, .inl (ca 3, (vs.length + max 1 (vs.length / 2)), .inr (.inr (.inr (.inr (va_up (va_cpy el (fun _ => none) 0 0 vs.length) vs.length (some a))))))) :: rest)) (xN) := by
  refine t_ofW (by decide) w_322 (Nat.le_of_ble_eq_true rfl) ?_
  intro p e s m below meth c ls hx hb hr hts hown hlk hnm hml hex hl hC
  have hown : s.vm.findClass "java/util/ArrayList" = some m.cls := hown
  have hl : lv_has ls 4 [(0, .ref (K 1)), (1, .ref a), (2, .ref ea), (3, .int (nI vs.length))] := hl
  refine lv_iload_n hx hb d_A_add1_0 rfl (lv_at hl 3 rfl) ?_
  refine lv_aload_n hx hb d_A_add1_1 rfl (lv_at hl 2 rfl) ?_
  obtain ⟨q0, hq0⟩ : ∃ k, (wC K ca RL LP fv FR day ever mo (nI vs.length) ea wr ch ring ((ea, .inl (ca 3, vs.length, .inr (.inr (.inr (.inr el))))) :: rest))[k]? = some ((ea, .inl (ca 3, vs.length, .inr (.inr (.inr (.inr el))))) : Nat × va_E) := List.getElem?_of_mem (by simp [wC])
  refine t_alen (v := nI vs.length) hx hb hC q0 3 hq0 rfl rfl d_A_add1_2 ?_
  refine lv_icmp_ne (tgt := 11) hx hb d_A_add1_3 (by decide) (fun c3 => ?_) (fun c3 => ?_)
  · exact absurd rfl c3
  · skip
    refine lv_aload_n hx hb d_A_add1_6 rfl (lv_at hl 0 rfl) ?_
    refine t_call (t_invV (As := []) (rest := []) hx hb hown (hts _ w_323) (hts _ w_325) (hts _ s_A_grow0) (hts _ w_326) ⟨by decide, by decide⟩ (t_recv (q0 := 1) hC rfl rfl) rfl d_A_add1_7) (c_A_grow0_F hv0 hv40 hel) zz_c tb_good hts w_4 hC (hl.1.trans hml.symm) ⟨Nat.le_of_ble_eq_true rfl, Nat.le_of_ble_eq_true rfl, Nat.le_of_ble_eq_true rfl, Nat.le_of_ble_eq_true rfl⟩ (Nat.le_of_ble_eq_true rfl) (fun E q ce w1 H1 l1 hp => hp.elim) (fun v w1 H locs hp hC => ?_)
    obtain ⟨q, rfl, hwe9⟩ := hp
    rw [hwe9] at hC
    have hC : tC D cls (ty0 ca) A (zz e0 A) s (wC K ca RL LP fv FR day ever mo (nI vs.length) q wr ch ring ((q, .inl (ca 3, (vs.length + max 1 (vs.length / 2)), .inr (.inr (.inr (.inr (va_cpy el (fun _ => none) 0 0 vs.length)))))) :: rest)) H locs := hC
    refine W.eq (g2 := F0 m 10 ls [.ref q]) rfl ?_
    refine lv_astore_n (lv' := [(2, .ref q), (0, .ref (K 1)), (1, .ref a), (3, .int (nI vs.length))]) hx hb d_A_add1_10 rfl hl (by decide) rfl (fun ls hl => ?_)
    refine lv_aload_n hx hb d_A_add1_11 rfl (lv_at hl 0 rfl) ?_
    refine lv_iload_n hx hb d_A_add1_12 rfl (lv_at hl 3 rfl) ?_
    refine lv_aload_n hx hb d_A_add1_13 rfl (lv_at hl 2 rfl) ?_
    obtain ⟨qk, hqk⟩ := wC_N (ex := [(q, .inl (ca 3, (vs.length + max 1 (vs.length / 2)), .inr (.inr (.inr (.inr (va_cpy el (fun _ => none) 0 0 vs.length))))))]) (wC_out hC) ha
    have hC := wC_out hC
    refine t_astqO hx hb hC 0 3 qk 3 rfl rfl (zz_cast hC.2.2.2.2.2 (by decide +kernel)) hqk rfl (vp_in_nI (by omega) (by omega)) d_A_add1_14 (fun H locs hC => ?_)
    rw [nI_clamp (by omega)] at hC
    have hC := wC_in hC
    have hC : tC D cls (ty0 ca) A (zz e0 A) s (wC K ca RL LP fv FR day ever mo (nI vs.length) q wr ch ring ((q, .inl (ca 3, (vs.length + max 1 (vs.length / 2)), .inr (.inr (.inr (.inr (va_up (va_cpy el (fun _ => none) 0 0 vs.length) vs.length (some a))))))) :: rest)) H locs := hC
    refine lv_aload_n hx hb d_A_add1_15 rfl (lv_at hl 1 rfl) ?_
    refine lv_iload_n hx hb d_A_add1_16 rfl (lv_at hl 3 rfl) ?_
    refine lv_iconst (v := 1) hx hb d_A_add1_17 (by decide) ?_
    refine lv_iadd hx hb d_A_add1_18 ?_
    rw [nI_1]
    refine t_put (ty := .int) (v := .int (nI (vs.length + 1))) hx hb hts inA TA tyA nmA hown hC 1 rfl rfl 2 (by decide) (hts _ w_45) (fun _ h => h) rfl (by decide +kernel) rfl rfl (Nat.le_of_ble_eq_true rfl) d_A_add1_19 (fun H locs hC => ?_)
    have hC : tC D cls (ty0 ca) A (zz e0 A) s (wC K ca RL LP fv FR day ever mo (nI (vs.length + 1)) q wr ch ring ((q, .inl (ca 3, (vs.length + max 1 (vs.length / 2)), .inr (.inr (.inr (.inr (va_up (va_cpy el (fun _ => none) 0 0 vs.length) vs.length (some a))))))) :: rest)) H locs := hC
    exact t_vret hx hb hr hlk zz_c hC (⟨rfl, q, rfl⟩) (Nat.le_of_ble_eq_true rfl) (Nat.le_of_ble_eq_true rfl) d_A_add1_22

set_option maxRecDepth 100000 in
set_option maxHeartbeats 4000000 in
theorem c_A_add1_N {l : Launch} {D : va_G} {A : Nat → Prop} {e0 : Nat → Nat} {K : Nat → Nat} {ca : Nat → ClassId} {RL LP : List Nat} {fv FR : Nat → RW} {day ever mo : Int32} {ea : Nat} {wr : Int32} {ch : Int64} {ring : Nat → Int32} {rest : va_W} {vs : List Nat} {cap : Nat} {el : Nat → Option Nat} (hvc : vs.length < cap) (hc60 : cap ≤ 60) {a : Nat} (ha : a ∈ LP) : tM l y_A_add1 tb ({ frames := 1, cells := 1, slots := 60, locals := 200 }) D cls (ty0 ca) A (zz e0 A) [.ref (K 1), .ref a, .ref ea, .int (nI vs.length)] (wC K ca RL LP fv FR day ever mo (nI vs.length) ea wr ch ring ((ea, .inl (ca 3, cap, .inr (.inr (.inr (.inr el))))) :: rest)) (fun v w2 => v = none ∧ w2 = wC K ca RL LP fv FR day ever mo (nI (vs.length + 1)) ea wr ch ring ((ea, .inl (ca 3, cap, .inr (.inr (.inr (.inr (va_up el vs.length (some a))))))) :: rest)) (xN) := by
  refine t_ofW (by decide) w_322 (Nat.le_of_ble_eq_true rfl) ?_
  intro p e s m below meth c ls hx hb hr hts hown hlk hnm hml hex hl hC
  have hown : s.vm.findClass "java/util/ArrayList" = some m.cls := hown
  have hl : lv_has ls 4 [(0, .ref (K 1)), (1, .ref a), (2, .ref ea), (3, .int (nI vs.length))] := hl
  refine lv_iload_n hx hb d_A_add1_0 rfl (lv_at hl 3 rfl) ?_
  refine lv_aload_n hx hb d_A_add1_1 rfl (lv_at hl 2 rfl) ?_
  obtain ⟨q0, hq0⟩ : ∃ k, (wC K ca RL LP fv FR day ever mo (nI vs.length) ea wr ch ring ((ea, .inl (ca 3, cap, .inr (.inr (.inr (.inr el))))) :: rest))[k]? = some ((ea, .inl (ca 3, cap, .inr (.inr (.inr (.inr el))))) : Nat × va_E) := List.getElem?_of_mem (by simp [wC])
  refine t_alen (v := nI cap) hx hb hC q0 3 hq0 rfl rfl d_A_add1_2 ?_
  refine lv_icmp_ne (tgt := 11) hx hb d_A_add1_3 (by decide) (fun c3 => ?_) (fun c3 => ?_)
  · skip
    refine lv_aload_n hx hb d_A_add1_11 rfl (lv_at hl 2 rfl) ?_
    refine lv_iload_n hx hb d_A_add1_12 rfl (lv_at hl 3 rfl) ?_
    refine lv_aload_n hx hb d_A_add1_13 rfl (lv_at hl 1 rfl) ?_
    obtain ⟨qk, hqk⟩ := wC_N (ex := [(ea, .inl (ca 3, cap, .inr (.inr (.inr (.inr el)))))]) (wC_out hC) ha
    have hC := wC_out hC
    refine t_astqO hx hb hC 0 3 qk 3 rfl rfl (zz_cast hC.2.2.2.2.2 (by decide +kernel)) hqk rfl (vp_in_nI (by omega) (by omega)) d_A_add1_14 (fun H locs hC => ?_)
    rw [nI_clamp (by omega)] at hC
    have hC := wC_in hC
    have hC : tC D cls (ty0 ca) A (zz e0 A) s (wC K ca RL LP fv FR day ever mo (nI vs.length) ea wr ch ring ((ea, .inl (ca 3, cap, .inr (.inr (.inr (.inr (va_up el vs.length (some a))))))) :: rest)) H locs := hC
    refine lv_aload_n hx hb d_A_add1_15 rfl (lv_at hl 0 rfl) ?_
    refine lv_iload_n hx hb d_A_add1_16 rfl (lv_at hl 3 rfl) ?_
    refine lv_iconst (v := 1) hx hb d_A_add1_17 (by decide) ?_
    refine lv_iadd hx hb d_A_add1_18 ?_
    rw [nI_1]
    refine t_put (ty := .int) (v := .int (nI (vs.length + 1))) hx hb hts inA TA tyA nmA hown hC 1 rfl rfl 2 (by decide) (hts _ w_45) (fun _ h => h) rfl (by decide +kernel) rfl rfl (Nat.le_of_ble_eq_true rfl) d_A_add1_19 (fun H locs hC => ?_)
    have hC : tC D cls (ty0 ca) A (zz e0 A) s (wC K ca RL LP fv FR day ever mo (nI (vs.length + 1)) ea wr ch ring ((ea, .inl (ca 3, cap, .inr (.inr (.inr (.inr (va_up el vs.length (some a))))))) :: rest)) H locs := hC
    exact t_vret hx hb hr hlk zz_c hC (⟨rfl, rfl⟩) (Nat.le_of_ble_eq_true rfl) (Nat.le_of_ble_eq_true rfl) d_A_add1_22
  · exact absurd ((nI_eq (by omega) (by omega)).mp c3) (by omega)
end
section
/-! The list: add and remove, as lists. Laid by program (wip/whole/p18.py) -/
theorem t_monoM {l : Launch} {y : MethodName} {Ts : List Cond} {rm : Room} {D : va_G} {cl : List vw_C} {tys : List (ClassId × FieldType)} {A : Nat → Prop} {Z : State → Heap → Prop} {av : List Value} {w0 : va_W} {Po Po' : Option Value → va_W → Prop} {Xo Xo' : String → va_W → Prop} (h : tM l y Ts rm D cl tys A Z av w0 Po Xo) (hP : ∀ v w, Po v w → Po' v w) (hX : ∀ E w, Xo E w → Xo' E w) : tM l y Ts rm D cl tys A Z av w0 Po' Xo' := by
  intro p e h1 h2 h3 s m args below hf ha hPre hK
  obtain ⟨n, o, a1, a2, a3, a4⟩ := h p e h1 h2 h3 s m args below hf ha hPre hK
  refine ⟨n, o, a1, a2, a3, ?_⟩
  rcases a4 with ⟨v, b1, ⟨b2, w, b3, b4⟩, b5⟩ | ⟨q, E, ce, L, b1, ⟨b2, w, b3, b4⟩, b5⟩
  · exact Or.inl ⟨v, b1, ⟨b2, w, hP v w b3, b4⟩, b5⟩
  · exact Or.inr ⟨q, E, ce, L, b1, ⟨b2, w, hX E w b3, b4⟩, b5⟩
theorem el_add {vs : List Nat} {f : Nat → Option Nat} {a : Nat} (h : ∀ i, i < vs.length → f i = vs[i]?) : ∀ i, i < (vs ++ [a]).length → va_up f vs.length (some a) i = (vs ++ [a])[i]? := by
  intro i hi
  rw [List.length_append, List.length_singleton] at hi
  by_cases e : i = vs.length
  · subst e; simp [va_up]
  · rw [List.getElem?_append_left (by omega)]
    simp only [va_up, if_neg e]
    exact h i (by omega)
theorem el_cpy {f g : Nat → Option Nat} {n i : Nat} (h : i < n) : va_cpy f g 0 0 n i = f i := by
  simp only [va_cpy, Nat.zero_add]
  rw [if_pos ⟨by omega, h⟩]
  rfl
theorem nI_subN {a b : Nat} (h : b ≤ a) : nI a - nI b = nI (a - b) := by
  have e : nI a = nI (a - b) + nI b := by rw [nI_add, Nat.sub_add_cancel h]
  rw [e, Int32.add_sub_cancel]
theorem el_rem {vs : List Nat} {f : Nat → Option Nat} {i k : Nat} (hk : vs.length = k + 1) (hik : i ≤ k) (h : ∀ j, j < vs.length → f j = vs[j]?) : ∀ j, j < (vs.eraseIdx i).length → va_up (va_cpy f f (i + 1) i (k - i)) k none j = (vs.eraseIdx i)[j]? := by
  intro j hj
  rw [List.length_eraseIdx, if_pos (by omega)] at hj
  rw [List.getElem?_eraseIdx]
  simp only [va_up, va_cpy]
  rw [if_neg (by omega)]
  by_cases hji : j < i
  · rw [if_neg (by omega), if_pos hji]; exact h j (by omega)
  · rw [if_pos (by omega), if_neg hji, show i + 1 + (j - i) = j + 1 by omega]; exact h (j + 1) (by omega)
theorem cpy0 {f : Nat → Option Nat} {k : Nat} : va_cpy f f (k + 1) k 0 = f := by
  funext j
  simp only [va_cpy]
  rw [if_neg (by omega)]

set_option maxRecDepth 100000 in
set_option maxHeartbeats 4000000 in
theorem c_A_add1_E2 {l : Launch} {D : va_G} {A : Nat → Prop} {e0 : Nat → Nat} {K : Nat → Nat} {ca : Nat → ClassId} {RL LP : List Nat} {fv FR : Nat → RW} {day ever mo : Int32} {wr : Int32} {ch : Int64} {ring : Nat → Int32} {rest : va_W} {a : Nat} (ha : a ∈ LP) : tM l y_A_add1 tb ({ frames := 5, cells := 1, slots := 60, locals := 127 }) D cls (ty0 ca) A (zz e0 A) [.ref (K 1), .ref a, .ref (e0 0), .int (nI 0)] (wC K ca RL LP fv FR day ever mo (nI 0) (e0 0) wr ch ring rest) (fun v w2 => v = none ∧ ∃ q, w2 = wC K ca RL LP fv FR day ever mo (nI (0 + 1)) q wr ch ring ((q, .inl (ca 3, 10, .inr (.inr (.inr (.inr (va_up (fun _ => none) 0 (some a))))))) :: rest)) (xN) := by
  refine t_ofW (by decide) w_322 (Nat.le_of_ble_eq_true rfl) ?_
  intro p e s m below meth c ls hx hb hr hts hown hlk hnm hml hex hl hC
  have hown : s.vm.findClass "java/util/ArrayList" = some m.cls := hown
  have hl : lv_has ls 4 [(0, .ref (K 1)), (1, .ref a), (2, .ref (e0 0)), (3, .int (nI 0))] := hl
  refine lv_iload_n hx hb d_A_add1_0 rfl (lv_at hl 3 rfl) ?_
  refine lv_aload_n hx hb d_A_add1_1 rfl (lv_at hl 2 rfl) ?_
  refine t_alen0 hx hb hC d_A_add1_2 ?_
  refine lv_icmp_ne (tgt := 11) hx hb d_A_add1_3 (by decide) (fun c3 => ?_) (fun c3 => ?_)
  · exact absurd rfl c3
  · skip
    refine lv_aload_n hx hb d_A_add1_6 rfl (lv_at hl 0 rfl) ?_
    refine t_call (t_invV (As := []) (rest := []) hx hb hown (hts _ w_323) (hts _ w_325) (hts _ s_A_grow0) (hts _ w_326) ⟨by decide, by decide⟩ (t_recv (q0 := 1) hC rfl rfl) rfl d_A_add1_7) c_A_grow0_E zz_c tb_good hts w_4 hC (hl.1.trans hml.symm) ⟨Nat.le_of_ble_eq_true rfl, Nat.le_of_ble_eq_true rfl, Nat.le_of_ble_eq_true rfl, Nat.le_of_ble_eq_true rfl⟩ (Nat.le_of_ble_eq_true rfl) (fun E q ce w1 H1 l1 hp => hp.elim) (fun v w1 H locs hp hC => ?_)
    obtain ⟨q, rfl, hwe9⟩ := hp
    rw [hwe9] at hC
    have hC : tC D cls (ty0 ca) A (zz e0 A) s (wC K ca RL LP fv FR day ever mo (nI 0) q wr ch ring ((q, .inl (ca 3, 10, .inr (.inr (.inr (.inr (fun _ => none)))))) :: rest)) H locs := hC
    refine W.eq (g2 := F0 m 10 ls [.ref q]) rfl ?_
    refine lv_astore_n (lv' := [(2, .ref q), (0, .ref (K 1)), (1, .ref a), (3, .int (nI 0))]) hx hb d_A_add1_10 rfl hl (by decide) rfl (fun ls hl => ?_)
    refine lv_aload_n hx hb d_A_add1_11 rfl (lv_at hl 0 rfl) ?_
    refine lv_iload_n hx hb d_A_add1_12 rfl (lv_at hl 3 rfl) ?_
    refine lv_aload_n hx hb d_A_add1_13 rfl (lv_at hl 2 rfl) ?_
    obtain ⟨qk, hqk⟩ := wC_N (ex := [(q, .inl (ca 3, 10, .inr (.inr (.inr (.inr (fun _ => none))))))]) (wC_out hC) ha
    have hC := wC_out hC
    refine t_astqO hx hb hC 0 3 qk 3 rfl rfl (zz_cast hC.2.2.2.2.2 (by decide +kernel)) hqk rfl (vp_in_nI (by omega) (by omega)) d_A_add1_14 (fun H locs hC => ?_)
    rw [nI_clamp (by omega)] at hC
    have hC := wC_in hC
    have hC : tC D cls (ty0 ca) A (zz e0 A) s (wC K ca RL LP fv FR day ever mo (nI 0) q wr ch ring ((q, .inl (ca 3, 10, .inr (.inr (.inr (.inr (va_up (fun _ => none) 0 (some a))))))) :: rest)) H locs := hC
    refine lv_aload_n hx hb d_A_add1_15 rfl (lv_at hl 1 rfl) ?_
    refine lv_iload_n hx hb d_A_add1_16 rfl (lv_at hl 3 rfl) ?_
    refine lv_iconst (v := 1) hx hb d_A_add1_17 (by decide) ?_
    refine lv_iadd hx hb d_A_add1_18 ?_
    rw [nI_1]
    refine t_put (ty := .int) (v := .int (nI (0 + 1))) hx hb hts inA TA tyA nmA hown hC 1 rfl rfl 2 (by decide) (hts _ w_45) (fun _ h => h) rfl (by decide +kernel) rfl rfl (Nat.le_of_ble_eq_true rfl) d_A_add1_19 (fun H locs hC => ?_)
    have hC : tC D cls (ty0 ca) A (zz e0 A) s (wC K ca RL LP fv FR day ever mo (nI (0 + 1)) q wr ch ring ((q, .inl (ca 3, 10, .inr (.inr (.inr (.inr (va_up (fun _ => none) 0 (some a))))))) :: rest)) H locs := hC
    exact t_vret hx hb hr hlk zz_c hC (⟨rfl, q, rfl⟩) (Nat.le_of_ble_eq_true rfl) (Nat.le_of_ble_eq_true rfl) d_A_add1_22

set_option maxRecDepth 100000 in
set_option maxHeartbeats 4000000 in
theorem c_A_add1_N2 {l : Launch} {D : va_G} {A : Nat → Prop} {e0 : Nat → Nat} {K : Nat → Nat} {ca : Nat → ClassId} {RL LP : List Nat} {fv FR : Nat → RW} {day ever mo : Int32} {ea : Nat} {wr : Int32} {ch : Int64} {ring : Nat → Int32} {rest : va_W} {vs : List Nat} {cap : Nat} {el : Nat → Option Nat} (hvc : vs.length < cap) (hc60 : cap ≤ 60) {a : Nat} (ha : a ∈ LP) : tM l y_A_add1 tb ({ frames := 5, cells := 1, slots := 60, locals := 127 }) D cls (ty0 ca) A (zz e0 A) [.ref (K 1), .ref a, .ref ea, .int (nI vs.length)] (wC K ca RL LP fv FR day ever mo (nI vs.length) ea wr ch ring ((ea, .inl (ca 3, cap, .inr (.inr (.inr (.inr el))))) :: rest)) (fun v w2 => v = none ∧ w2 = wC K ca RL LP fv FR day ever mo (nI (vs.length + 1)) ea wr ch ring ((ea, .inl (ca 3, cap, .inr (.inr (.inr (.inr (va_up el vs.length (some a))))))) :: rest)) (xN) := by
  refine t_ofW (by decide) w_322 (Nat.le_of_ble_eq_true rfl) ?_
  intro p e s m below meth c ls hx hb hr hts hown hlk hnm hml hex hl hC
  have hown : s.vm.findClass "java/util/ArrayList" = some m.cls := hown
  have hl : lv_has ls 4 [(0, .ref (K 1)), (1, .ref a), (2, .ref ea), (3, .int (nI vs.length))] := hl
  refine lv_iload_n hx hb d_A_add1_0 rfl (lv_at hl 3 rfl) ?_
  refine lv_aload_n hx hb d_A_add1_1 rfl (lv_at hl 2 rfl) ?_
  obtain ⟨q0, hq0⟩ : ∃ k, (wC K ca RL LP fv FR day ever mo (nI vs.length) ea wr ch ring ((ea, .inl (ca 3, cap, .inr (.inr (.inr (.inr el))))) :: rest))[k]? = some ((ea, .inl (ca 3, cap, .inr (.inr (.inr (.inr el))))) : Nat × va_E) := List.getElem?_of_mem (by simp [wC])
  refine t_alen (v := nI cap) hx hb hC q0 3 hq0 rfl rfl d_A_add1_2 ?_
  refine lv_icmp_ne (tgt := 11) hx hb d_A_add1_3 (by decide) (fun c3 => ?_) (fun c3 => ?_)
  · skip
    refine lv_aload_n hx hb d_A_add1_11 rfl (lv_at hl 2 rfl) ?_
    refine lv_iload_n hx hb d_A_add1_12 rfl (lv_at hl 3 rfl) ?_
    refine lv_aload_n hx hb d_A_add1_13 rfl (lv_at hl 1 rfl) ?_
    obtain ⟨qk, hqk⟩ := wC_N (ex := [(ea, .inl (ca 3, cap, .inr (.inr (.inr (.inr el)))))]) (wC_out hC) ha
    have hC := wC_out hC
    refine t_astqO hx hb hC 0 3 qk 3 rfl rfl (zz_cast hC.2.2.2.2.2 (by decide +kernel)) hqk rfl (vp_in_nI (by omega) (by omega)) d_A_add1_14 (fun H locs hC => ?_)
    rw [nI_clamp (by omega)] at hC
    have hC := wC_in hC
    have hC : tC D cls (ty0 ca) A (zz e0 A) s (wC K ca RL LP fv FR day ever mo (nI vs.length) ea wr ch ring ((ea, .inl (ca 3, cap, .inr (.inr (.inr (.inr (va_up el vs.length (some a))))))) :: rest)) H locs := hC
    refine lv_aload_n hx hb d_A_add1_15 rfl (lv_at hl 0 rfl) ?_
    refine lv_iload_n hx hb d_A_add1_16 rfl (lv_at hl 3 rfl) ?_
    refine lv_iconst (v := 1) hx hb d_A_add1_17 (by decide) ?_
    refine lv_iadd hx hb d_A_add1_18 ?_
    rw [nI_1]
    refine t_put (ty := .int) (v := .int (nI (vs.length + 1))) hx hb hts inA TA tyA nmA hown hC 1 rfl rfl 2 (by decide) (hts _ w_45) (fun _ h => h) rfl (by decide +kernel) rfl rfl (Nat.le_of_ble_eq_true rfl) d_A_add1_19 (fun H locs hC => ?_)
    have hC : tC D cls (ty0 ca) A (zz e0 A) s (wC K ca RL LP fv FR day ever mo (nI (vs.length + 1)) ea wr ch ring ((ea, .inl (ca 3, cap, .inr (.inr (.inr (.inr (va_up el vs.length (some a))))))) :: rest)) H locs := hC
    exact t_vret hx hb hr hlk zz_c hC (⟨rfl, rfl⟩) (Nat.le_of_ble_eq_true rfl) (Nat.le_of_ble_eq_true rfl) d_A_add1_22
  · exact absurd ((nI_eq (by omega) (by omega)).mp c3) (by omega)

theorem c_A_add1 {l : Launch} {D : va_G} {A : Nat → Prop} {e0 : Nat → Nat} {K : Nat → Nat} {ca : Nat → ClassId} {RL LP : List Nat} {fv FR : Nat → RW} {day ever mo : Int32} {ea : Nat} {wr : Int32} {ch : Int64} {ring : Nat → Int32} {rest : va_W} {vs : List Nat} {eo : va_W} {a : Nat} (hLR : LR e0 ca vs ea eo) (hvL : ∀ y ∈ vs, y ∈ LP) (hv40 : vs.length < 40) (ha : a ∈ LP) : tM l y_A_add1 tb ({ frames := 5, cells := 1, slots := 60, locals := 127 }) D cls (ty0 ca) A (zz e0 A) [.ref (K 1), .ref a, .ref ea, .int (nI vs.length)] (wC K ca RL LP fv FR day ever mo (nI vs.length) ea wr ch ring (eo ++ rest)) (fun v w2 => v = none ∧ ∃ ea2 eo2, LR e0 ca (vs ++ [a]) ea2 eo2 ∧ w2 = wC K ca RL LP fv FR day ever mo (nI (vs.length + 1)) ea2 wr ch ring (eo2 ++ rest)) xN := by
  rcases hLR with ⟨rfl, rfl, rfl⟩ | ⟨cap, el, rfl, hlc, hc, hel⟩
  · refine t_monoM (c_A_add1_E2 ha) ?_ (fun _ _ h => h)
    rintro v w2 ⟨rfl, q, rfl⟩
    exact ⟨rfl, q, _, Or.inr ⟨10, _, rfl, by simp, by omega, el_add (vs := []) (f := fun _ => none) (fun i hi => absurd hi (by simp))⟩, rfl⟩
  · by_cases h : vs.length = cap
    · subst h
      refine t_monoM (c_A_add1_F hc.1 hv40 (fun i y hi hy => hvL y (List.mem_of_getElem? ((hel i hi).symm.trans hy))) ha) ?_ (fun _ _ h => h)
      rintro v w2 ⟨rfl, q, rfl⟩
      exact ⟨rfl, q, _, Or.inr ⟨_, _, rfl, by rw [List.length_append, List.length_singleton]; omega, by omega, el_add (fun i hi => (el_cpy hi).trans (hel i hi))⟩, rfl⟩
    · refine t_monoM (c_A_add1_N2 (by omega) hc.2 ha) ?_ (fun _ _ h => h)
      rintro v w2 ⟨rfl, rfl⟩
      exact ⟨rfl, ea, _, Or.inr ⟨cap, _, rfl, by rw [List.length_append, List.length_singleton]; omega, hc, el_add hel⟩, rfl⟩

set_option maxRecDepth 100000 in
set_option maxHeartbeats 4000000 in
theorem c_A_add0 {l : Launch} {D : va_G} {A : Nat → Prop} {e0 : Nat → Nat} {K : Nat → Nat} {ca : Nat → ClassId} {RL LP : List Nat} {fv FR : Nat → RW} {day ever mo : Int32} {ea : Nat} {wr : Int32} {ch : Int64} {ring : Nat → Int32} {rest : va_W} {vs : List Nat} {eo : va_W} {a : Nat} (hLR : LR e0 ca vs ea eo) (hvL : ∀ y ∈ vs, y ∈ LP) (hv40 : vs.length < 40) (ha : a ∈ LP) : tM l y_A_add0 tb ({ frames := 6, cells := 1, slots := 60, locals := 150 }) D cls (ty0 ca) A (zz e0 A) [.ref (K 1), .ref a] (wC K ca RL LP fv FR day ever mo (nI vs.length) ea wr ch ring (eo ++ rest)) (fun v w2 => v = some (.int 1) ∧ ∃ ea2 eo2, LR e0 ca (vs ++ [a]) ea2 eo2 ∧ w2 = wC K ca RL LP fv FR day ever (mo + 1) (nI (vs.length + 1)) ea2 wr ch ring (eo2 ++ rest)) (xN) := by
  refine t_ofW (by decide) w_318 (Nat.le_of_ble_eq_true rfl) ?_
  intro p e s m below meth c ls hx hb hr hts hown hlk hnm hml hex hl hC
  have hown : s.vm.findClass "java/util/ArrayList" = some m.cls := hown
  have hl : lv_has ls 2 [(0, .ref (K 1)), (1, .ref a)] := hl
  refine lv_aload_n hx hb d_A_add0_0 rfl (lv_at hl 0 rfl) ?_
  refine lv_dup hx hb d_A_add0_1 rfl ?_
  refine t_get (v := .int mo) hx hb hts inA hown hC 1 rfl rfl 0 (by decide) (hts _ w_47) (fun x9 h9 => u_same (hts _ w_48) x9 h9) rfl d_A_add0_2 ?_
  refine lv_iconst (v := 1) hx hb d_A_add0_5 (by decide) ?_
  refine lv_iadd hx hb d_A_add0_6 ?_
  refine t_put (ty := .int) (v := .int (mo + 1)) hx hb hts inA TA tyA nmA hown hC 1 rfl rfl 0 (by decide) (hts _ w_47) (fun x9 h9 => u_same (hts _ w_48) x9 h9) rfl (by decide +kernel) rfl rfl (Nat.le_of_ble_eq_true rfl) d_A_add0_7 (fun H locs hC => ?_)
  have hC : tC D cls (ty0 ca) A (zz e0 A) s (wC K ca RL LP fv FR day ever (mo + 1) (nI vs.length) ea wr ch ring (eo ++ rest)) H locs := hC
  refine lv_aload_n hx hb d_A_add0_10 rfl (lv_at hl 0 rfl) ?_
  refine lv_aload_n hx hb d_A_add0_11 rfl (lv_at hl 1 rfl) ?_
  refine lv_aload_n hx hb d_A_add0_12 rfl (lv_at hl 0 rfl) ?_
  refine t_get (v := .ref ea) hx hb hts inA hown hC 1 rfl rfl 1 (by decide) (hts _ w_44) (fun _ h => h) rfl d_A_add0_13 ?_
  refine lv_aload_n hx hb d_A_add0_16 rfl (lv_at hl 0 rfl) ?_
  refine t_get (v := .int (nI vs.length)) hx hb hts inA hown hC 1 rfl rfl 2 (by decide) (hts _ w_45) (fun _ h => h) rfl d_A_add0_17 ?_
  refine t_call (t_invV (As := [.ref a, .ref ea, .int (nI vs.length)]) (rest := []) hx hb hown (hts _ w_319) (hts _ w_321) (hts _ s_A_add1) (hts _ w_322) ⟨by decide, by decide⟩ (t_recv (q0 := 1) hC rfl rfl) rfl d_A_add0_20) (c_A_add1 hLR hvL hv40 ha) zz_c tb_good hts w_4 hC (hl.1.trans hml.symm) ⟨Nat.le_of_ble_eq_true rfl, Nat.le_of_ble_eq_true rfl, Nat.le_of_ble_eq_true rfl, Nat.le_of_ble_eq_true rfl⟩ (Nat.le_of_ble_eq_true rfl) (fun E q ce w1 H1 l1 hp => hp.elim) (fun v w1 H locs hp hC => ?_)
  obtain ⟨rfl, ea2, eo2, hLR2, hwe9⟩ := hp
  rw [hwe9] at hC
  have hC : tC D cls (ty0 ca) A (zz e0 A) s (wC K ca RL LP fv FR day ever (mo + 1) (nI (vs.length + 1)) ea2 wr ch ring (eo2 ++ rest)) H locs := hC
  refine W.eq (g2 := F0 m 23 ls []) rfl ?_
  refine lv_iconst (v := 1) hx hb d_A_add0_23 (by decide) ?_
  exact t_zret hx hb hr hlk (Or.inr rfl) zz_c hC (⟨rfl, ea2, eo2, hLR2, rfl⟩) (Nat.le_of_ble_eq_true rfl) (Nat.le_of_ble_eq_true rfl) d_A_add0_24

set_option maxRecDepth 100000 in
set_option maxHeartbeats 4000000 in
theorem c_A_fastRemove {l : Launch} {D : va_G} {A : Nat → Prop} {e0 : Nat → Nat} {K : Nat → Nat} {ca : Nat → ClassId} {RL LP : List Nat} {fv FR : Nat → RW} {day ever mo : Int32} {ea : Nat} {wr : Int32} {ch : Int64} {ring : Nat → Int32} {rest : va_W} {k i cap : Nat} {el : Nat → Option Nat} (hik : i ≤ k) (hkc : k < cap) (hc60 : cap ≤ 60) (hel : ∀ j y, j < k + 1 → el j = some y → y ∈ LP) : tM l y_A_fastRemove tb ({ frames := 1, cells := 0, slots := 0, locals := 40 }) D cls (ty0 ca) A (zz e0 A) [.ref (K 1), .ref ea, .int (nI i)] (wC K ca RL LP fv FR day ever mo (nI (k + 1)) ea wr ch ring ((ea, .inl (ca 3, cap, .inr (.inr (.inr (.inr el))))) :: rest)) (fun v w2 => v = none ∧ w2 = wC K ca RL LP fv FR day ever (mo + 1) (nI k) ea wr ch ring ((ea, .inl (ca 3, cap, .inr (.inr (.inr (.inr (va_up (va_cpy el el (i + 1) i (k - i)) k none)))))) :: rest)) (xN) := by
  refine t_ofW (by decide) w_453 (Nat.le_of_ble_eq_true rfl) ?_
  intro p e s m below meth c ls hx hb hr hts hown hlk hnm hml hex hl hC
  have hown : s.vm.findClass "java/util/ArrayList" = some m.cls := hown
  have hl : lv_has ls 4 [(0, .ref (K 1)), (1, .ref ea), (2, .int (nI i))] := hl
  refine lv_aload_n hx hb d_A_fastRemove_0 rfl (lv_at hl 0 rfl) ?_
  refine lv_dup hx hb d_A_fastRemove_1 rfl ?_
  refine t_get (v := .int mo) hx hb hts inA hown hC 1 rfl rfl 0 (by decide) (hts _ w_47) (fun x9 h9 => u_same (hts _ w_48) x9 h9) rfl d_A_fastRemove_2 ?_
  refine lv_iconst (v := 1) hx hb d_A_fastRemove_5 (by decide) ?_
  refine lv_iadd hx hb d_A_fastRemove_6 ?_
  refine t_put (ty := .int) (v := .int (mo + 1)) hx hb hts inA TA tyA nmA hown hC 1 rfl rfl 0 (by decide) (hts _ w_47) (fun x9 h9 => u_same (hts _ w_48) x9 h9) rfl (by decide +kernel) rfl rfl (Nat.le_of_ble_eq_true rfl) d_A_fastRemove_7 (fun H locs hC => ?_)
  have hC : tC D cls (ty0 ca) A (zz e0 A) s (wC K ca RL LP fv FR day ever (mo + 1) (nI (k + 1)) ea wr ch ring ((ea, .inl (ca 3, cap, .inr (.inr (.inr (.inr el))))) :: rest)) H locs := hC
  refine lv_aload_n hx hb d_A_fastRemove_10 rfl (lv_at hl 0 rfl) ?_
  refine t_get (v := .int (nI (k + 1))) hx hb hts inA hown hC 1 rfl rfl 2 (by decide) (hts _ w_45) (fun _ h => h) rfl d_A_fastRemove_11 ?_
  refine lv_iconst (v := 1) hx hb d_A_fastRemove_14 (by decide) ?_
  refine lv_isub hx hb d_A_fastRemove_15 ?_
  rw [nI_pred]
  refine lv_dup hx hb d_A_fastRemove_16 rfl ?_
  refine lv_istore_n (lv' := [(3, .int (nI k)), (0, .ref (K 1)), (1, .ref ea), (2, .int (nI i))]) hx hb d_A_fastRemove_17 rfl hl (by decide) rfl (fun ls hl => ?_)
  refine lv_iload_n hx hb d_A_fastRemove_18 rfl (lv_at hl 3 rfl) ?_
  refine lv_icmp_le (tgt := 34) hx hb d_A_fastRemove_19 (by decide) (fun c19 => ?_) (fun c19 => ?_)
  · skip
    have hki : i = k := Nat.le_antisymm hik ((nI_leI (by omega) (by omega)).mp c19)
    have hcp : el = (va_cpy el el (i + 1) i (k - i)) := by rw [hki, Nat.sub_self]; exact cpy0.symm
    have hC : tC D cls (ty0 ca) A (zz e0 A) s (wC K ca RL LP fv FR day ever (mo + 1) (nI (k + 1)) ea wr ch ring ((ea, .inl (ca 3, cap, .inr (.inr (.inr (.inr (va_cpy el el (i + 1) i (k - i))))))) :: rest)) H locs := by rw [← hcp]; exact hC
    refine lv_aload_n hx hb d_A_fastRemove_34 rfl (lv_at hl 2 rfl) ?_
    refine lv_aload_n hx hb d_A_fastRemove_35 rfl (lv_at hl 1 rfl) ?_
    refine lv_iload_n hx hb d_A_fastRemove_36 rfl (lv_at hl 0 rfl) ?_
    refine lv_dup_x1 hx hb d_A_fastRemove_37 rfl rfl ?_
    refine t_put (ty := .int) (v := .int (nI k)) hx hb hts inA TA tyA nmA hown hC 1 rfl rfl 2 (by decide) (hts _ w_45) (fun _ h => h) rfl (by decide +kernel) rfl rfl (Nat.le_of_ble_eq_true rfl) d_A_fastRemove_38 (fun H locs hC => ?_)
    have hC : tC D cls (ty0 ca) A (zz e0 A) s (wC K ca RL LP fv FR day ever (mo + 1) (nI k) ea wr ch ring ((ea, .inl (ca 3, cap, .inr (.inr (.inr (.inr (va_cpy el el (i + 1) i (k - i))))))) :: rest)) H locs := hC
    refine lv_null hx hb d_A_fastRemove_41 ?_
    have hC := wC_out hC
    refine t_astqN hx hb hC 0 3 rfl rfl (vp_in_nI (by omega) (by omega)) d_A_fastRemove_42 (fun H locs hC => ?_)
    rw [nI_clamp (n := k) (by omega)] at hC
    have hC := wC_in hC
    have hC : tC D cls (ty0 ca) A (zz e0 A) s (wC K ca RL LP fv FR day ever (mo + 1) (nI k) ea wr ch ring ((ea, .inl (ca 3, cap, .inr (.inr (.inr (.inr (va_up (va_cpy el el (i + 1) i (k - i)) k none)))))) :: rest)) H locs := hC
    exact t_vret hx hb hr hlk zz_c hC (⟨rfl, rfl⟩) (Nat.le_of_ble_eq_true rfl) (Nat.le_of_ble_eq_true rfl) d_A_fastRemove_43
  · skip
    refine lv_aload_n hx hb d_A_fastRemove_22 rfl (lv_at hl 2 rfl) ?_
    refine lv_iload_n hx hb d_A_fastRemove_23 rfl (lv_at hl 3 rfl) ?_
    refine lv_iconst (v := 1) hx hb d_A_fastRemove_24 (by decide) ?_
    refine lv_iadd hx hb d_A_fastRemove_25 ?_
    rw [nI_1]
    refine lv_aload_n hx hb d_A_fastRemove_26 rfl (lv_at hl 2 rfl) ?_
    refine lv_iload_n hx hb d_A_fastRemove_27 rfl (lv_at hl 3 rfl) ?_
    refine lv_iload_n hx hb d_A_fastRemove_28 rfl (lv_at hl 0 rfl) ?_
    refine lv_iload_n hx hb d_A_fastRemove_29 rfl (lv_at hl 3 rfl) ?_
    refine lv_isub hx hb d_A_fastRemove_30 ?_
    rw [nI_subN hik]
    have hC0 := hC
    have hC := wC_out hC
    refine t_copyq hx hb (hml.trans hl.1.symm) hown (hts _ w_454) (hts _ w_369) (hts _ w_368) (hts _ w_19) hC 0 0 3 (cls[3]) rfl rfl rfl (zz_cast hC.2.2.2.2.2 (by decide +kernel)) (sp := nI (i + 1)) (dp := nI i) (n := nI (k - i)) (nI_pos (by omega)) (nI_pos (by omega)) (nI_pos (by omega)) (by rw [nI_clamp (by omega), nI_clamp (by omega)]; omega) (by rw [nI_clamp (by omega), nI_clamp (by omega)]; omega) (fun j hj y hy => wC_recvN hC0 (hel (i + 1 + j) y (by rw [nI_clamp (by omega)] at hj; omega) (by rw [nI_clamp (n := i + 1) (by omega)] at hy; exact hy))) (Nat.le_of_ble_eq_true rfl) (Nat.le_of_ble_eq_true rfl) d_A_fastRemove_31 (fun H locs hC => ?_)
    rw [nI_clamp (n := i + 1) (by omega), nI_clamp (n := i) (by omega), nI_clamp (n := k - i) (by omega)] at hC
    have hC := wC_in hC
    have hC : tC D cls (ty0 ca) A (zz e0 A) s (wC K ca RL LP fv FR day ever (mo + 1) (nI (k + 1)) ea wr ch ring ((ea, .inl (ca 3, cap, .inr (.inr (.inr (.inr (va_cpy el el (i + 1) i (k - i))))))) :: rest)) H locs := hC
    refine lv_aload_n hx hb d_A_fastRemove_34 rfl (lv_at hl 2 rfl) ?_
    refine lv_aload_n hx hb d_A_fastRemove_35 rfl (lv_at hl 1 rfl) ?_
    refine lv_iload_n hx hb d_A_fastRemove_36 rfl (lv_at hl 0 rfl) ?_
    refine lv_dup_x1 hx hb d_A_fastRemove_37 rfl rfl ?_
    refine t_put (ty := .int) (v := .int (nI k)) hx hb hts inA TA tyA nmA hown hC 1 rfl rfl 2 (by decide) (hts _ w_45) (fun _ h => h) rfl (by decide +kernel) rfl rfl (Nat.le_of_ble_eq_true rfl) d_A_fastRemove_38 (fun H locs hC => ?_)
    have hC : tC D cls (ty0 ca) A (zz e0 A) s (wC K ca RL LP fv FR day ever (mo + 1) (nI k) ea wr ch ring ((ea, .inl (ca 3, cap, .inr (.inr (.inr (.inr (va_cpy el el (i + 1) i (k - i))))))) :: rest)) H locs := hC
    refine lv_null hx hb d_A_fastRemove_41 ?_
    have hC := wC_out hC
    refine t_astqN hx hb hC 0 3 rfl rfl (vp_in_nI (by omega) (by omega)) d_A_fastRemove_42 (fun H locs hC => ?_)
    rw [nI_clamp (n := k) (by omega)] at hC
    have hC := wC_in hC
    have hC : tC D cls (ty0 ca) A (zz e0 A) s (wC K ca RL LP fv FR day ever (mo + 1) (nI k) ea wr ch ring ((ea, .inl (ca 3, cap, .inr (.inr (.inr (.inr (va_up (va_cpy el el (i + 1) i (k - i)) k none)))))) :: rest)) H locs := hC
    exact t_vret hx hb hr hlk zz_c hC (⟨rfl, rfl⟩) (Nat.le_of_ble_eq_true rfl) (Nat.le_of_ble_eq_true rfl) d_A_fastRemove_43

set_option maxRecDepth 100000 in
set_option maxHeartbeats 4000000 in
theorem c_A_remove_k {l : Launch} {D : va_G} {A : Nat → Prop} {e0 : Nat → Nat} {K : Nat → Nat} {ca : Nat → ClassId} {RL LP : List Nat} {fv FR : Nat → RW} {day ever mo : Int32} {ea : Nat} {wr : Int32} {ch : Int64} {ring : Nat → Int32} {rest : va_W} {k i cap : Nat} {el : Nat → Option Nat} (hik : i ≤ k) (hkc : k < cap) (hc60 : cap ≤ 60) (hel : ∀ j y, j < k + 1 → el j = some y → y ∈ LP) {a : Nat} (hei : el i = some a) : tM l y_A_remove tb ({ frames := 2, cells := 0, slots := 0, locals := 63 }) D cls (ty0 ca) A (zz e0 A) [.ref (K 1), .int (nI i)] (wC K ca RL LP fv FR day ever mo (nI (k + 1)) ea wr ch ring ((ea, .inl (ca 3, cap, .inr (.inr (.inr (.inr el))))) :: rest)) (fun v w2 => v = some (.ref a) ∧ w2 = wC K ca RL LP fv FR day ever (mo + 1) (nI k) ea wr ch ring ((ea, .inl (ca 3, cap, .inr (.inr (.inr (.inr (va_up (va_cpy el el (i + 1) i (k - i)) k none)))))) :: rest)) (xN) := by
  refine t_ofW (by decide) w_449 (Nat.le_of_ble_eq_true rfl) ?_
  intro p e s m below meth c ls hx hb hr hts hown hlk hnm hml hex hl hC
  have hown : s.vm.findClass "java/util/ArrayList" = some m.cls := hown
  have hl : lv_has ls 4 [(0, .ref (K 1)), (1, .int (nI i))] := hl
  have h0 : ¬ nI i < 0 := nI_pos (by omega)
  have h1 : nI i < nI (k + 1) := nI_lt (by omega) (by omega)
  refine lv_iload_n hx hb d_A_remove_0 rfl (lv_at hl 1 rfl) ?_
  refine lv_aload_n hx hb d_A_remove_1 rfl (lv_at hl 0 rfl) ?_
  refine t_get (v := .int (nI (k + 1))) hx hb hts inA hown hC 1 rfl rfl 2 (by decide) (hts _ w_45) (fun _ h => h) rfl d_A_remove_2 ?_
  refine t_call (t_invS (As := [.int (nI i), .int (nI (k + 1))]) (rest := []) hx hb hown (hts _ w_305) (hts _ w_306) (hts _ w_14) (hts _ w_307) ⟨by decide, by decide⟩ rfl d_A_remove_5) (c_OB_checkIndex zz_c h0 h1) zz_c tb_good hts w_14 hC (hl.1.trans hml.symm) ⟨Nat.le_of_ble_eq_true rfl, Nat.le_of_ble_eq_true rfl, Nat.le_of_ble_eq_true rfl, Nat.le_of_ble_eq_true rfl⟩ (Nat.le_of_ble_eq_true rfl) (fun E q ce w1 H1 l1 hp => hp.elim) (fun v w1 H locs hp hC => ?_)
  obtain ⟨rfl, hwe9⟩ := hp
  rw [hwe9] at hC
  have hC : tC D cls (ty0 ca) A (zz e0 A) s (wC K ca RL LP fv FR day ever mo (nI (k + 1)) ea wr ch ring ((ea, .inl (ca 3, cap, .inr (.inr (.inr (.inr el))))) :: rest)) H locs := hC
  refine W.eq (g2 := F0 m 8 ls [.int (nI i)]) rfl ?_
  refine lv_pop hx hb d_A_remove_8 rfl ?_
  refine lv_aload_n hx hb d_A_remove_9 rfl (lv_at hl 0 rfl) ?_
  refine t_get (v := .ref ea) hx hb hts inA hown hC 1 rfl rfl 1 (by decide) (hts _ w_44) (fun _ h => h) rfl d_A_remove_10 ?_
  refine lv_astore_n (lv' := [(2, .ref ea), (0, .ref (K 1)), (1, .int (nI i))]) hx hb d_A_remove_13 rfl hl (by decide) rfl (fun ls hl => ?_)
  refine lv_aload_n hx hb d_A_remove_14 rfl (lv_at hl 0 rfl) ?_
  refine lv_iload_n hx hb d_A_remove_15 rfl (lv_at hl 2 rfl) ?_
  have hC9 := wC_out hC
  refine t_aldq (C := "java/lang/Object") hx hb hC9 0 3 rfl rfl (vp_in_nI (by omega) (by omega)) d_A_remove_16 ?_
  rw [nI_clamp (n := i) (by omega), hei]
  refine W.eq (g2 := F0 m 17 ls [.ref a]) rfl ?_
  refine lv_astore_n (lv' := [(3, .ref a), (2, .ref ea), (0, .ref (K 1)), (1, .int (nI i))]) hx hb d_A_remove_17 rfl hl (by decide) rfl (fun ls hl => ?_)
  refine lv_aload_n hx hb d_A_remove_18 rfl (lv_at hl 2 rfl) ?_
  refine lv_aload_n hx hb d_A_remove_19 rfl (lv_at hl 1 rfl) ?_
  refine lv_iload_n hx hb d_A_remove_20 rfl (lv_at hl 3 rfl) ?_
  refine t_call (t_invV (As := [.ref ea, .int (nI i)]) (rest := []) hx hb hown (hts _ w_450) (hts _ w_452) (hts _ s_A_fastRemove) (hts _ w_453) ⟨by decide, by decide⟩ (t_recv (q0 := 1) hC rfl rfl) rfl d_A_remove_21) (c_A_fastRemove hik hkc hc60 hel) zz_c tb_good hts w_4 hC (hl.1.trans hml.symm) ⟨Nat.le_of_ble_eq_true rfl, Nat.le_of_ble_eq_true rfl, Nat.le_of_ble_eq_true rfl, Nat.le_of_ble_eq_true rfl⟩ (Nat.le_of_ble_eq_true rfl) (fun E q ce w1 H1 l1 hp => hp.elim) (fun v w1 H locs hp hC => ?_)
  obtain ⟨rfl, hwe9⟩ := hp
  rw [hwe9] at hC
  have hC : tC D cls (ty0 ca) A (zz e0 A) s (wC K ca RL LP fv FR day ever (mo + 1) (nI k) ea wr ch ring ((ea, .inl (ca 3, cap, .inr (.inr (.inr (.inr (va_up (va_cpy el el (i + 1) i (k - i)) k none)))))) :: rest)) H locs := hC
  refine W.eq (g2 := F0 m 24 ls []) rfl ?_
  refine lv_aload_n hx hb d_A_remove_24 rfl (lv_at hl 0 rfl) ?_
  exact t_aret (r := some a) hx hb hr (Or.inl ⟨_, rfl⟩) hlk zz_c hC (⟨rfl, rfl⟩) (Nat.le_of_ble_eq_true rfl) (Nat.le_of_ble_eq_true rfl) d_A_remove_25

theorem c_A_remove {l : Launch} {D : va_G} {A : Nat → Prop} {e0 : Nat → Nat} {K : Nat → Nat} {ca : Nat → ClassId} {RL LP : List Nat} {fv FR : Nat → RW} {day ever mo : Int32} {ea : Nat} {wr : Int32} {ch : Int64} {ring : Nat → Int32} {rest : va_W} {vs : List Nat} {eo : va_W} {i a : Nat} (hLR : LR e0 ca vs ea eo) (hvL : ∀ y ∈ vs, y ∈ LP) (hi : vs[i]? = some a) : tM l y_A_remove tb ({ frames := 2, cells := 0, slots := 0, locals := 63 }) D cls (ty0 ca) A (zz e0 A) [.ref (K 1), .int (nI i)] (wC K ca RL LP fv FR day ever mo (nI vs.length) ea wr ch ring (eo ++ rest)) (fun v w2 => v = some (.ref a) ∧ ∃ eo2, LR e0 ca (vs.eraseIdx i) ea eo2 ∧ w2 = wC K ca RL LP fv FR day ever (mo + 1) (nI (vs.eraseIdx i).length) ea wr ch ring (eo2 ++ rest)) xN := by
  obtain ⟨hil, hie⟩ := List.getElem?_eq_some_iff.mp hi
  obtain ⟨k, hk⟩ : ∃ k, vs.length = k + 1 := ⟨vs.length - 1, by omega⟩
  rcases hLR with ⟨rfl, -⟩ | ⟨cap, el, rfl, hlc, hc, hel⟩
  · cases hi
  · have h := c_A_remove_k (l := l) (D := D) (A := A) (e0 := e0) (K := K) (ca := ca) (RL := RL) (LP := LP) (fv := fv) (FR := FR) (day := day) (ever := ever) (mo := mo) (ea := ea) (wr := wr) (ch := ch) (ring := ring) (rest := rest) (k := k) (i := i) (cap := cap) (el := el) (by omega) (by omega) hc.2 (fun j y hj hy => hvL y (List.mem_of_getElem? ((hel j (by omega)).symm.trans hy))) ((hel i hil).trans hi)
    rw [← hk] at h
    refine t_monoM h ?_ (fun _ _ h => h)
    rintro v w2 ⟨rfl, rfl⟩
    have hl2 : (vs.eraseIdx i).length = k := by rw [List.length_eraseIdx, if_pos hil]; omega
    refine ⟨rfl, _, Or.inr ⟨cap, _, rfl, by omega, hc, el_rem hk (by omega) hel⟩, ?_⟩
    rw [hl2]
    rfl
end
section
/-! The vault: add and takeAway. Laid by program (wip/whole/p20.py) -/
theorem lt_bind_none {vs : List Nat} {fv : Nat → RW} {key : Int32} (h : (rw_latest (vs.map fv) key).bind (fun i => vs[i]?) = none) : rw_latest (vs.map fv) key = none := by
  cases e : rw_latest (vs.map fv) key with
  | none => rfl
  | some i =>
    rw [e] at h
    have hl := (rw_last_some.mp e).1
    rw [List.length_map] at hl
    have h2 : vs[i]? = none := h
    rw [List.getElem?_eq_getElem hl] at h2
    cases h2
theorem lt_bind_some {vs : List Nat} {fv : Nat → RW} {key : Int32} {o : Nat} (h : (rw_latest (vs.map fv) key).bind (fun i => vs[i]?) = some o) : ∃ i, rw_latest (vs.map fv) key = some i ∧ vs[i]? = some o := by
  cases e : rw_latest (vs.map fv) key with
  | none => rw [e] at h; cases h
  | some i => rw [e] at h; exact ⟨i, rfl, h⟩
theorem map_up {vs : List Nat} {fv : Nat → RW} {i o : Nat} {r : RW} (hnd : vs.Nodup) (hi : vs[i]? = some o) : vs.map (va_up fv o r) = (vs.map fv).set i r := by
  apply List.ext_getElem?
  intro j
  rw [List.getElem?_map, List.getElem?_set]
  by_cases e : i = j
  · subst e
    have hl := (List.getElem?_eq_some_iff.mp hi).1
    rw [if_pos rfl, if_pos (by rw [List.length_map]; exact hl), hi]
    simp [va_up]
  · rw [if_neg e, List.getElem?_map]
    cases h : vs[j]? with
    | none => rfl
    | some b =>
      have hne : b ≠ o := fun q => e (nd_inj hnd hi (by rw [h, q]))
      simp [va_up, hne]
theorem map_out {vs : List Nat} {fv : Nat → RW} {o : Nat} {r : RW} (h : o ∉ vs) : vs.map (va_up fv o r) = vs.map fv := by
  apply List.map_congr_left
  intro b hb
  have hne : b ≠ o := fun q => h (q ▸ hb)
  simp [va_up, hne]
theorem old_none {vs : List Nat} {fv : Nat → RW} {day key : Int32} (h : (rw_latest (vs.map fv) key).bind (fun i => vs[i]?) = none) : vs.map fv = rw_old (vs.map fv) day key := by
  unfold rw_old
  rw [lt_bind_none h]
theorem old_some {vs : List Nat} {fv : Nat → RW} {day key : Int32} {o : Nat} (hnd : vs.Nodup) (h : (rw_latest (vs.map fv) key).bind (fun i => vs[i]?) = some o) : vs.map (va_up fv o (upd (upd (fv o) 6 0) 7 day)) = rw_old (vs.map fv) day key := by
  obtain ⟨i, h1, h2⟩ := lt_bind_some h
  unfold rw_old
  rw [h1, map_up hnd h2]
  show _ = (vs.map fv).set i _
  rw [rw_at_map h2]
theorem new_none {vs : List Nat} {fv : Nat → RW} {key : Int32} (h : (rw_latest (vs.map fv) key).bind (fun i => vs[i]?) = none) : vs.map fv = rw_new (vs.map fv) key := by
  unfold rw_new
  rw [lt_bind_none h]
theorem new_some {vs : List Nat} {fv : Nat → RW} {key : Int32} {o : Nat} (hnd : vs.Nodup) (h : (rw_latest (vs.map fv) key).bind (fun i => vs[i]?) = some o) : vs.map (va_up fv o (upd (fv o) 6 1)) = rw_new (vs.map fv) key := by
  obtain ⟨i, h1, h2⟩ := lt_bind_some h
  unfold rw_new
  rw [h1, map_up hnd h2]
  show _ = (vs.map fv).set i _
  rw [rw_at_map h2]
theorem lt_vs {vs : List Nat} {r : Option Nat} {o : Nat} (h : r.bind (fun i => vs[i]?) = some o) : o ∈ vs := by
  cases r with
  | none => cases h
  | some i => exact List.mem_of_getElem? (show vs[i]? = some o from h)
theorem map_erase {vs : List Nat} {fv : Nat → RW} {i : Nat} : (vs.eraseIdx i).map fv = (vs.map fv).eraseIdx i := by
  apply List.ext_getElem?
  intro j
  rw [List.getElem?_map, List.getElem?_eraseIdx, List.getElem?_eraseIdx]
  split <;> rw [List.getElem?_map]
theorem erase_not {vs : List Nat} (hnd : vs.Nodup) {i a : Nat} (hi : vs[i]? = some a) : a ∉ vs.eraseIdx i := by
  intro h
  obtain ⟨j, hj⟩ := List.getElem?_of_mem h
  rw [List.getElem?_eraseIdx] at hj
  split at hj
  · have := nd_inj hnd hi hj; omega
  · have := nd_inj hnd hi hj; omega
/-- a world of the vault: its list vs, its rows, its log; all older versions still pooled, and those outside the list as they were -/
def cQ (e0 : Nat → Nat) (K : Nat → Nat) (ca : Nat → ClassId) (RL : List Nat) (FR : Nat → RW) (rest : va_W) (LP : List Nat) (fv : Nat → RW) (day ever : Int32) (L : LG) (rows : List RW) (vs : List Nat) (w : va_W) : Prop :=
  ∃ (LP2 : List Nat) (fv2 : Nat → RW) (mo2 : Int32) (ea2 : Nat) (eo2 : va_W), cI e0 ca vs LP2 ea2 eo2 ∧ vs.map fv2 = rows ∧ (∀ b ∈ LP, b ∈ LP2 ∧ (b ∉ vs → fv2 b = fv b)) ∧ w = wC K ca RL LP2 fv2 FR day ever mo2 (nI vs.length) ea2 (nI L.2.1) L.2.2 L.1 (eo2 ++ rest)

set_option maxRecDepth 100000 in
set_option maxHeartbeats 4000000 in
theorem c_V_add {l : Launch} {D : va_G} {A : Nat → Prop} {e0 : Nat → Nat} {K : Nat → Nat} {ca : Nat → ClassId} {RL LP : List Nat} {fv FR : Nat → RW} {day ever mo : Int32} {ea : Nat} {ch : Int64} {ring : Nat → Int32} {rest : va_W} {vs : List Nat} {eo : va_W} (hI : cI e0 ca vs LP ea eo) {w9 : Nat} (hw9 : w9 < 2 ^ 31) {a : Nat} (ha : a ∈ LP) (hav0 : a ∉ vs) (hroom : vs.length < 40) : tM l y_V_add tb ({ frames := 7, cells := 1, slots := 60, locals := 171 }) D cls (ty0 ca) A (zz e0 A) [.ref (K 0), .ref a] (wC K ca RL LP fv FR day ever mo (nI vs.length) ea (nI w9) ch ring (eo ++ rest)) (fun v w2 => v = some (.int (fv a 0)) ∧ cQ e0 K ca RL FR rest LP fv day (ever + 1) (lg_wr (ring, w9, ch) day (if fv a 5 = -1 then 2 else 1) (fv a 0) (fv a 1)) (rw_add (vs.map fv) day (fv a)) (vs ++ [a]) w2) (xN) := by
  refine t_ofW (by decide) w_296 (Nat.le_of_ble_eq_true rfl) ?_
  intro p e s m below meth c ls hx hb hr hts hown hlk hnm hml hex hl hC
  have hown : s.vm.findClass "RetentionVault" = some m.cls := hown
  have hl : lv_has ls 3 [(0, .ref (K 0)), (1, .ref a)] := hl
  obtain ⟨hLR, hvL, hnd, h40⟩ := hI
  refine lv_aload_n hx hb d_V_add_0 rfl (lv_at hl 0 rfl) ?_
  refine lv_aload_n hx hb d_V_add_1 rfl (lv_at hl 1 rfl) ?_
  refine t_getP hx hb hts inN hown hC ha rfl 1 (by decide) (hts _ w_239) (fun _ h => h) d_V_add_2 ?_
  refine t_call (t_invV (As := [.int (fv a 1)]) (rest := []) hx hb hown (hts _ w_297) (hts _ w_299) (hts _ s_V_latestOf) (hts _ w_300) ⟨by decide, by decide⟩ (t_recv (q0 := 0) hC rfl rfl) rfl d_V_add_5) (c_V_latestOf ⟨hLR, hvL, hnd, h40⟩) zz_c tb_good hts w_1 hC (hl.1.trans hml.symm) ⟨Nat.le_of_ble_eq_true rfl, Nat.le_of_ble_eq_true rfl, Nat.le_of_ble_eq_true rfl, Nat.le_of_ble_eq_true rfl⟩ (Nat.le_of_ble_eq_true rfl) (fun E q ce w1 H1 l1 hp => hp.elim) (fun v w1 H locs hp hC => ?_)
  obtain ⟨rfl, hwe9⟩ := hp
  rw [hwe9] at hC
  have hC : tC D cls (ty0 ca) A (zz e0 A) s (wC K ca RL LP fv FR day ever mo (nI vs.length) ea (nI w9) ch ring (eo ++ rest)) H locs := hC
  refine W.eq (g2 := F0 m 8 ls [va_rf ((rw_latest (vs.map fv) (fv a 1)).bind (fun i => vs[i]?))]) rfl ?_
  rcases op_two ((rw_latest (vs.map fv) (fv a 1)).bind (fun i => vs[i]?)) with hlt | ⟨o, hlt⟩
  · refine W.eq (g2 := F0 m 8 ls [.null]) (by rw [hlt]; rfl) ?_
    refine lv_astore_nN (lv' := [(2, .null), (0, .ref (K 0)), (1, .ref a)]) hx hb d_V_add_8 rfl hl (by decide) rfl (fun ls hl => ?_)
    refine lv_aload_nN hx hb d_V_add_9 rfl (lv_at hl 0 rfl) ?_
    refine lv_ifnullN (tgt := 26) hx hb d_V_add_10 (by decide) ?_
    have hmap : vs.map fv = rw_old (vs.map fv) day (fv a 1) := old_none hlt
    obtain ⟨fv2, hf2⟩ : ∃ z, z = fv := ⟨_, rfl⟩
    have hout : ∀ b, b ∉ vs → fv2 b = fv b := fun b _ => by rw [hf2]
    have hmap : vs.map fv2 = rw_old (vs.map fv) day (fv a 1) := by rw [hf2]; exact hmap
    have hC : tC D cls (ty0 ca) A (zz e0 A) s (wC K ca RL LP fv2 FR day ever mo (nI vs.length) ea (nI w9) ch ring (eo ++ rest)) H locs := by rw [hf2]; exact hC
    have hfa : fv2 a = fv a := hout a hav0
    refine lv_aload_n hx hb d_V_add_26 rfl (lv_at hl 1 rfl) ?_
    refine t_get (v := .ref (K 1)) hx hb hts inV hown hC 0 rfl rfl 0 (by decide) (hts _ w_97) (fun _ h => h) rfl d_V_add_27 ?_
    refine lv_aload_n hx hb d_V_add_30 rfl (lv_at hl 2 rfl) ?_
    refine t_call (t_invV (As := [.ref a]) (rest := []) hx hb hown (hts _ w_315) (hts _ w_316) (hts _ w_317) (hts _ w_318) ⟨by decide, by decide⟩ (t_recv (q0 := 1) hC rfl rfl) rfl d_V_add_31) (c_A_add0 hLR hvL hroom ha) zz_c tb_good hts w_4 hC (hl.1.trans hml.symm) ⟨Nat.le_of_ble_eq_true rfl, Nat.le_of_ble_eq_true rfl, Nat.le_of_ble_eq_true rfl, Nat.le_of_ble_eq_true rfl⟩ (Nat.le_of_ble_eq_true rfl) (fun E q ce w1 H1 l1 hp => hp.elim) (fun v w1 H locs hp hC => ?_)
    obtain ⟨rfl, ea2, eo2, hLR2, hwe9⟩ := hp
    rw [hwe9] at hC
    have hC : tC D cls (ty0 ca) A (zz e0 A) s (wC K ca RL LP fv2 FR day ever (mo + 1) (nI (vs.length + 1)) ea2 (nI w9) ch ring (eo2 ++ rest)) H locs := hC
    refine W.eq (g2 := F0 m 34 ls [.int 1]) rfl ?_
    refine lv_pop hx hb d_V_add_34 rfl ?_
    refine lv_aload_n hx hb d_V_add_35 rfl (lv_at hl 1 rfl) ?_
    refine lv_dup hx hb d_V_add_36 rfl ?_
    refine t_get (v := .int ever) hx hb hts inV hown hC 0 rfl rfl 4 (by decide) (hts _ w_101) (fun _ h => h) rfl d_V_add_37 ?_
    refine lv_iconst (v := 1) hx hb d_V_add_40 (by decide) ?_
    refine lv_iadd hx hb d_V_add_41 ?_
    refine t_put (ty := .int) (v := .int (ever + 1)) hx hb hts inV TV tyV nmV hown hC 0 rfl rfl 4 (by decide) (hts _ w_101) (fun _ h => h) rfl (by decide +kernel) rfl rfl (Nat.le_of_ble_eq_true rfl) d_V_add_42 (fun H locs hC => ?_)
    have hC : tC D cls (ty0 ca) A (zz e0 A) s (wC K ca RL LP fv2 FR day (ever + 1) (mo + 1) (nI (vs.length + 1)) ea2 (nI w9) ch ring (eo2 ++ rest)) H locs := hC
    refine lv_aload_n hx hb d_V_add_45 rfl (lv_at hl 1 rfl) ?_
    refine t_get (v := .ref (K 3)) hx hb hts inV hown hC 0 rfl rfl 2 (by decide) (hts _ w_99) (fun _ h => h) rfl d_V_add_46 ?_
    refine lv_aload_n hx hb d_V_add_49 rfl (lv_at hl 1 rfl) ?_
    refine t_get (v := .int day) hx hb hts inV hown hC 0 rfl rfl 3 (by decide) (hts _ w_100) (fun _ h => h) rfl d_V_add_50 ?_
    refine lv_aload_n hx hb d_V_add_53 rfl (lv_at hl 2 rfl) ?_
    refine t_call (t_invV (As := []) (rest := [.int day, .ref (K 3)]) hx hb hown (hts _ w_372) (hts _ w_373) (hts _ w_374) (hts _ w_375) ⟨by decide, by decide⟩ (t_recvP hC ha rfl rfl) rfl d_V_add_54) (c_N_isMarker zz_c ha) zz_c tb_good hts w_13 hC (hl.1.trans hml.symm) ⟨Nat.le_of_ble_eq_true rfl, Nat.le_of_ble_eq_true rfl, Nat.le_of_ble_eq_true rfl, Nat.le_of_ble_eq_true rfl⟩ (Nat.le_of_ble_eq_true rfl) (fun E q ce w1 H1 l1 hp => hp.elim) (fun v w1 H locs hp hC => ?_)
    obtain ⟨rfl, hwe9⟩ := hp
    rw [hwe9] at hC
    have hC : tC D cls (ty0 ca) A (zz e0 A) s (wC K ca RL LP fv2 FR day (ever + 1) (mo + 1) (nI (vs.length + 1)) ea2 (nI w9) ch ring (eo2 ++ rest)) H locs := hC
    refine W.eq (g2 := F0 m 57 ls [.int (bI (fv2 a 5 = -1)), .int day, .ref (K 3)]) rfl ?_
    refine lv_if_eq (tgt := 64) hx hb d_V_add_57 (by decide) (fun c57 => ?_) (fun c57 => ?_)
    · skip
      refine lv_iconst (v := 1) hx hb d_V_add_64 (by decide) ?_
      refine lv_aload_n hx hb d_V_add_65 rfl (lv_at hl 2 rfl) ?_
      refine t_getP hx hb hts inN hown hC ha rfl 0 (by decide) (hts _ w_237) (fun _ h => h) d_V_add_66 ?_
      refine lv_aload_n hx hb d_V_add_69 rfl (lv_at hl 2 rfl) ?_
      refine t_getP hx hb hts inN hown hC ha rfl 1 (by decide) (hts _ w_239) (fun _ h => h) d_V_add_70 ?_
      refine t_call (t_invV (As := [.int day, .int 1, .int (fv2 a 0), .int (fv2 a 1)]) (rest := []) hx hb hown (hts _ w_376) (hts _ w_377) (hts _ w_378) (hts _ w_379) ⟨by decide, by decide⟩ (t_recv (q0 := 3) hC rfl rfl) rfl d_V_add_73) (c_G_write hw9) zz_c tb_good hts w_6 hC (hl.1.trans hml.symm) ⟨Nat.le_of_ble_eq_true rfl, Nat.le_of_ble_eq_true rfl, Nat.le_of_ble_eq_true rfl, Nat.le_of_ble_eq_true rfl⟩ (Nat.le_of_ble_eq_true rfl) (fun E q ce w1 H1 l1 hp => hp.elim) (fun v w1 H locs hp hC => ?_)
      obtain ⟨rfl, rfl⟩ := hp
      have hC : tC D cls (ty0 ca) A (zz e0 A) s (wC K ca RL LP fv2 FR day (ever + 1) (mo + 1) (nI (vs.length + 1)) ea2 (nI (w9 + 1)) ((lg_wr (ring, w9, ch) day 1 (fv2 a 0) (fv2 a 1)).2.2) ((lg_wr (ring, w9, ch) day 1 (fv2 a 0) (fv2 a 1)).1) (eo2 ++ rest)) H locs := hC
      refine W.eq (g2 := F0 m 76 ls []) rfl ?_
      refine lv_aload_n hx hb d_V_add_76 rfl (lv_at hl 2 rfl) ?_
      refine t_getP hx hb hts inN hown hC ha rfl 0 (by decide) (hts _ w_237) (fun _ h => h) d_V_add_77 ?_
      exact t_iret hx hb hr hlk zz_c hC (⟨by rw [← hfa], LP, fv2, mo + 1, ea2, eo2, ⟨hLR2, fun b hb => (List.mem_append.mp hb).elim (hvL b) (fun h => by rw [List.mem_singleton.mp h]; exact ha), List.nodup_append.mpr ⟨hnd, by simp, fun x hx y hy => by rw [List.mem_singleton.mp hy]; exact fun h => hav0 (h ▸ hx)⟩, by rw [List.length_append, List.length_singleton]; omega⟩, by rw [List.map_append, hmap]; show rw_old (vs.map fv) day (fv a 1) ++ [fv2 a] = _; rw [hfa]; rfl, fun b hb => ⟨hb, fun hb2 => hout b (fun h => hb2 (List.mem_append_left _ h))⟩, by rw [hfa] at *; rw [if_neg (bI_ne.mp c57), List.length_append, List.length_singleton]; rfl⟩) (Nat.le_of_ble_eq_true rfl) (Nat.le_of_ble_eq_true rfl) d_V_add_80
    · skip
      refine lv_iconst (v := 2) hx hb d_V_add_60 (by decide) ?_
      refine lv_goto (tgt := 65) hx hb d_V_add_61 (by decide) ?_
      refine lv_aload_n hx hb d_V_add_65 rfl (lv_at hl 2 rfl) ?_
      refine t_getP hx hb hts inN hown hC ha rfl 0 (by decide) (hts _ w_237) (fun _ h => h) d_V_add_66 ?_
      refine lv_aload_n hx hb d_V_add_69 rfl (lv_at hl 2 rfl) ?_
      refine t_getP hx hb hts inN hown hC ha rfl 1 (by decide) (hts _ w_239) (fun _ h => h) d_V_add_70 ?_
      refine t_call (t_invV (As := [.int day, .int 2, .int (fv2 a 0), .int (fv2 a 1)]) (rest := []) hx hb hown (hts _ w_376) (hts _ w_377) (hts _ w_378) (hts _ w_379) ⟨by decide, by decide⟩ (t_recv (q0 := 3) hC rfl rfl) rfl d_V_add_73) (c_G_write hw9) zz_c tb_good hts w_6 hC (hl.1.trans hml.symm) ⟨Nat.le_of_ble_eq_true rfl, Nat.le_of_ble_eq_true rfl, Nat.le_of_ble_eq_true rfl, Nat.le_of_ble_eq_true rfl⟩ (Nat.le_of_ble_eq_true rfl) (fun E q ce w1 H1 l1 hp => hp.elim) (fun v w1 H locs hp hC => ?_)
      obtain ⟨rfl, rfl⟩ := hp
      have hC : tC D cls (ty0 ca) A (zz e0 A) s (wC K ca RL LP fv2 FR day (ever + 1) (mo + 1) (nI (vs.length + 1)) ea2 (nI (w9 + 1)) ((lg_wr (ring, w9, ch) day 2 (fv2 a 0) (fv2 a 1)).2.2) ((lg_wr (ring, w9, ch) day 2 (fv2 a 0) (fv2 a 1)).1) (eo2 ++ rest)) H locs := hC
      refine W.eq (g2 := F0 m 76 ls []) rfl ?_
      refine lv_aload_n hx hb d_V_add_76 rfl (lv_at hl 2 rfl) ?_
      refine t_getP hx hb hts inN hown hC ha rfl 0 (by decide) (hts _ w_237) (fun _ h => h) d_V_add_77 ?_
      exact t_iret hx hb hr hlk zz_c hC (⟨by rw [← hfa], LP, fv2, mo + 1, ea2, eo2, ⟨hLR2, fun b hb => (List.mem_append.mp hb).elim (hvL b) (fun h => by rw [List.mem_singleton.mp h]; exact ha), List.nodup_append.mpr ⟨hnd, by simp, fun x hx y hy => by rw [List.mem_singleton.mp hy]; exact fun h => hav0 (h ▸ hx)⟩, by rw [List.length_append, List.length_singleton]; omega⟩, by rw [List.map_append, hmap]; show rw_old (vs.map fv) day (fv a 1) ++ [fv2 a] = _; rw [hfa]; rfl, fun b hb => ⟨hb, fun hb2 => hout b (fun h => hb2 (List.mem_append_left _ h))⟩, by rw [hfa] at *; rw [if_pos (Classical.not_not.mp (fun q => c57 (bI_ne.mpr q))), List.length_append, List.length_singleton]; rfl⟩) (Nat.le_of_ble_eq_true rfl) (Nat.le_of_ble_eq_true rfl) d_V_add_80
  · have ho : o ∈ LP := lt_mem hvL hlt
    refine W.eq (g2 := F0 m 8 ls [.ref o]) (by rw [hlt]; rfl) ?_
    refine lv_astore_n (lv' := [(2, .ref o), (0, .ref (K 0)), (1, .ref a)]) hx hb d_V_add_8 rfl hl (by decide) rfl (fun ls hl => ?_)
    refine lv_aload_n hx hb d_V_add_9 rfl (lv_at hl 0 rfl) ?_
    refine lv_ifnull hx hb d_V_add_10 ?_
    refine lv_aload_n hx hb d_V_add_13 rfl (lv_at hl 0 rfl) ?_
    refine lv_iconst (v := 0) hx hb d_V_add_14 (by decide) ?_
    refine t_putP (ty := .boolean) hx hb hts inN TN tyN nmN hown hC ho rfl 6 (by decide) (hts _ w_249) (fun _ h => h) (Or.inl rfl) (by decide +kernel) (rfl) (rfl) d_V_add_15 (fun H locs hC => ?_)
    have hC : tC D cls (ty0 ca) A (zz e0 A) s (wC K ca RL LP (va_up fv o (upd (fv o) 6 0)) FR day ever mo (nI vs.length) ea (nI w9) ch ring (eo ++ rest)) H locs := hC
    refine lv_aload_n hx hb d_V_add_18 rfl (lv_at hl 0 rfl) ?_
    refine lv_aload_n hx hb d_V_add_19 rfl (lv_at hl 1 rfl) ?_
    refine t_get (v := .int day) hx hb hts inV hown hC 0 rfl rfl 3 (by decide) (hts _ w_100) (fun _ h => h) rfl d_V_add_20 ?_
    refine t_putP (ty := .int) hx hb hts inN TN tyN nmN hown hC ho rfl 7 (by decide) (hts _ w_251) (fun _ h => h) (Or.inl rfl) (by decide +kernel) rfl rfl d_V_add_23 (fun H locs hC => ?_)
    have hC : tC D cls (ty0 ca) A (zz e0 A) s (wC K ca RL LP (va_up (va_up fv o (upd (fv o) 6 0)) o (upd ((va_up fv o (upd (fv o) 6 0)) o) 7 day)) FR day ever mo (nI vs.length) ea (nI w9) ch ring (eo ++ rest)) H locs := hC
    have hmap : vs.map (va_up fv o (upd (upd (fv o) 6 0) 7 day)) = rw_old (vs.map fv) day (fv a 1) := old_some hnd hlt
    have hav : a ≠ o := fun h => hav0 (h ▸ lt_vs hlt)
    have hout : ∀ b, b ∉ vs → va_up fv o (upd (upd (fv o) 6 0) 7 day) b = fv b := fun b hb => by simp only [va_up]; rw [if_neg (fun h : b = o => hb (by rw [h]; exact lt_vs hlt))]
    have hC : tC D cls (ty0 ca) A (zz e0 A) s (wC K ca RL LP (va_up fv o (upd (upd (fv o) 6 0) 7 day)) FR day ever mo (nI vs.length) ea (nI w9) ch ring (eo ++ rest)) H locs := by simp only [up_twice, va_up_self] at hC; exact hC
    generalize hf2 : va_up fv o (upd (upd (fv o) 6 0) 7 day) = fv2 at hC hmap hout
    have hfa : fv2 a = fv a := hout a hav0
    refine lv_aload_n hx hb d_V_add_26 rfl (lv_at hl 1 rfl) ?_
    refine t_get (v := .ref (K 1)) hx hb hts inV hown hC 0 rfl rfl 0 (by decide) (hts _ w_97) (fun _ h => h) rfl d_V_add_27 ?_
    refine lv_aload_n hx hb d_V_add_30 rfl (lv_at hl 2 rfl) ?_
    refine t_call (t_invV (As := [.ref a]) (rest := []) hx hb hown (hts _ w_315) (hts _ w_316) (hts _ w_317) (hts _ w_318) ⟨by decide, by decide⟩ (t_recv (q0 := 1) hC rfl rfl) rfl d_V_add_31) (c_A_add0 hLR hvL hroom ha) zz_c tb_good hts w_4 hC (hl.1.trans hml.symm) ⟨Nat.le_of_ble_eq_true rfl, Nat.le_of_ble_eq_true rfl, Nat.le_of_ble_eq_true rfl, Nat.le_of_ble_eq_true rfl⟩ (Nat.le_of_ble_eq_true rfl) (fun E q ce w1 H1 l1 hp => hp.elim) (fun v w1 H locs hp hC => ?_)
    obtain ⟨rfl, ea2, eo2, hLR2, hwe9⟩ := hp
    rw [hwe9] at hC
    have hC : tC D cls (ty0 ca) A (zz e0 A) s (wC K ca RL LP fv2 FR day ever (mo + 1) (nI (vs.length + 1)) ea2 (nI w9) ch ring (eo2 ++ rest)) H locs := hC
    refine W.eq (g2 := F0 m 34 ls [.int 1]) rfl ?_
    refine lv_pop hx hb d_V_add_34 rfl ?_
    refine lv_aload_n hx hb d_V_add_35 rfl (lv_at hl 1 rfl) ?_
    refine lv_dup hx hb d_V_add_36 rfl ?_
    refine t_get (v := .int ever) hx hb hts inV hown hC 0 rfl rfl 4 (by decide) (hts _ w_101) (fun _ h => h) rfl d_V_add_37 ?_
    refine lv_iconst (v := 1) hx hb d_V_add_40 (by decide) ?_
    refine lv_iadd hx hb d_V_add_41 ?_
    refine t_put (ty := .int) (v := .int (ever + 1)) hx hb hts inV TV tyV nmV hown hC 0 rfl rfl 4 (by decide) (hts _ w_101) (fun _ h => h) rfl (by decide +kernel) rfl rfl (Nat.le_of_ble_eq_true rfl) d_V_add_42 (fun H locs hC => ?_)
    have hC : tC D cls (ty0 ca) A (zz e0 A) s (wC K ca RL LP fv2 FR day (ever + 1) (mo + 1) (nI (vs.length + 1)) ea2 (nI w9) ch ring (eo2 ++ rest)) H locs := hC
    refine lv_aload_n hx hb d_V_add_45 rfl (lv_at hl 1 rfl) ?_
    refine t_get (v := .ref (K 3)) hx hb hts inV hown hC 0 rfl rfl 2 (by decide) (hts _ w_99) (fun _ h => h) rfl d_V_add_46 ?_
    refine lv_aload_n hx hb d_V_add_49 rfl (lv_at hl 1 rfl) ?_
    refine t_get (v := .int day) hx hb hts inV hown hC 0 rfl rfl 3 (by decide) (hts _ w_100) (fun _ h => h) rfl d_V_add_50 ?_
    refine lv_aload_n hx hb d_V_add_53 rfl (lv_at hl 2 rfl) ?_
    refine t_call (t_invV (As := []) (rest := [.int day, .ref (K 3)]) hx hb hown (hts _ w_372) (hts _ w_373) (hts _ w_374) (hts _ w_375) ⟨by decide, by decide⟩ (t_recvP hC ha rfl rfl) rfl d_V_add_54) (c_N_isMarker zz_c ha) zz_c tb_good hts w_13 hC (hl.1.trans hml.symm) ⟨Nat.le_of_ble_eq_true rfl, Nat.le_of_ble_eq_true rfl, Nat.le_of_ble_eq_true rfl, Nat.le_of_ble_eq_true rfl⟩ (Nat.le_of_ble_eq_true rfl) (fun E q ce w1 H1 l1 hp => hp.elim) (fun v w1 H locs hp hC => ?_)
    obtain ⟨rfl, hwe9⟩ := hp
    rw [hwe9] at hC
    have hC : tC D cls (ty0 ca) A (zz e0 A) s (wC K ca RL LP fv2 FR day (ever + 1) (mo + 1) (nI (vs.length + 1)) ea2 (nI w9) ch ring (eo2 ++ rest)) H locs := hC
    refine W.eq (g2 := F0 m 57 ls [.int (bI (fv2 a 5 = -1)), .int day, .ref (K 3)]) rfl ?_
    refine lv_if_eq (tgt := 64) hx hb d_V_add_57 (by decide) (fun c57 => ?_) (fun c57 => ?_)
    · skip
      refine lv_iconst (v := 1) hx hb d_V_add_64 (by decide) ?_
      refine lv_aload_n hx hb d_V_add_65 rfl (lv_at hl 2 rfl) ?_
      refine t_getP hx hb hts inN hown hC ha rfl 0 (by decide) (hts _ w_237) (fun _ h => h) d_V_add_66 ?_
      refine lv_aload_n hx hb d_V_add_69 rfl (lv_at hl 2 rfl) ?_
      refine t_getP hx hb hts inN hown hC ha rfl 1 (by decide) (hts _ w_239) (fun _ h => h) d_V_add_70 ?_
      refine t_call (t_invV (As := [.int day, .int 1, .int (fv2 a 0), .int (fv2 a 1)]) (rest := []) hx hb hown (hts _ w_376) (hts _ w_377) (hts _ w_378) (hts _ w_379) ⟨by decide, by decide⟩ (t_recv (q0 := 3) hC rfl rfl) rfl d_V_add_73) (c_G_write hw9) zz_c tb_good hts w_6 hC (hl.1.trans hml.symm) ⟨Nat.le_of_ble_eq_true rfl, Nat.le_of_ble_eq_true rfl, Nat.le_of_ble_eq_true rfl, Nat.le_of_ble_eq_true rfl⟩ (Nat.le_of_ble_eq_true rfl) (fun E q ce w1 H1 l1 hp => hp.elim) (fun v w1 H locs hp hC => ?_)
      obtain ⟨rfl, rfl⟩ := hp
      have hC : tC D cls (ty0 ca) A (zz e0 A) s (wC K ca RL LP fv2 FR day (ever + 1) (mo + 1) (nI (vs.length + 1)) ea2 (nI (w9 + 1)) ((lg_wr (ring, w9, ch) day 1 (fv2 a 0) (fv2 a 1)).2.2) ((lg_wr (ring, w9, ch) day 1 (fv2 a 0) (fv2 a 1)).1) (eo2 ++ rest)) H locs := hC
      refine W.eq (g2 := F0 m 76 ls []) rfl ?_
      refine lv_aload_n hx hb d_V_add_76 rfl (lv_at hl 2 rfl) ?_
      refine t_getP hx hb hts inN hown hC ha rfl 0 (by decide) (hts _ w_237) (fun _ h => h) d_V_add_77 ?_
      exact t_iret hx hb hr hlk zz_c hC (⟨by rw [← hfa], LP, fv2, mo + 1, ea2, eo2, ⟨hLR2, fun b hb => (List.mem_append.mp hb).elim (hvL b) (fun h => by rw [List.mem_singleton.mp h]; exact ha), List.nodup_append.mpr ⟨hnd, by simp, fun x hx y hy => by rw [List.mem_singleton.mp hy]; exact fun h => hav0 (h ▸ hx)⟩, by rw [List.length_append, List.length_singleton]; omega⟩, by rw [List.map_append, hmap]; show rw_old (vs.map fv) day (fv a 1) ++ [fv2 a] = _; rw [hfa]; rfl, fun b hb => ⟨hb, fun hb2 => hout b (fun h => hb2 (List.mem_append_left _ h))⟩, by rw [hfa] at *; rw [if_neg (bI_ne.mp c57), List.length_append, List.length_singleton]; rfl⟩) (Nat.le_of_ble_eq_true rfl) (Nat.le_of_ble_eq_true rfl) d_V_add_80
    · skip
      refine lv_iconst (v := 2) hx hb d_V_add_60 (by decide) ?_
      refine lv_goto (tgt := 65) hx hb d_V_add_61 (by decide) ?_
      refine lv_aload_n hx hb d_V_add_65 rfl (lv_at hl 2 rfl) ?_
      refine t_getP hx hb hts inN hown hC ha rfl 0 (by decide) (hts _ w_237) (fun _ h => h) d_V_add_66 ?_
      refine lv_aload_n hx hb d_V_add_69 rfl (lv_at hl 2 rfl) ?_
      refine t_getP hx hb hts inN hown hC ha rfl 1 (by decide) (hts _ w_239) (fun _ h => h) d_V_add_70 ?_
      refine t_call (t_invV (As := [.int day, .int 2, .int (fv2 a 0), .int (fv2 a 1)]) (rest := []) hx hb hown (hts _ w_376) (hts _ w_377) (hts _ w_378) (hts _ w_379) ⟨by decide, by decide⟩ (t_recv (q0 := 3) hC rfl rfl) rfl d_V_add_73) (c_G_write hw9) zz_c tb_good hts w_6 hC (hl.1.trans hml.symm) ⟨Nat.le_of_ble_eq_true rfl, Nat.le_of_ble_eq_true rfl, Nat.le_of_ble_eq_true rfl, Nat.le_of_ble_eq_true rfl⟩ (Nat.le_of_ble_eq_true rfl) (fun E q ce w1 H1 l1 hp => hp.elim) (fun v w1 H locs hp hC => ?_)
      obtain ⟨rfl, rfl⟩ := hp
      have hC : tC D cls (ty0 ca) A (zz e0 A) s (wC K ca RL LP fv2 FR day (ever + 1) (mo + 1) (nI (vs.length + 1)) ea2 (nI (w9 + 1)) ((lg_wr (ring, w9, ch) day 2 (fv2 a 0) (fv2 a 1)).2.2) ((lg_wr (ring, w9, ch) day 2 (fv2 a 0) (fv2 a 1)).1) (eo2 ++ rest)) H locs := hC
      refine W.eq (g2 := F0 m 76 ls []) rfl ?_
      refine lv_aload_n hx hb d_V_add_76 rfl (lv_at hl 2 rfl) ?_
      refine t_getP hx hb hts inN hown hC ha rfl 0 (by decide) (hts _ w_237) (fun _ h => h) d_V_add_77 ?_
      exact t_iret hx hb hr hlk zz_c hC (⟨by rw [← hfa], LP, fv2, mo + 1, ea2, eo2, ⟨hLR2, fun b hb => (List.mem_append.mp hb).elim (hvL b) (fun h => by rw [List.mem_singleton.mp h]; exact ha), List.nodup_append.mpr ⟨hnd, by simp, fun x hx y hy => by rw [List.mem_singleton.mp hy]; exact fun h => hav0 (h ▸ hx)⟩, by rw [List.length_append, List.length_singleton]; omega⟩, by rw [List.map_append, hmap]; show rw_old (vs.map fv) day (fv a 1) ++ [fv2 a] = _; rw [hfa]; rfl, fun b hb => ⟨hb, fun hb2 => hout b (fun h => hb2 (List.mem_append_left _ h))⟩, by rw [hfa] at *; rw [if_pos (Classical.not_not.mp (fun q => c57 (bI_ne.mpr q))), List.length_append, List.length_singleton]; rfl⟩) (Nat.le_of_ble_eq_true rfl) (Nat.le_of_ble_eq_true rfl) d_V_add_80

set_option maxRecDepth 100000 in
set_option maxHeartbeats 4000000 in
theorem c_V_takeAway {l : Launch} {D : va_G} {A : Nat → Prop} {e0 : Nat → Nat} {K : Nat → Nat} {ca : Nat → ClassId} {RL LP : List Nat} {fv FR : Nat → RW} {day ever mo : Int32} {ea : Nat} {ch : Int64} {ring : Nat → Int32} {rest : va_W} {vs : List Nat} {eo : va_W} (hI : cI e0 ca vs LP ea eo) {w9 : Nat} (hw9 : w9 < 2 ^ 31) {i0 a : Nat} (hi0 : vs[i0]? = some a) : tM l y_V_takeAway tb ({ frames := 4, cells := 0, slots := 0, locals := 87 }) D cls (ty0 ca) A (zz e0 A) [.ref (K 0), .ref a] (wC K ca RL LP fv FR day ever mo (nI vs.length) ea (nI w9) ch ring (eo ++ rest)) (fun v w2 => v = none ∧ cQ e0 K ca RL FR rest LP fv day ever (lg_wr (ring, w9, ch) day 3 (fv a 0) (fv a 1)) (rw_take (vs.map fv) i0) (vs.eraseIdx i0) w2) (xN) := by
  refine t_ofW (by decide) w_445 (Nat.le_of_ble_eq_true rfl) ?_
  intro p e s m below meth c ls hx hb hr hts hown hlk hnm hml hex hl hC
  have hown : s.vm.findClass "RetentionVault" = some m.cls := hown
  have hl : lv_has ls 3 [(0, .ref (K 0)), (1, .ref a)] := hl
  obtain ⟨hLR, hvL, hnd, h40⟩ := hI
  have ha : a ∈ LP := hvL a (List.mem_of_getElem? hi0)
  have hi0l : i0 < vs.length := (List.getElem?_eq_some_iff.mp hi0).1
  refine lv_iconst (v := 0) hx hb d_V_takeAway_0 (by decide) ?_
  refine lv_istore_n (lv' := [(2, .int 0), (0, .ref (K 0)), (1, .ref a)]) hx hb d_V_takeAway_1 rfl hl (by decide) rfl (fun ls hl => ?_)
  have loop : ∀ (k i : Nat) (ls : Array Slot) (H : Heap) (locs : List Loc), i0 - i = k → i ≤ i0 → lv_has ls 3 [(2, .int (nI i)), (0, .ref (K 0)), (1, .ref a)] → tC D cls (ty0 ca) A (zz e0 A) s (wC K ca RL LP fv FR day ever mo (nI vs.length) ea (nI w9) ch ring (eo ++ rest)) H locs → tB p l e ({ frames := 4, cells := 0, slots := 0, locals := 87 }) s m [.ref (K 0), .ref a] below meth c D (ty0 ca) A (zz e0 A) (fun v w2 => v = none ∧ cQ e0 K ca RL FR rest LP fv day ever (lg_wr (ring, w9, ch) day 3 (fv a 0) (fv a 1)) (rw_take (vs.map fv) i0) (vs.eraseIdx i0) w2) (xN) H locs 0 0 (F0 m 2 ls []) := by
    intro k
    induction k using Nat.strongRecOn with
    | ind k ih =>
      intro i ls H locs hk hle hl hC
      refine lv_iload_n hx hb d_V_takeAway_2 rfl (lv_at hl 0 rfl) ?_
      refine lv_aload_n hx hb d_V_takeAway_3 rfl (lv_at hl 1 rfl) ?_
      refine t_get (v := .ref (K 1)) hx hb hts inV hown hC 0 rfl rfl 0 (by decide) (hts _ w_97) (fun _ h => h) rfl d_V_takeAway_4 ?_
      refine t_call (t_invV (As := []) (rest := [.int (nI i)]) hx hb hown (hts _ w_210) (hts _ w_211) (hts _ w_212) (hts _ w_213) ⟨by decide, by decide⟩ (t_recv (q0 := 1) hC rfl rfl) rfl d_V_takeAway_7) c_A_size zz_c tb_good hts w_4 hC (hl.1.trans hml.symm) ⟨Nat.le_of_ble_eq_true rfl, Nat.le_of_ble_eq_true rfl, Nat.le_of_ble_eq_true rfl, Nat.le_of_ble_eq_true rfl⟩ (Nat.le_of_ble_eq_true rfl) (fun E q ce w1 H1 l1 hp => hp.elim) (fun v w1 H locs hp hC => ?_)
      obtain ⟨rfl, hwe9⟩ := hp
      rw [hwe9] at hC
      have hC : tC D cls (ty0 ca) A (zz e0 A) s (wC K ca RL LP fv FR day ever mo (nI vs.length) ea (nI w9) ch ring (eo ++ rest)) H locs := hC
      refine W.eq (g2 := F0 m 10 ls [.int (nI vs.length), .int (nI i)]) rfl ?_
      refine lv_icmp_ge (tgt := 43) hx hb d_V_takeAway_10 (by decide) (fun c10 => ?_) (fun c10 => ?_)
      · exact absurd ((nI_leI (by omega) (by omega)).mp c10) (by omega)
      · skip
        obtain ⟨b, hi⟩ : ∃ b, vs[i]? = some b := ⟨vs[i], List.getElem?_eq_getElem (by omega)⟩
        have hbL : b ∈ LP := hvL b (List.mem_of_getElem? hi)
        refine lv_aload_n hx hb d_V_takeAway_13 rfl (lv_at hl 1 rfl) ?_
        refine t_get (v := .ref (K 1)) hx hb hts inV hown hC 0 rfl rfl 0 (by decide) (hts _ w_97) (fun _ h => h) rfl d_V_takeAway_14 ?_
        refine lv_iload_n hx hb d_V_takeAway_17 rfl (lv_at hl 0 rfl) ?_
        refine t_call (t_invV (As := [.int (nI i)]) (rest := []) hx hb hown (hts _ w_301) (hts _ w_302) (hts _ w_303) (hts _ w_304) ⟨by decide, by decide⟩ (t_recv (q0 := 1) hC rfl rfl) rfl d_V_takeAway_18) (c_A_get hLR hi) zz_c tb_good hts w_4 hC (hl.1.trans hml.symm) ⟨Nat.le_of_ble_eq_true rfl, Nat.le_of_ble_eq_true rfl, Nat.le_of_ble_eq_true rfl, Nat.le_of_ble_eq_true rfl⟩ (Nat.le_of_ble_eq_true rfl) (fun E q ce w1 H1 l1 hp => hp.elim) (fun v w1 H locs hp hC => ?_)
        obtain ⟨rfl, hwe9⟩ := hp
        rw [hwe9] at hC
        have hC : tC D cls (ty0 ca) A (zz e0 A) s (wC K ca RL LP fv FR day ever mo (nI vs.length) ea (nI w9) ch ring (eo ++ rest)) H locs := hC
        refine W.eq (g2 := F0 m 21 ls [.ref b]) rfl ?_
        refine lv_aload_n hx hb d_V_takeAway_21 rfl (lv_at hl 2 rfl) ?_
        refine lv_acmp_ne (rx := (some b)) (ry := (some a)) (tgt := 37) hx hb d_V_takeAway_22 (by decide) (fun c22 => ?_) (fun c22 => ?_)
        · skip
          have hne : i ≠ i0 := fun h => c22 (by rw [← hi, ← hi0, h])
          refine lv_iinc (k := 0) (v := nI (i + 1)) (lv' := [(2, .int (nI (i + 1))), (0, .ref (K 0)), (1, .ref a)]) hx hb d_V_takeAway_37 hl rfl (nI_1 i) (by decide) rfl (fun ls hl => ?_)
          refine lv_goto (tgt := 2) hx hb d_V_takeAway_40 (by decide) ?_
          exact ih (i0 - (i + 1)) (by omega) (i + 1) ls H locs rfl (by omega) (lv_sub hl [0, 1, 2] rfl) hC
        · skip
          have hie : i = i0 := nd_inj hnd hi (by rw [hi0, c22])
          rw [hie] at hl
          refine lv_aload_n hx hb d_V_takeAway_25 rfl (lv_at hl 1 rfl) ?_
          refine t_get (v := .ref (K 1)) hx hb hts inV hown hC 0 rfl rfl 0 (by decide) (hts _ w_97) (fun _ h => h) rfl d_V_takeAway_26 ?_
          refine lv_iload_n hx hb d_V_takeAway_29 rfl (lv_at hl 0 rfl) ?_
          refine t_call (t_invV (As := [.int (nI i0)]) (rest := []) hx hb hown (hts _ w_446) (hts _ w_447) (hts _ w_448) (hts _ w_449) ⟨by decide, by decide⟩ (t_recv (q0 := 1) hC rfl rfl) rfl d_V_takeAway_30) (c_A_remove hLR hvL hi0) zz_c tb_good hts w_4 hC (hl.1.trans hml.symm) ⟨Nat.le_of_ble_eq_true rfl, Nat.le_of_ble_eq_true rfl, Nat.le_of_ble_eq_true rfl, Nat.le_of_ble_eq_true rfl⟩ (Nat.le_of_ble_eq_true rfl) (fun E q ce w1 H1 l1 hp => hp.elim) (fun v w1 H locs hp hC => ?_)
          obtain ⟨rfl, eo2, hLR2, hwe9⟩ := hp
          rw [hwe9] at hC
          have hvL2 : ∀ y ∈ vs.eraseIdx i0, y ∈ LP := fun y hy => hvL y (List.mem_of_mem_eraseIdx hy)
          have hnd2 : (vs.eraseIdx i0).Nodup := hnd.sublist (List.eraseIdx_sublist _ _)
          have h402 : (vs.eraseIdx i0).length ≤ 40 := Nat.le_trans (List.eraseIdx_sublist _ _).length_le h40
          have hnot : a ∉ vs.eraseIdx i0 := erase_not hnd hi0
          have hmapE : (vs.eraseIdx i0).map fv = (vs.map fv).eraseIdx i0 := map_erase
          generalize hv2 : vs.eraseIdx i0 = vs2 at hC hLR2 hvL2 hnd2 h402 hnot hmapE
          have hC : tC D cls (ty0 ca) A (zz e0 A) s (wC K ca RL LP fv FR day ever (mo + 1) (nI vs2.length) ea (nI w9) ch ring (eo2 ++ rest)) H locs := hC
          refine W.eq (g2 := F0 m 33 ls [.ref a]) rfl ?_
          refine lv_pop hx hb d_V_takeAway_33 rfl ?_
          refine lv_goto (tgt := 43) hx hb d_V_takeAway_34 (by decide) ?_
          refine lv_aload_n hx hb d_V_takeAway_43 rfl (lv_at hl 1 rfl) ?_
          refine lv_aload_n hx hb d_V_takeAway_44 rfl (lv_at hl 2 rfl) ?_
          refine t_getP hx hb hts inN hown hC ha rfl 1 (by decide) (hts _ w_239) (fun _ h => h) d_V_takeAway_45 ?_
          refine t_call (t_invV (As := [.int (fv a 1)]) (rest := []) hx hb hown (hts _ w_297) (hts _ w_299) (hts _ s_V_latestOf) (hts _ w_300) ⟨by decide, by decide⟩ (t_recv (q0 := 0) hC rfl rfl) rfl d_V_takeAway_48) (c_V_latestOf ⟨hLR2, hvL2, hnd2, h402⟩) zz_c tb_good hts w_1 hC (hl.1.trans hml.symm) ⟨Nat.le_of_ble_eq_true rfl, Nat.le_of_ble_eq_true rfl, Nat.le_of_ble_eq_true rfl, Nat.le_of_ble_eq_true rfl⟩ (Nat.le_of_ble_eq_true rfl) (fun E q ce w1 H1 l1 hp => hp.elim) (fun v w1 H locs hp hC => ?_)
          obtain ⟨rfl, hwe9⟩ := hp
          rw [hwe9] at hC
          have hC : tC D cls (ty0 ca) A (zz e0 A) s (wC K ca RL LP fv FR day ever (mo + 1) (nI vs2.length) ea (nI w9) ch ring (eo2 ++ rest)) H locs := hC
          refine W.eq (g2 := F0 m 51 ls [va_rf ((rw_latest (vs2.map fv) (fv a 1)).bind (fun i => vs2[i]?))]) rfl ?_
          rcases op_two ((rw_latest (vs2.map fv) (fv a 1)).bind (fun i => vs2[i]?)) with hlt | ⟨o, hlt⟩
          · refine W.eq (g2 := F0 m 51 ls [.null]) (by rw [hlt]; rfl) ?_
            refine lv_astore_nN (lv' := [(2, .null), (0, .ref (K 0)), (1, .ref a)]) hx hb d_V_takeAway_51 rfl hl (by decide) rfl (fun ls hl => ?_)
            refine lv_aload_nN hx hb d_V_takeAway_52 rfl (lv_at hl 0 rfl) ?_
            refine lv_ifnullN (tgt := 61) hx hb d_V_takeAway_53 (by decide) ?_
            have hmap : vs2.map fv = rw_new (vs2.map fv) (fv a 1) := new_none hlt
            obtain ⟨fv2, hf2⟩ : ∃ z, z = fv := ⟨_, rfl⟩
            have hout : ∀ b, b ∉ vs2 → fv2 b = fv b := fun b _ => by rw [hf2]
            have hmap : vs2.map fv2 = rw_new (vs2.map fv) (fv a 1) := by rw [hf2]; exact hmap
            have hC : tC D cls (ty0 ca) A (zz e0 A) s (wC K ca RL LP fv2 FR day ever (mo + 1) (nI vs2.length) ea (nI w9) ch ring (eo2 ++ rest)) H locs := by rw [hf2]; exact hC
            have hfa : fv2 a = fv a := hout a hnot
            refine lv_aload_n hx hb d_V_takeAway_61 rfl (lv_at hl 1 rfl) ?_
            refine t_get (v := .ref (K 3)) hx hb hts inV hown hC 0 rfl rfl 2 (by decide) (hts _ w_99) (fun _ h => h) rfl d_V_takeAway_62 ?_
            refine lv_aload_n hx hb d_V_takeAway_65 rfl (lv_at hl 1 rfl) ?_
            refine t_get (v := .int day) hx hb hts inV hown hC 0 rfl rfl 3 (by decide) (hts _ w_100) (fun _ h => h) rfl d_V_takeAway_66 ?_
            refine lv_iconst (v := 3) hx hb d_V_takeAway_69 (by decide) ?_
            refine lv_aload_n hx hb d_V_takeAway_70 rfl (lv_at hl 2 rfl) ?_
            refine t_getP hx hb hts inN hown hC ha rfl 0 (by decide) (hts _ w_237) (fun _ h => h) d_V_takeAway_71 ?_
            refine lv_aload_n hx hb d_V_takeAway_74 rfl (lv_at hl 2 rfl) ?_
            refine t_getP hx hb hts inN hown hC ha rfl 1 (by decide) (hts _ w_239) (fun _ h => h) d_V_takeAway_75 ?_
            refine t_call (t_invV (As := [.int day, .int 3, .int (fv2 a 0), .int (fv2 a 1)]) (rest := []) hx hb hown (hts _ w_376) (hts _ w_377) (hts _ w_378) (hts _ w_379) ⟨by decide, by decide⟩ (t_recv (q0 := 3) hC rfl rfl) rfl d_V_takeAway_78) (c_G_write hw9) zz_c tb_good hts w_6 hC (hl.1.trans hml.symm) ⟨Nat.le_of_ble_eq_true rfl, Nat.le_of_ble_eq_true rfl, Nat.le_of_ble_eq_true rfl, Nat.le_of_ble_eq_true rfl⟩ (Nat.le_of_ble_eq_true rfl) (fun E q ce w1 H1 l1 hp => hp.elim) (fun v w1 H locs hp hC => ?_)
            obtain ⟨rfl, rfl⟩ := hp
            have hC : tC D cls (ty0 ca) A (zz e0 A) s (wC K ca RL LP fv2 FR day ever (mo + 1) (nI vs2.length) ea (nI (w9 + 1)) ((lg_wr (ring, w9, ch) day 3 (fv2 a 0) (fv2 a 1)).2.2) ((lg_wr (ring, w9, ch) day 3 (fv2 a 0) (fv2 a 1)).1) (eo2 ++ rest)) H locs := hC
            refine W.eq (g2 := F0 m 81 ls []) rfl ?_
            exact t_vret hx hb hr hlk zz_c hC (⟨rfl, LP, fv2, mo + 1, ea, eo2, ⟨hLR2, hvL2, hnd2, h402⟩, by rw [hmap, hmapE]; unfold rw_take; rw [rw_at_map hi0], fun b hb => ⟨hb, hout b⟩, by rw [hfa]; rfl⟩) (Nat.le_of_ble_eq_true rfl) (Nat.le_of_ble_eq_true rfl) d_V_takeAway_81
          · have ho : o ∈ LP := lt_mem hvL2 hlt
            refine W.eq (g2 := F0 m 51 ls [.ref o]) (by rw [hlt]; rfl) ?_
            refine lv_astore_n (lv' := [(2, .ref o), (0, .ref (K 0)), (1, .ref a)]) hx hb d_V_takeAway_51 rfl hl (by decide) rfl (fun ls hl => ?_)
            refine lv_aload_n hx hb d_V_takeAway_52 rfl (lv_at hl 0 rfl) ?_
            refine lv_ifnull hx hb d_V_takeAway_53 ?_
            refine lv_aload_n hx hb d_V_takeAway_56 rfl (lv_at hl 0 rfl) ?_
            refine lv_iconst (v := 1) hx hb d_V_takeAway_57 (by decide) ?_
            refine t_putP (ty := .boolean) hx hb hts inN TN tyN nmN hown hC ho rfl 6 (by decide) (hts _ w_249) (fun _ h => h) (Or.inl rfl) (by decide +kernel) (rfl) (rfl) d_V_takeAway_58 (fun H locs hC => ?_)
            have hC : tC D cls (ty0 ca) A (zz e0 A) s (wC K ca RL LP (va_up fv o (upd (fv o) 6 1)) FR day ever (mo + 1) (nI vs2.length) ea (nI w9) ch ring (eo2 ++ rest)) H locs := hC
            have hmap : vs2.map (va_up fv o (upd (fv o) 6 1)) = rw_new (vs2.map fv) (fv a 1) := new_some hnd2 hlt
            have hout : ∀ b, b ∉ vs2 → (va_up fv o (upd (fv o) 6 1)) b = fv b := fun b hb => by simp only [va_up]; rw [if_neg (fun h : b = o => hb (by rw [h]; exact lt_vs hlt))]
            generalize hf2 : va_up fv o (upd (fv o) 6 1) = fv2 at hC hmap hout
            have hfa : fv2 a = fv a := hout a hnot
            refine lv_aload_n hx hb d_V_takeAway_61 rfl (lv_at hl 1 rfl) ?_
            refine t_get (v := .ref (K 3)) hx hb hts inV hown hC 0 rfl rfl 2 (by decide) (hts _ w_99) (fun _ h => h) rfl d_V_takeAway_62 ?_
            refine lv_aload_n hx hb d_V_takeAway_65 rfl (lv_at hl 1 rfl) ?_
            refine t_get (v := .int day) hx hb hts inV hown hC 0 rfl rfl 3 (by decide) (hts _ w_100) (fun _ h => h) rfl d_V_takeAway_66 ?_
            refine lv_iconst (v := 3) hx hb d_V_takeAway_69 (by decide) ?_
            refine lv_aload_n hx hb d_V_takeAway_70 rfl (lv_at hl 2 rfl) ?_
            refine t_getP hx hb hts inN hown hC ha rfl 0 (by decide) (hts _ w_237) (fun _ h => h) d_V_takeAway_71 ?_
            refine lv_aload_n hx hb d_V_takeAway_74 rfl (lv_at hl 2 rfl) ?_
            refine t_getP hx hb hts inN hown hC ha rfl 1 (by decide) (hts _ w_239) (fun _ h => h) d_V_takeAway_75 ?_
            refine t_call (t_invV (As := [.int day, .int 3, .int (fv2 a 0), .int (fv2 a 1)]) (rest := []) hx hb hown (hts _ w_376) (hts _ w_377) (hts _ w_378) (hts _ w_379) ⟨by decide, by decide⟩ (t_recv (q0 := 3) hC rfl rfl) rfl d_V_takeAway_78) (c_G_write hw9) zz_c tb_good hts w_6 hC (hl.1.trans hml.symm) ⟨Nat.le_of_ble_eq_true rfl, Nat.le_of_ble_eq_true rfl, Nat.le_of_ble_eq_true rfl, Nat.le_of_ble_eq_true rfl⟩ (Nat.le_of_ble_eq_true rfl) (fun E q ce w1 H1 l1 hp => hp.elim) (fun v w1 H locs hp hC => ?_)
            obtain ⟨rfl, rfl⟩ := hp
            have hC : tC D cls (ty0 ca) A (zz e0 A) s (wC K ca RL LP fv2 FR day ever (mo + 1) (nI vs2.length) ea (nI (w9 + 1)) ((lg_wr (ring, w9, ch) day 3 (fv2 a 0) (fv2 a 1)).2.2) ((lg_wr (ring, w9, ch) day 3 (fv2 a 0) (fv2 a 1)).1) (eo2 ++ rest)) H locs := hC
            refine W.eq (g2 := F0 m 81 ls []) rfl ?_
            exact t_vret hx hb hr hlk zz_c hC (⟨rfl, LP, fv2, mo + 1, ea, eo2, ⟨hLR2, hvL2, hnd2, h402⟩, by rw [hmap, hmapE]; unfold rw_take; rw [rw_at_map hi0], fun b hb => ⟨hb, hout b⟩, by rw [hfa]; rfl⟩) (Nat.le_of_ble_eq_true rfl) (Nat.le_of_ble_eq_true rfl) d_V_takeAway_81
  exact loop _ 0 ls _ _ rfl (by omega) hl hC
end
section
/-! The vault as pure functions of its table, its log and its count. Laid by program (wip/whole/p21.py) -/
abbrev PS : Type := List RW × LG × Nat
def mkMark (nu ke da : Int32) : RW := upd (upd (upd (upd (upd rw0 0 nu) 1 ke) 2 da) 5 (-1)) 6 1
def mkObj (nu ke da si tg : Int32) : RW := upd (upd (upd (mkMark nu ke da) 3 si) 4 tg) 5 0
abbrev p_due (R r : RW) (day : Int32) : Prop := R 3 ≠ 0 ∧ (R 0 = -1 ∨ R 0 = r 4) ∧ R 1 = r 6 ∧ ¬ day < (if r 6 = 0 then r 7 else r 2) + R 2
abbrev p_grd (r : RW) (day : Int32) : Prop := r 10 ≠ 0 ∨ day < r 8
def p_add (day : Int32) (row : RW) (S : PS) : PS := (rw_add S.1 day row, lg_wr S.2.1 day (if row 5 = -1 then 2 else 1) (row 0) (row 1), S.2.2 + 1)
def p_mark (day key : Int32) (S : PS) : PS := p_add day (mkMark (nI S.2.2) key day) S
def p_take (day : Int32) (i : Nat) (S : PS) : PS := (rw_take S.1 i, lg_wr S.2.1 day 3 (rw_at S.1 i 0) (rw_at S.1 i 1), S.2.2)
def p_cool (day : Int32) (i : Nat) (t : Int32) (S : PS) : PS := if rw_at S.1 i 5 < t then (S.1.set i (upd (rw_at S.1 i) 5 t), lg_wr S.2.1 day 4 (rw_at S.1 i 0) t, S.2.2) else S
/-- the rules, one after the other, for row i; true: the row was taken away -/
def p_rules (day : Int32) (i : Nat) : List RW → PS → PS × Bool
  | [], S => (S, false)
  | R :: Rs, S =>
    if p_due R (rw_at S.1 i) day then
      if R 3 = 4 then
        if rw_at S.1 i 6 = 0 then
          if p_grd (rw_at S.1 i) day then p_rules day i Rs S else (p_take day i S, true)
        else if 40 ≤ S.1.length then p_rules day i Rs S else (p_mark day (rw_at S.1 i 1) S, false)
      else p_rules day i Rs (p_cool day i (R 3) S)
    else p_rules day i Rs S
def p_vers (Rs : List RW) (day : Int32) : Nat → Nat → PS → PS
  | 0, _, S => S
  | left + 1, i, S => if rw_at S.1 i 5 = -1 then p_vers Rs day left (i + 1) S else if (p_rules day i Rs S).2 = true then p_vers Rs day left i (p_rules day i Rs S).1 else p_vers Rs day left (i + 1) (p_rules day i Rs S).1
def rw_aloneB (rows : List RW) (i : Nat) : Bool := (List.range rows.length).all (fun j => decide (j = i) || decide (rw_at rows j 1 ≠ rw_at rows i 1))
theorem rw_aloneB_iff {rows : List RW} {i : Nat} : rw_aloneB rows i = true ↔ rw_alone rows i := by
  unfold rw_aloneB rw_alone
  rw [List.all_eq_true]
  constructor
  · intro h j hj hne
    have := h j (List.mem_range.mpr hj)
    simpa [hne] using this
  · intro h j hj
    by_cases e : j = i
    · simp [e]
    · simpa [e] using h j (List.mem_range.mp hj) e
def p_lone (day : Int32) : Nat → Nat → PS → PS
  | 0, _, S => S
  | left + 1, i, S => if rw_at S.1 i 5 = -1 ∧ rw_aloneB S.1 i = true then p_lone day left i (p_take day i S) else p_lone day left (i + 1) S
def p_day (Rs : List RW) (day : Int32) (S : PS) : PS := p_lone day (p_vers Rs day S.1.length 0 S).1.length 0 (p_vers Rs day S.1.length 0 S)
def p_tick (Rs : List RW) : Nat → Int32 → PS → PS
  | 0, _, S => S
  | n + 1, day, S => p_tick Rs n (day + 1) (p_day Rs (day + 1) S)
/-! how far the log and the count go -/
theorem rw_take_len {rows : List RW} {i : Nat} (h : i < rows.length) : (rw_take rows i).length = rows.length - 1 := by
  unfold rw_take
  rw [rw_new_len, List.length_eraseIdx, if_pos h]
theorem rw_add_len {rows : List RW} {day : Int32} {row : RW} : (rw_add rows day row).length = rows.length + 1 := by
  unfold rw_add
  rw [List.length_append, rw_old_len, List.length_singleton]
theorem p_cool_len {day : Int32} {i : Nat} {t : Int32} {S : PS} : (p_cool day i t S).1.length = S.1.length := by
  unfold p_cool; split <;> simp
theorem p_cool_lg {day : Int32} {i : Nat} {t : Int32} {S : PS} : S.2.1.2.1 ≤ (p_cool day i t S).2.1.2.1 ∧ (p_cool day i t S).2.1.2.1 ≤ S.2.1.2.1 + 1 ∧ (p_cool day i t S).2.2 = S.2.2 := by
  unfold p_cool; split <;> simp [lg_wr]
theorem p_rules_lg {day : Int32} {i : Nat} : ∀ {Rs : List RW} {S : PS}, S.2.1.2.1 ≤ (p_rules day i Rs S).1.2.1.2.1 ∧ (p_rules day i Rs S).1.2.1.2.1 ≤ S.2.1.2.1 + Rs.length ∧ S.2.2 ≤ (p_rules day i Rs S).1.2.2 := by
  intro Rs
  induction Rs with
  | nil => intro S; exact ⟨Nat.le_refl _, Nat.le_refl _, Nat.le_refl _⟩
  | cons R Rs ih =>
    intro S
    have h0 := ih (S := S)
    have h1 := ih (S := p_cool day i (R 3) S)
    have h2 := p_cool_lg (day := day) (i := i) (t := R 3) (S := S)
    unfold p_rules
    rw [List.length_cons]
    split
    · split
      · split
        · split
          · omega
          · show S.2.1.2.1 ≤ S.2.1.2.1 + 1 ∧ S.2.1.2.1 + 1 ≤ _ ∧ S.2.2 ≤ S.2.2; omega
        · split
          · omega
          · show S.2.1.2.1 ≤ S.2.1.2.1 + 1 ∧ S.2.1.2.1 + 1 ≤ _ ∧ S.2.2 ≤ S.2.2 + 1; omega
      · omega
    · omega
theorem p_vers_lg {Rs : List RW} {day : Int32} : ∀ {left i : Nat} {S : PS}, S.2.1.2.1 ≤ (p_vers Rs day left i S).2.1.2.1 ∧ (p_vers Rs day left i S).2.1.2.1 ≤ S.2.1.2.1 + Rs.length * left ∧ S.2.2 ≤ (p_vers Rs day left i S).2.2 := by
  intro left
  induction left with
  | zero => intro i S; exact ⟨Nat.le_refl _, Nat.le_refl _, Nat.le_refl _⟩
  | succ left ih =>
    intro i S
    have h0 := ih (i := i + 1) (S := S)
    have h1 := ih (i := i) (S := (p_rules day i Rs S).1)
    have h2 := ih (i := i + 1) (S := (p_rules day i Rs S).1)
    have h3 := p_rules_lg (day := day) (i := i) (Rs := Rs) (S := S)
    have e : Rs.length * (left + 1) = Rs.length * left + Rs.length := Nat.mul_succ _ _
    unfold p_vers
    split
    · omega
    · split <;> omega
theorem p_lone_lg {day : Int32} : ∀ {left i : Nat} {S : PS}, S.2.1.2.1 ≤ (p_lone day left i S).2.1.2.1 ∧ (p_lone day left i S).2.1.2.1 ≤ S.2.1.2.1 + left ∧ (p_lone day left i S).2.2 = S.2.2 := by
  intro left
  induction left with
  | zero => intro i S; exact ⟨Nat.le_refl _, Nat.le_refl _, rfl⟩
  | succ left ih =>
    intro i S
    have h0 := ih (i := i + 1) (S := S)
    have h1 := ih (i := i) (S := p_take day i S)
    have h2 : (p_take day i S).2.1.2.1 = S.2.1.2.1 + 1 := rfl
    have h3 : (p_take day i S).2.2 = S.2.2 := rfl
    unfold p_lone
    split <;> omega
theorem p_rules_len {day : Int32} {i : Nat} : ∀ {Rs : List RW} {S : PS}, i < S.1.length → S.1.length ≤ 40 → (p_rules day i Rs S).1.1.length ≤ 40 ∧ ((p_rules day i Rs S).2 = false → S.1.length ≤ (p_rules day i Rs S).1.1.length) ∧ ((p_rules day i Rs S).2 = true → (p_rules day i Rs S).1.1.length + 1 = S.1.length) := by
  intro Rs
  induction Rs with
  | nil => intro S hi h; exact ⟨h, fun _ => Nat.le_refl _, fun h => by cases h⟩
  | cons R Rs ih =>
    intro S hi h
    have h0 := ih (S := S) hi h
    have e2 := p_cool_len (day := day) (i := i) (t := R 3) (S := S)
    have h1 := ih (S := p_cool day i (R 3) S) (by rw [e2]; exact hi) (by rw [e2]; exact h)
    rw [e2] at h1
    unfold p_rules
    split
    · split
      · split
        · split
          · exact h0
          · refine ⟨?_, fun h => (by cases h), fun _ => ?_⟩
            · show (rw_take S.1 i).length ≤ 40; rw [rw_take_len hi]; omega
            · show (rw_take S.1 i).length + 1 = _; rw [rw_take_len hi]; omega
        · split
          · exact h0
          · refine ⟨?_, fun _ => ?_, fun h => (by cases h)⟩
            · show (rw_add S.1 day _).length ≤ 40; rw [rw_add_len]; omega
            · show _ ≤ (rw_add S.1 day _).length; rw [rw_add_len]; omega
      · exact h1
    · exact h0
theorem p_vers_len {Rs : List RW} {day : Int32} : ∀ {left i : Nat} {S : PS}, i + left ≤ S.1.length → S.1.length ≤ 40 → (p_vers Rs day left i S).1.length ≤ 40 := by
  intro left
  induction left with
  | zero => intro i S _ h; exact h
  | succ left ih =>
    intro i S hi h
    have h3 := p_rules_len (day := day) (i := i) (Rs := Rs) (S := S) (by omega) h
    unfold p_vers
    split
    · exact ih (by omega) h
    · split
      · rename_i hg
        have := h3.2.2 hg
        exact ih (by omega) h3.1
      · rename_i hg
        have := h3.2.1 (by cases h9 : (p_rules day i Rs S).2; rfl; exact absurd h9 hg)
        exact ih (by omega) h3.1
end
