def lw_privs_3 : List (MethodName × Nat) := [(⟨"MeeplehouseModel", "lends", "(I)V"⟩, 33), (⟨"MeeplehouseModel", "lendsTo", "(II)Z"⟩, 33), (⟨"MeeplehouseModel", "closes", "(I)I"⟩, 33), (⟨"MeeplehouseModel", "isCopy", "(I)Z"⟩, 33), (⟨"MeeplehouseModel", "asks", "(I)Z"⟩, 33), (⟨"MeeplehouseModel", "rulingFor", "(I)I"⟩, 33), (⟨"MeeplehouseModel", "firstThat", "(III)I"⟩, 33), (⟨"MeeplehouseModel", "holds", "(II)Z"⟩, 33), (⟨"MeeplehouseModel", "lentTo", "(I)I"⟩, 33)]
theorem lw_r3 : ∀ q ∈ lw_privs_3, lw_okq q := List.forall_mem_cons.mpr ⟨lw_p32, List.forall_mem_cons.mpr ⟨lw_p33, List.forall_mem_cons.mpr ⟨lw_p34, List.forall_mem_cons.mpr ⟨lw_p35, List.forall_mem_cons.mpr ⟨lw_p36, List.forall_mem_cons.mpr ⟨lw_p37, List.forall_mem_cons.mpr ⟨lw_p38, List.forall_mem_cons.mpr ⟨lw_p39, List.forall_mem_cons.mpr ⟨lw_p40, fun _ h => absurd h List.not_mem_nil⟩⟩⟩⟩⟩⟩⟩⟩⟩
def lw_privs : List (MethodName × Nat) := lw_privs_1 ++ (lw_privs_2 ++ (lw_privs_3))
def lw_tbl : List Cond := k2_sels lw_privs ++ tables_1
theorem lw_privs_ok : ∀ q ∈ lw_privs, lw_okq q := by
  show ∀ q ∈ lw_privs_1 ++ (lw_privs_2 ++ (lw_privs_3)), lw_okq q
  exact List.forall_mem_append.mpr ⟨lw_r1, List.forall_mem_append.mpr ⟨lw_r2, lw_r3⟩⟩

