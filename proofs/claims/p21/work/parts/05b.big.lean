set_option maxRecDepth 100000 in
set_option maxHeartbeats 4000000 in
theorem tb_488 : Jvm.Cond.code ({ cls := "DialectAtlasLaw", name := "rules", desc := "(LDialectAtlas;II[I[I[I[I[I)Z" } : Jvm.MethodName) method_15_code (11 : Nat) (Option.some Jvm.ClassFile.FieldType.boolean) ∈ WS := List.mem_filter.mpr ⟨List.mem_append_right _ (List.mem_append_right _ (List.mem_append_right _ (List.mem_of_getElem? (l := tables_1_3) (i := 8) (by rfl)))), by rfl⟩
