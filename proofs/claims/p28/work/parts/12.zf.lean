theorem kr_acI : (.arrayClass .int : Jvm.Cond) ∈ lw_tbl := (ip_tbl 187).resolve_left (by decide +kernel)
theorem kr_acZ : (.arrayClass .boolean : Jvm.Cond) ∈ lw_tbl := (ip_tbl 1033).resolve_left (by decide +kernel)
theorem kr_aoT : (.arrayOver (.object "TandemKeepsAPlace$Text") : Jvm.Cond) ∈ lw_tbl := (ip_tbl 195).resolve_left (by decide +kernel)
theorem kr_aoS : (.arrayOver (.object "TandemKeepsAPlace$Sheet") : Jvm.Cond) ∈ lw_tbl := (ip_tbl 496).resolve_left (by decide +kernel)
theorem kr_stMax : (.static Lib.Math.max.name : Jvm.Cond) ∈ lw_tbl := (ip_tbl 625).resolve_left (by decide +kernel)
theorem kr_stMin : (.static Lib.Math.min.name : Jvm.Cond) ∈ lw_tbl := (ip_tbl 150).resolve_left (by decide +kernel)
theorem kr_cdMax : (.code Lib.Math.max.name Lib.Math.max.code 2 (some .int) : Jvm.Cond) ∈ lw_tbl := (ip_tbl 626).resolve_left (by decide +kernel)
theorem kr_cdMin : (.code Lib.Math.min.name Lib.Math.min.code 2 (some .int) : Jvm.Cond) ∈ lw_tbl := (ip_tbl 151).resolve_left (by decide +kernel)
theorem kr_naCp : (.native arraycopyName : Jvm.Cond) ∈ lw_tbl := (ip_tbl 812).resolve_left (by decide +kernel)
theorem kr_stCp : (.static arraycopyName : Jvm.Cond) ∈ lw_tbl := (ip_tbl 811).resolve_left (by decide +kernel)
theorem kr_imOb : (.instanceMethod Lib.objectInit : Jvm.Cond) ∈ lw_tbl := (ip_tbl 133).resolve_left (by decide +kernel)
theorem kr_cdOb : (.code Lib.objectInit ⟨#[0xb1]⟩ 1 none : Jvm.Cond) ∈ lw_tbl := (ip_tbl 134).resolve_left (by decide +kernel)
theorem kr_lsC : (.laysStatic "java/lang/String" "COMPACT_STRINGS" "Z" : Jvm.Cond) ∈ lw_tbl := (ip_tbl 271).resolve_left (by decide +kernel)
theorem kr_lsS : (.laysStatic "jdk/internal/util/Preconditions" "SIOOBE_FORMATTER" "Ljava/util/function/BiFunction;" : Jvm.Cond) ∈ lw_tbl := (ip_tbl 287).resolve_left (by decide +kernel)
theorem ki_Math : (.initialized (ip_CN 15) : Jvm.Cond) ∈ lw_tbl := (ip_tbl 112).resolve_left (by decide +kernel)
theorem ki_System : (.initialized (ip_CN 16) : Jvm.Cond) ∈ lw_tbl := (ip_tbl 126).resolve_left (by decide +kernel)
theorem ki_String : (.initialized (ip_CN 12) : Jvm.Cond) ∈ lw_tbl := (ip_tbl 117).resolve_left (by decide +kernel)
theorem ki_Precond : (.initialized (ip_CN 14) : Jvm.Cond) ∈ lw_tbl := (ip_tbl 119).resolve_left (by decide +kernel)
theorem ks_0 : (.stringRef (ip_ST.getD 0 ("", 0, "")).1 (ip_ST.getD 0 ("", 0, "")).2.1 (ip_ST.getD 0 ("", 0, "")).2.2 : Jvm.Cond) ∈ lw_tbl := (ip_tbl 261).resolve_left (by decide +kernel)
theorem ks_1 : (.stringRef (ip_ST.getD 1 ("", 0, "")).1 (ip_ST.getD 1 ("", 0, "")).2.1 (ip_ST.getD 1 ("", 0, "")).2.2 : Jvm.Cond) ∈ lw_tbl := (ip_tbl 345).resolve_left (by decide +kernel)
theorem ks_2 : (.stringRef (ip_ST.getD 2 ("", 0, "")).1 (ip_ST.getD 2 ("", 0, "")).2.1 (ip_ST.getD 2 ("", 0, "")).2.2 : Jvm.Cond) ∈ lw_tbl := (ip_tbl 346).resolve_left (by decide +kernel)
theorem ks_3 : (.stringRef (ip_ST.getD 3 ("", 0, "")).1 (ip_ST.getD 3 ("", 0, "")).2.1 (ip_ST.getD 3 ("", 0, "")).2.2 : Jvm.Cond) ∈ lw_tbl := (ip_tbl 347).resolve_left (by decide +kernel)
theorem ks_4 : (.stringRef (ip_ST.getD 4 ("", 0, "")).1 (ip_ST.getD 4 ("", 0, "")).2.1 (ip_ST.getD 4 ("", 0, "")).2.2 : Jvm.Cond) ∈ lw_tbl := (ip_tbl 348).resolve_left (by decide +kernel)
theorem ks_5 : (.stringRef (ip_ST.getD 5 ("", 0, "")).1 (ip_ST.getD 5 ("", 0, "")).2.1 (ip_ST.getD 5 ("", 0, "")).2.2 : Jvm.Cond) ∈ lw_tbl := (ip_tbl 349).resolve_left (by decide +kernel)
theorem ks_6 : (.stringRef (ip_ST.getD 6 ("", 0, "")).1 (ip_ST.getD 6 ("", 0, "")).2.1 (ip_ST.getD 6 ("", 0, "")).2.2 : Jvm.Cond) ∈ lw_tbl := (ip_tbl 350).resolve_left (by decide +kernel)
theorem ks_7 : (.stringRef (ip_ST.getD 7 ("", 0, "")).1 (ip_ST.getD 7 ("", 0, "")).2.1 (ip_ST.getD 7 ("", 0, "")).2.2 : Jvm.Cond) ∈ lw_tbl := (ip_tbl 351).resolve_left (by decide +kernel)
theorem ks_8 : (.stringRef (ip_ST.getD 8 ("", 0, "")).1 (ip_ST.getD 8 ("", 0, "")).2.1 (ip_ST.getD 8 ("", 0, "")).2.2 : Jvm.Cond) ∈ lw_tbl := (ip_tbl 352).resolve_left (by decide +kernel)
theorem ks_9 : (.stringRef (ip_ST.getD 9 ("", 0, "")).1 (ip_ST.getD 9 ("", 0, "")).2.1 (ip_ST.getD 9 ("", 0, "")).2.2 : Jvm.Cond) ∈ lw_tbl := (ip_tbl 353).resolve_left (by decide +kernel)
theorem ks_10 : (.stringRef (ip_ST.getD 10 ("", 0, "")).1 (ip_ST.getD 10 ("", 0, "")).2.1 (ip_ST.getD 10 ("", 0, "")).2.2 : Jvm.Cond) ∈ lw_tbl := (ip_tbl 354).resolve_left (by decide +kernel)
theorem ks_11 : (.stringRef (ip_ST.getD 11 ("", 0, "")).1 (ip_ST.getD 11 ("", 0, "")).2.1 (ip_ST.getD 11 ("", 0, "")).2.2 : Jvm.Cond) ∈ lw_tbl := (ip_tbl 355).resolve_left (by decide +kernel)
theorem ks_12 : (.stringRef (ip_ST.getD 12 ("", 0, "")).1 (ip_ST.getD 12 ("", 0, "")).2.1 (ip_ST.getD 12 ("", 0, "")).2.2 : Jvm.Cond) ∈ lw_tbl := (ip_tbl 356).resolve_left (by decide +kernel)
theorem ks_all : ∀ k, k < 13 → (.stringRef (ip_ST.getD k ("", 0, "")).1 (ip_ST.getD k ("", 0, "")).2.1 (ip_ST.getD k ("", 0, "")).2.2 : Jvm.Cond) ∈ lw_tbl := by
  intro k hk
  match k, hk with
  | 0, _ => exact ks_0
  | 1, _ => exact ks_1
  | 2, _ => exact ks_2
  | 3, _ => exact ks_3
  | 4, _ => exact ks_4
  | 5, _ => exact ks_5
  | 6, _ => exact ks_6
  | 7, _ => exact ks_7
  | 8, _ => exact ks_8
  | 9, _ => exact ks_9
  | 10, _ => exact ks_10
  | 11, _ => exact ks_11
  | 12, _ => exact ks_12
  | n + 13, h => omega
theorem ip_arrw {ty : FieldType} (h : ty = .int ∨ ty = .boolean) : Jvm.Cond.arrayClass ty ∈ ip_W := by
  rcases h with rfl | rfl
  · exact List.mem_filter.mpr ⟨kr_acI, rfl⟩
  · exact List.mem_filter.mpr ⟨kr_acZ, rfl⟩
