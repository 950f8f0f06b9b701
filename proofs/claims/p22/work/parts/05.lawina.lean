theorem it1 {w : Cond} (j : Nat) (h9 : tables_1_1[j]? = some w) : w ∈ lw_tbl := by have h := List.mem_of_getElem? h9; exact List.mem_append_right _ (List.mem_append_left _ h)
theorem it2 {w : Cond} (j : Nat) (h9 : tables_1_2[j]? = some w) : w ∈ lw_tbl := by have h := List.mem_of_getElem? h9; exact List.mem_append_right _ (List.mem_append_right _ (List.mem_append_left _ h))
theorem it3 {w : Cond} (j : Nat) (h9 : tables_1_3[j]? = some w) : w ∈ lw_tbl := by have h := List.mem_of_getElem? h9; exact List.mem_append_right _ (List.mem_append_right _ (List.mem_append_right _ (List.mem_append_left _ h)))
theorem it4 {w : Cond} (j : Nat) (h9 : tables_1_4[j]? = some w) : w ∈ lw_tbl := by have h := List.mem_of_getElem? h9; exact List.mem_append_right _ (List.mem_append_right _ (List.mem_append_right _ (List.mem_append_right _ (h))))
theorem is1 {w : Cond} (j : Nat) (h9 : (k2_sels lw_privs_1)[j]? = some w) : w ∈ lw_tbl := by
  have h1 := List.mem_of_getElem? h9
  obtain ⟨q, h, e⟩ := List.mem_map.mp h1
  have h2 : q ∈ lw_privs := List.mem_append_left _ h
  exact List.mem_append_left _ (List.mem_map.mpr ⟨q, h2, e⟩)
theorem is2 {w : Cond} (j : Nat) (h9 : (k2_sels lw_privs_2)[j]? = some w) : w ∈ lw_tbl := by
  have h1 := List.mem_of_getElem? h9
  obtain ⟨q, h, e⟩ := List.mem_map.mp h1
  have h2 : q ∈ lw_privs := List.mem_append_right _ (List.mem_append_left _ h)
  exact List.mem_append_left _ (List.mem_map.mpr ⟨q, h2, e⟩)
theorem is3 {w : Cond} (j : Nat) (h9 : (k2_sels lw_privs_3)[j]? = some w) : w ∈ lw_tbl := by
  have h1 := List.mem_of_getElem? h9
  obtain ⟨q, h, e⟩ := List.mem_map.mp h1
  have h2 : q ∈ lw_privs := List.mem_append_right _ (List.mem_append_right _ (List.mem_append_left _ h))
  exact List.mem_append_left _ (List.mem_map.mpr ⟨q, h2, e⟩)
theorem is4 {w : Cond} (j : Nat) (h9 : (k2_sels lw_privs_4)[j]? = some w) : w ∈ lw_tbl := by
  have h1 := List.mem_of_getElem? h9
  obtain ⟨q, h, e⟩ := List.mem_map.mp h1
  have h2 : q ∈ lw_privs := List.mem_append_right _ (List.mem_append_right _ (List.mem_append_right _ (h)))
  exact List.mem_append_left _ (List.mem_map.mpr ⟨q, h2, e⟩)
set_option maxRecDepth 20000 in
theorem wsL_law_r1_in : ∀ w ∈ wsL_law_r1, w ∈ lw_tbl := (al_c (it1 13 rfl) (al_c (it1 14 rfl) (al_c (it1 1 rfl) (al_c (it3 44 rfl) (al_c (it3 45 rfl) (al_c (it1 4 rfl) (al_c (it1 15 rfl) (al_c (it1 16 rfl) (al_c (it1 17 rfl) (al_c (it1 18 rfl) (al_c (it1 19 rfl) (al_c (it1 20 rfl) (al_c (it1 21 rfl) (al_c (it1 22 rfl) (al_c (it1 2 rfl) (al_c (it1 95 rfl) (al_c ((goodIn_of [.arrayClass .int] (by decide +kernel) _ (List.mem_singleton.mpr rfl)).1) (al_c (it1 96 rfl) (al_c (it1 97 rfl) (al_c (it1 36 rfl) (al_c (it1 37 rfl) (al_c (it1 3 rfl) (al_c (it1 98 rfl) (al_c (it1 99 rfl) al_n))))))))))))))))))))))))
set_option maxRecDepth 20000 in
theorem wsL_law_r2_in : ∀ w ∈ wsL_law_r2, w ∈ lw_tbl := (al_c (it1 100 rfl) (al_c (it1 101 rfl) (al_c (it1 102 rfl) (al_c (it1 103 rfl) (al_c (it1 104 rfl) (al_c (it1 23 rfl) (al_c (it1 24 rfl) (al_c (it1 25 rfl) (al_c (it1 26 rfl) (al_c (it1 27 rfl) (al_c (it1 28 rfl) (al_c (it1 38 rfl) (al_c (it1 39 rfl) (al_c (it1 40 rfl) (al_c (it1 41 rfl) (al_c (it1 50 rfl) (al_c (it1 52 rfl) (al_c (it1 54 rfl) (al_c (it1 56 rfl) (al_c (it1 58 rfl) (al_c (it1 60 rfl) (al_c (it1 62 rfl) (al_c (it1 64 rfl) (al_c (it3 46 rfl) al_n))))))))))))))))))))))))
set_option maxRecDepth 20000 in
theorem wsL_law_r3_in : ∀ w ∈ wsL_law_r3, w ∈ lw_tbl := (al_c (it3 47 rfl) (al_c (it3 48 rfl) (al_c (it3 49 rfl) (al_c (it3 52 rfl) (al_c (it3 53 rfl) (al_c (it3 54 rfl) (al_c (it3 55 rfl) (al_c (it3 56 rfl) (al_c (it3 57 rfl) (al_c (it3 63 rfl) (al_c (it3 64 rfl) (al_c (it3 65 rfl) (al_c ((goodIn_of [.arrayClass .byte] (by decide +kernel) _ (List.mem_singleton.mpr rfl)).1) (al_c (it3 67 rfl) (al_c (it3 70 rfl) (al_c (it3 74 rfl) (al_c (it3 82 rfl) (al_c (it3 83 rfl) (al_c (it3 84 rfl) (al_c (it3 85 rfl) (al_c (it3 86 rfl) (al_c (it3 87 rfl) (al_c (it3 88 rfl) (al_c (it1 126 rfl) al_n))))))))))))))))))))))))
set_option maxRecDepth 20000 in
theorem wsL_law_r4_in : ∀ w ∈ wsL_law_r4, w ∈ lw_tbl := (al_c (it1 127 rfl) (al_c (it1 128 rfl) (al_c (it1 129 rfl) (al_c (it1 29 rfl) (al_c (it1 130 rfl) (al_c (it1 131 rfl) (al_c (it1 132 rfl) (al_c (it1 133 rfl) (al_c (it1 134 rfl) (al_c (it1 135 rfl) (al_c (it1 136 rfl) (al_c (it3 171 rfl) (al_c (it3 172 rfl) (al_c (it3 173 rfl) (al_c (it3 174 rfl) (al_c (it3 66 rfl) (al_c (it3 175 rfl) (al_c (it3 176 rfl) (al_c (it3 177 rfl) (al_c (it1 137 rfl) (al_c (it1 138 rfl) (al_c (it1 139 rfl) (al_c (it1 140 rfl) (al_c (it1 141 rfl) al_n))))))))))))))))))))))))
set_option maxRecDepth 20000 in
theorem wsL_law_r5_in : ∀ w ∈ wsL_law_r5, w ∈ lw_tbl := (al_c (it1 142 rfl) (al_c (it1 143 rfl) (al_c (it1 144 rfl) (al_c (it3 178 rfl) (al_c (it3 179 rfl) (al_c (it3 180 rfl) (al_c (it3 181 rfl) (al_c (it1 145 rfl) (al_c (it1 146 rfl) (al_c (it1 147 rfl) (al_c (it1 148 rfl) (al_c (it1 149 rfl) (al_c (it1 150 rfl) (al_c (it1 151 rfl) (al_c (it1 152 rfl) (al_c (it1 153 rfl) (al_c (it1 155 rfl) (al_c (is1 0 rfl) (al_c (it1 156 rfl) (al_c (it1 157 rfl) (al_c (it1 159 rfl) (al_c (is1 1 rfl) (al_c (it1 160 rfl) (al_c (it1 162 rfl) al_n))))))))))))))))))))))))
set_option maxRecDepth 20000 in
theorem wsL_law_r6_in : ∀ w ∈ wsL_law_r6, w ∈ lw_tbl := (al_c (it1 163 rfl) (al_c (it1 164 rfl) (al_c (it1 165 rfl) (al_c (it1 166 rfl) (al_c (it1 167 rfl) (al_c (it1 168 rfl) (al_c (it1 5 rfl) (al_c (it1 169 rfl) (al_c (it1 170 rfl) (al_c (it1 171 rfl) (al_c (it1 172 rfl) (al_c (it1 173 rfl) (al_c (it4 137 rfl) (al_c (it1 174 rfl) (al_c (it1 175 rfl) (al_c (it1 176 rfl) (al_c (it1 177 rfl) (al_c (it1 178 rfl) (al_c (it4 136 rfl) (al_c (it1 180 rfl) (al_c (it1 181 rfl) (al_c (it1 182 rfl) (al_c (it1 183 rfl) (al_c (it1 184 rfl) al_n))))))))))))))))))))))))
set_option maxRecDepth 20000 in
theorem wsL_law_r7_in : ∀ w ∈ wsL_law_r7, w ∈ lw_tbl := (al_c (it1 185 rfl) (al_c (it1 186 rfl) (al_c (it1 187 rfl) (al_c (it1 188 rfl) (al_c (it1 189 rfl) (al_c (it1 6 rfl) (al_c (it1 190 rfl) (al_c (it1 194 rfl) (al_c (it1 195 rfl) (al_c (it1 7 rfl) (al_c (it1 196 rfl) (al_c (it1 197 rfl) (al_c (it1 198 rfl) (al_c (it1 199 rfl) (al_c (it1 191 rfl) (al_c (it1 192 rfl) (al_c (it1 193 rfl) (al_c (it1 200 rfl) (al_c (it1 201 rfl) (al_c (it1 202 rfl) (al_c (it1 203 rfl) (al_c (it1 204 rfl) (al_c (it1 8 rfl) (al_c (it1 205 rfl) al_n))))))))))))))))))))))))
set_option maxRecDepth 20000 in
theorem wsL_law_r8_in : ∀ w ∈ wsL_law_r8, w ∈ lw_tbl := (al_c (it1 206 rfl) (al_c (it1 207 rfl) (al_c (it1 208 rfl) (al_c (it1 209 rfl) (al_c (it1 210 rfl) (al_c (it1 211 rfl) (al_c (it1 212 rfl) (al_c (it1 213 rfl) (al_c (it1 214 rfl) (al_c (it1 215 rfl) (al_c (it1 216 rfl) (al_c (it1 217 rfl) (al_c (it1 218 rfl) (al_c (it1 219 rfl) (al_c (it1 220 rfl) (al_c (it1 221 rfl) (al_c (it1 223 rfl) (al_c (it1 224 rfl) (al_c (it1 9 rfl) (al_c (it1 225 rfl) (al_c (it1 226 rfl) (al_c (it1 227 rfl) (al_c (it1 228 rfl) (al_c (it1 229 rfl) al_n))))))))))))))))))))))))
set_option maxRecDepth 20000 in
theorem wsL_law_r9_in : ∀ w ∈ wsL_law_r9, w ∈ lw_tbl := (al_c (it1 230 rfl) (al_c (it1 231 rfl) (al_c (it1 232 rfl) (al_c (it1 234 rfl) (al_c (it1 236 rfl) (al_c (it1 238 rfl) (al_c (it1 239 rfl) (al_c (it2 0 rfl) (al_c (it2 1 rfl) (al_c (it2 2 rfl) (al_c (it1 10 rfl) (al_c (it2 3 rfl) (al_c (it2 4 rfl) (al_c (it2 5 rfl) (al_c (it2 6 rfl) (al_c (it2 7 rfl) (al_c (it2 8 rfl) (al_c (it2 9 rfl) (al_c (it2 10 rfl) (al_c (it2 11 rfl) (al_c (it2 12 rfl) (al_c (it2 14 rfl) (al_c (is1 2 rfl) (al_c (it2 15 rfl) al_n))))))))))))))))))))))))
set_option maxRecDepth 20000 in
theorem wsL_law_r10_in : ∀ w ∈ wsL_law_r10, w ∈ lw_tbl := (al_c (it2 17 rfl) (al_c (it2 19 rfl) (al_c (is1 3 rfl) (al_c (it2 20 rfl) (al_c (it3 182 rfl) (al_c (it3 183 rfl) (al_c (it3 184 rfl) (al_c (it3 185 rfl) (al_c (it3 186 rfl) (al_c (it3 188 rfl) (al_c (is2 11 rfl) (al_c (it3 189 rfl) (al_c (it3 68 rfl) (al_c (it3 69 rfl) (al_c (it3 190 rfl) (al_c (it3 191 rfl) (al_c (it3 192 rfl) (al_c (it3 193 rfl) (al_c (it3 195 rfl) (al_c (is2 12 rfl) (al_c (it3 196 rfl) (al_c (it2 22 rfl) (al_c (it2 23 rfl) (al_c (it2 24 rfl) al_n))))))))))))))))))))))))
