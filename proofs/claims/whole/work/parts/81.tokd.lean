def am_FK (k : Nat) (e : Nat × Nat × Nat × Nat × Bool × Nat) : Prop := ∃ r : vw_C, vwCl[e.2.1]? = some r ∧ e.2.2.1 < r.2.2 ∧ (am_fk.getD e.2.1 []).getD e.2.2.1 0 = e.2.2.2.1 ∧ Cond.fieldLink (am_cls k) e.1 (r.2.1 e.2.2.1).1 (r.2.1 e.2.2.1).2.1 (r.2.1 e.2.2.1).2.2.1 ∈ am_tb ∧ (r.2.1 e.2.2.1).2.2.2 = e.2.2.2.2.1 ∧ (r.2.1 e.2.2.1).1 = am_cls e.2.1

set_option maxRecDepth 100000 in
theorem fkaX0 : ∀ e ∈ am_flX0, am_FK 0 e := (am_fa1 (P := am_FK 0) ⟨_, rfl, by decide, rfl, (am_tb_at 164 (by decide +kernel) (by decide)), rfl, rfl⟩ (am_fa1 (P := am_FK 0) ⟨_, rfl, by decide, rfl, (am_tb_at 168 (by decide +kernel) (by decide)), rfl, rfl⟩ (am_fa1 (P := am_FK 0) ⟨_, rfl, by decide, rfl, (am_tb_at 171 (by decide +kernel) (by decide)), rfl, rfl⟩ (am_fa1 (P := am_FK 0) ⟨_, rfl, by decide, rfl, (am_tb_at 174 (by decide +kernel) (by decide)), rfl, rfl⟩ (am_fa1 (P := am_FK 0) ⟨_, rfl, by decide, rfl, (am_tb_at 143 (by decide +kernel) (by decide)), rfl, rfl⟩ am_fa0)))))
set_option maxRecDepth 100000 in
theorem fkaX1 : ∀ e ∈ am_flX1, am_FK 1 e := (am_fa1 (P := am_FK 1) ⟨_, rfl, by decide, rfl, (am_tb_at 364 (by decide +kernel) (by decide)), rfl, rfl⟩ am_fa0)
set_option maxRecDepth 100000 in
theorem fkaX2 : ∀ e ∈ am_flX2, am_FK 2 e := (am_fa1 (P := am_FK 2) ⟨_, rfl, by decide, rfl, (am_tb_at 257 (by decide +kernel) (by decide)), rfl, rfl⟩ (am_fa1 (P := am_FK 2) ⟨_, rfl, by decide, rfl, (am_tb_at 258 (by decide +kernel) (by decide)), rfl, rfl⟩ (am_fa1 (P := am_FK 2) ⟨_, rfl, by decide, rfl, (am_tb_at 259 (by decide +kernel) (by decide)), rfl, rfl⟩ am_fa0)))
set_option maxRecDepth 100000 in
theorem fkaX3 : ∀ e ∈ am_flX3, am_FK 3 e := (am_fa1 (P := am_FK 3) ⟨_, rfl, by decide, rfl, (am_tb_at 268 (by decide +kernel) (by decide)), rfl, rfl⟩ (am_fa1 (P := am_FK 3) ⟨_, rfl, by decide, rfl, (am_tb_at 269 (by decide +kernel) (by decide)), rfl, rfl⟩ (am_fa1 (P := am_FK 3) ⟨_, rfl, by decide, rfl, (am_tb_at 270 (by decide +kernel) (by decide)), rfl, rfl⟩ (am_fa1 (P := am_FK 3) ⟨_, rfl, by decide, rfl, (am_tb_at 272 (by decide +kernel) (by decide)), rfl, rfl⟩ am_fa0))))
set_option maxRecDepth 100000 in
theorem fkaX4 : ∀ e ∈ am_flX4, am_FK 4 e := (am_fa1 (P := am_FK 4) ⟨_, rfl, by decide, rfl, (am_tb_at 291 (by decide +kernel) (by decide)), rfl, rfl⟩ (am_fa1 (P := am_FK 4) ⟨_, rfl, by decide, rfl, (am_tb_at 260 (by decide +kernel) (by decide)), rfl, rfl⟩ (am_fa1 (P := am_FK 4) ⟨_, rfl, by decide, rfl, (am_tb_at 142 (by decide +kernel) (by decide)), rfl, rfl⟩ am_fa0)))
set_option maxRecDepth 100000 in
theorem fkaX5 : ∀ e ∈ am_flX5, am_FK 5 e := (am_fa1 (P := am_FK 5) ⟨_, rfl, by decide, rfl, (am_tb_at 307 (by decide +kernel) (by decide)), rfl, rfl⟩ (am_fa1 (P := am_FK 5) ⟨_, rfl, by decide, rfl, (am_tb_at 308 (by decide +kernel) (by decide)), rfl, rfl⟩ (am_fa1 (P := am_FK 5) ⟨_, rfl, by decide, rfl, (am_tb_at 309 (by decide +kernel) (by decide)), rfl, rfl⟩ (am_fa1 (P := am_FK 5) ⟨_, rfl, by decide, rfl, (am_tb_at 311 (by decide +kernel) (by decide)), rfl, rfl⟩ (am_fa1 (P := am_FK 5) ⟨_, rfl, by decide, rfl, (am_tb_at 313 (by decide +kernel) (by decide)), rfl, rfl⟩ (am_fa1 (P := am_FK 5) ⟨_, rfl, by decide, rfl, (am_tb_at 314 (by decide +kernel) (by decide)), rfl, rfl⟩ (am_fa1 (P := am_FK 5) ⟨_, rfl, by decide, rfl, (am_tb_at 315 (by decide +kernel) (by decide)), rfl, rfl⟩ (am_fa1 (P := am_FK 5) ⟨_, rfl, by decide, rfl, (am_tb_at 316 (by decide +kernel) (by decide)), rfl, rfl⟩ (am_fa1 (P := am_FK 5) ⟨_, rfl, by decide, rfl, (am_tb_at 175 (by decide +kernel) (by decide)), rfl, rfl⟩ (am_fa1 (P := am_FK 5) ⟨_, rfl, by decide, rfl, (am_tb_at 165 (by decide +kernel) (by decide)), rfl, rfl⟩ (am_fa1 (P := am_FK 5) ⟨_, rfl, by decide, rfl, (am_tb_at 169 (by decide +kernel) (by decide)), rfl, rfl⟩ (am_fa1 (P := am_FK 5) ⟨_, rfl, by decide, rfl, (am_tb_at 173 (by decide +kernel) (by decide)), rfl, rfl⟩ am_fa0))))))))))))
set_option maxRecDepth 100000 in
theorem fkaX6 : ∀ e ∈ am_flX6, am_FK 6 e := (am_fa1 (P := am_FK 6) ⟨_, rfl, by decide, rfl, (am_tb_at 233 (by decide +kernel) (by decide)), rfl, rfl⟩ (am_fa1 (P := am_FK 6) ⟨_, rfl, by decide, rfl, (am_tb_at 234 (by decide +kernel) (by decide)), rfl, rfl⟩ (am_fa1 (P := am_FK 6) ⟨_, rfl, by decide, rfl, (am_tb_at 235 (by decide +kernel) (by decide)), rfl, rfl⟩ am_fa0)))
set_option maxRecDepth 100000 in
theorem fkaX7 : ∀ e ∈ am_flX7, am_FK 7 e := (am_fa1 (P := am_FK 7) ⟨_, rfl, by decide, rfl, (am_tb_at 341 (by decide +kernel) (by decide)), rfl, rfl⟩ (am_fa1 (P := am_FK 7) ⟨_, rfl, by decide, rfl, (am_tb_at 342 (by decide +kernel) (by decide)), rfl, rfl⟩ (am_fa1 (P := am_FK 7) ⟨_, rfl, by decide, rfl, (am_tb_at 343 (by decide +kernel) (by decide)), rfl, rfl⟩ (am_fa1 (P := am_FK 7) ⟨_, rfl, by decide, rfl, (am_tb_at 344 (by decide +kernel) (by decide)), rfl, rfl⟩ (am_fa1 (P := am_FK 7) ⟨_, rfl, by decide, rfl, (am_tb_at 345 (by decide +kernel) (by decide)), rfl, rfl⟩ am_fa0)))))
set_option maxRecDepth 100000 in
theorem fkaX8 : ∀ e ∈ am_flX8, am_FK 8 e := (am_fa1 (P := am_FK 8) ⟨_, rfl, by decide, rfl, (am_tb_at 187 (by decide +kernel) (by decide)), rfl, rfl⟩ (am_fa1 (P := am_FK 8) ⟨_, rfl, by decide, rfl, (am_tb_at 189 (by decide +kernel) (by decide)), rfl, rfl⟩ (am_fa1 (P := am_FK 8) ⟨_, rfl, by decide, rfl, (am_tb_at 191 (by decide +kernel) (by decide)), rfl, rfl⟩ (am_fa1 (P := am_FK 8) ⟨_, rfl, by decide, rfl, (am_tb_at 193 (by decide +kernel) (by decide)), rfl, rfl⟩ (am_fa1 (P := am_FK 8) ⟨_, rfl, by decide, rfl, (am_tb_at 195 (by decide +kernel) (by decide)), rfl, rfl⟩ (am_fa1 (P := am_FK 8) ⟨_, rfl, by decide, rfl, (am_tb_at 197 (by decide +kernel) (by decide)), rfl, rfl⟩ (am_fa1 (P := am_FK 8) ⟨_, rfl, by decide, rfl, (am_tb_at 199 (by decide +kernel) (by decide)), rfl, rfl⟩ (am_fa1 (P := am_FK 8) ⟨_, rfl, by decide, rfl, (am_tb_at 201 (by decide +kernel) (by decide)), rfl, rfl⟩ (am_fa1 (P := am_FK 8) ⟨_, rfl, by decide, rfl, (am_tb_at 203 (by decide +kernel) (by decide)), rfl, rfl⟩ (am_fa1 (P := am_FK 8) ⟨_, rfl, by decide, rfl, (am_tb_at 140 (by decide +kernel) (by decide)), rfl, rfl⟩ (am_fa1 (P := am_FK 8) ⟨_, rfl, by decide, rfl, (am_tb_at 166 (by decide +kernel) (by decide)), rfl, rfl⟩ (am_fa1 (P := am_FK 8) ⟨_, rfl, by decide, rfl, (am_tb_at 176 (by decide +kernel) (by decide)), rfl, rfl⟩ am_fa0))))))))))))
set_option maxRecDepth 100000 in
theorem fkaX9 : ∀ e ∈ am_flX9, am_FK 9 e := (am_fa1 (P := am_FK 9) ⟨_, rfl, by decide, rfl, (am_tb_at 136 (by decide +kernel) (by decide)), rfl, rfl⟩ (am_fa1 (P := am_FK 9) ⟨_, rfl, by decide, rfl, (am_tb_at 137 (by decide +kernel) (by decide)), rfl, rfl⟩ (am_fa1 (P := am_FK 9) ⟨_, rfl, by decide, rfl, (am_tb_at 139 (by decide +kernel) (by decide)), rfl, rfl⟩ am_fa0)))
set_option maxRecDepth 100000 in
theorem fkaX10 : ∀ e ∈ am_flX10, am_FK 10 e := (am_fa1 (P := am_FK 10) ⟨_, rfl, by decide, rfl, (am_tb_at 369 (by decide +kernel) (by decide)), rfl, rfl⟩ (am_fa1 (P := am_FK 10) ⟨_, rfl, by decide, rfl, (am_tb_at 370 (by decide +kernel) (by decide)), rfl, rfl⟩ (am_fa1 (P := am_FK 10) ⟨_, rfl, by decide, rfl, (am_tb_at 371 (by decide +kernel) (by decide)), rfl, rfl⟩ (am_fa1 (P := am_FK 10) ⟨_, rfl, by decide, rfl, (am_tb_at 372 (by decide +kernel) (by decide)), rfl, rfl⟩ (am_fa1 (P := am_FK 10) ⟨_, rfl, by decide, rfl, (am_tb_at 373 (by decide +kernel) (by decide)), rfl, rfl⟩ (am_fa1 (P := am_FK 10) ⟨_, rfl, by decide, rfl, (am_tb_at 374 (by decide +kernel) (by decide)), rfl, rfl⟩ (am_fa1 (P := am_FK 10) ⟨_, rfl, by decide, rfl, (am_tb_at 375 (by decide +kernel) (by decide)), rfl, rfl⟩ (am_fa1 (P := am_FK 10) ⟨_, rfl, by decide, rfl, (am_tb_at 376 (by decide +kernel) (by decide)), rfl, rfl⟩ (am_fa1 (P := am_FK 10) ⟨_, rfl, by decide, rfl, (am_tb_at 377 (by decide +kernel) (by decide)), rfl, rfl⟩ (am_fa1 (P := am_FK 10) ⟨_, rfl, by decide, rfl, (am_tb_at 378 (by decide +kernel) (by decide)), rfl, rfl⟩ (am_fa1 (P := am_FK 10) ⟨_, rfl, by decide, rfl, (am_tb_at 379 (by decide +kernel) (by decide)), rfl, rfl⟩ (am_fa1 (P := am_FK 10) ⟨_, rfl, by decide, rfl, (am_tb_at 380 (by decide +kernel) (by decide)), rfl, rfl⟩ (am_fa1 (P := am_FK 10) ⟨_, rfl, by decide, rfl, (am_tb_at 381 (by decide +kernel) (by decide)), rfl, rfl⟩ (am_fa1 (P := am_FK 10) ⟨_, rfl, by decide, rfl, (am_tb_at 382 (by decide +kernel) (by decide)), rfl, rfl⟩ (am_fa1 (P := am_FK 10) ⟨_, rfl, by decide, rfl, (am_tb_at 383 (by decide +kernel) (by decide)), rfl, rfl⟩ (am_fa1 (P := am_FK 10) ⟨_, rfl, by decide, rfl, (am_tb_at 384 (by decide +kernel) (by decide)), rfl, rfl⟩ (am_fa1 (P := am_FK 10) ⟨_, rfl, by decide, rfl, (am_tb_at 385 (by decide +kernel) (by decide)), rfl, rfl⟩ (am_fa1 (P := am_FK 10) ⟨_, rfl, by decide, rfl, (am_tb_at 138 (by decide +kernel) (by decide)), rfl, rfl⟩ (am_fa1 (P := am_FK 10) ⟨_, rfl, by decide, rfl, (am_tb_at 141 (by decide +kernel) (by decide)), rfl, rfl⟩ (am_fa1 (P := am_FK 10) ⟨_, rfl, by decide, rfl, (am_tb_at 292 (by decide +kernel) (by decide)), rfl, rfl⟩ (am_fa1 (P := am_FK 10) ⟨_, rfl, by decide, rfl, (am_tb_at 346 (by decide +kernel) (by decide)), rfl, rfl⟩ (am_fa1 (P := am_FK 10) ⟨_, rfl, by decide, rfl, (am_tb_at 194 (by decide +kernel) (by decide)), rfl, rfl⟩ (am_fa1 (P := am_FK 10) ⟨_, rfl, by decide, rfl, (am_tb_at 188 (by decide +kernel) (by decide)), rfl, rfl⟩ (am_fa1 (P := am_FK 10) ⟨_, rfl, by decide, rfl, (am_tb_at 172 (by decide +kernel) (by decide)), rfl, rfl⟩ (am_fa1 (P := am_FK 10) ⟨_, rfl, by decide, rfl, (am_tb_at 271 (by decide +kernel) (by decide)), rfl, rfl⟩ (am_fa1 (P := am_FK 10) ⟨_, rfl, by decide, rfl, (am_tb_at 273 (by decide +kernel) (by decide)), rfl, rfl⟩ (am_fa1 (P := am_FK 10) ⟨_, rfl, by decide, rfl, (am_tb_at 196 (by decide +kernel) (by decide)), rfl, rfl⟩ (am_fa1 (P := am_FK 10) ⟨_, rfl, by decide, rfl, (am_tb_at 177 (by decide +kernel) (by decide)), rfl, rfl⟩ (am_fa1 (P := am_FK 10) ⟨_, rfl, by decide, rfl, (am_tb_at 167 (by decide +kernel) (by decide)), rfl, rfl⟩ (am_fa1 (P := am_FK 10) ⟨_, rfl, by decide, rfl, (am_tb_at 192 (by decide +kernel) (by decide)), rfl, rfl⟩ (am_fa1 (P := am_FK 10) ⟨_, rfl, by decide, rfl, (am_tb_at 190 (by decide +kernel) (by decide)), rfl, rfl⟩ (am_fa1 (P := am_FK 10) ⟨_, rfl, by decide, rfl, (am_tb_at 198 (by decide +kernel) (by decide)), rfl, rfl⟩ (am_fa1 (P := am_FK 10) ⟨_, rfl, by decide, rfl, (am_tb_at 365 (by decide +kernel) (by decide)), rfl, rfl⟩ (am_fa1 (P := am_FK 10) ⟨_, rfl, by decide, rfl, (am_tb_at 170 (by decide +kernel) (by decide)), rfl, rfl⟩ (am_fa1 (P := am_FK 10) ⟨_, rfl, by decide, rfl, (am_tb_at 204 (by decide +kernel) (by decide)), rfl, rfl⟩ (am_fa1 (P := am_FK 10) ⟨_, rfl, by decide, rfl, (am_tb_at 200 (by decide +kernel) (by decide)), rfl, rfl⟩ (am_fa1 (P := am_FK 10) ⟨_, rfl, by decide, rfl, (am_tb_at 202 (by decide +kernel) (by decide)), rfl, rfl⟩ (am_fa1 (P := am_FK 10) ⟨_, rfl, by decide, rfl, (am_tb_at 310 (by decide +kernel) (by decide)), rfl, rfl⟩ (am_fa1 (P := am_FK 10) ⟨_, rfl, by decide, rfl, (am_tb_at 312 (by decide +kernel) (by decide)), rfl, rfl⟩ (am_fa1 (P := am_FK 10) ⟨_, rfl, by decide, rfl, (am_tb_at 236 (by decide +kernel) (by decide)), rfl, rfl⟩ am_fa0))))))))))))))))))))))))))))))))))))))))
set_option maxRecDepth 100000 in
theorem fkaX11 : ∀ e ∈ am_flX11, am_FK 11 e := (am_fa1 (P := am_FK 11) ⟨_, rfl, by decide, rfl, (am_tb_at 1196 (by decide +kernel) (by decide)), rfl, rfl⟩ (am_fa1 (P := am_FK 11) ⟨_, rfl, by decide, rfl, (am_tb_at 1197 (by decide +kernel) (by decide)), rfl, rfl⟩ (am_fa1 (P := am_FK 11) ⟨_, rfl, by decide, rfl, (am_tb_at 1198 (by decide +kernel) (by decide)), rfl, rfl⟩ (am_fa1 (P := am_FK 11) ⟨_, rfl, by decide, rfl, (am_tb_at 1199 (by decide +kernel) (by decide)), rfl, rfl⟩ (am_fa1 (P := am_FK 11) ⟨_, rfl, by decide, rfl, (am_tb_at 1200 (by decide +kernel) (by decide)), rfl, rfl⟩ (am_fa1 (P := am_FK 11) ⟨_, rfl, by decide, rfl, (am_tb_at 1210 (by decide +kernel) (by decide)), rfl, rfl⟩ (am_fa1 (P := am_FK 11) ⟨_, rfl, by decide, rfl, (am_tb_at 1211 (by decide +kernel) (by decide)), rfl, rfl⟩ (am_fa1 (P := am_FK 11) ⟨_, rfl, by decide, rfl, (am_tb_at 1213 (by decide +kernel) (by decide)), rfl, rfl⟩ (am_fa1 (P := am_FK 11) ⟨_, rfl, by decide, rfl, (am_tb_at 1214 (by decide +kernel) (by decide)), rfl, rfl⟩ (am_fa1 (P := am_FK 11) ⟨_, rfl, by decide, rfl, (am_tb_at 1215 (by decide +kernel) (by decide)), rfl, rfl⟩ (am_fa1 (P := am_FK 11) ⟨_, rfl, by decide, rfl, (am_tb_at 1222 (by decide +kernel) (by decide)), rfl, rfl⟩ (am_fa1 (P := am_FK 11) ⟨_, rfl, by decide, rfl, (am_tb_at 1223 (by decide +kernel) (by decide)), rfl, rfl⟩ (am_fa1 (P := am_FK 11) ⟨_, rfl, by decide, rfl, (am_tb_at 1224 (by decide +kernel) (by decide)), rfl, rfl⟩ (am_fa1 (P := am_FK 11) ⟨_, rfl, by decide, rfl, (am_tb_at 1225 (by decide +kernel) (by decide)), rfl, rfl⟩ (am_fa1 (P := am_FK 11) ⟨_, rfl, by decide, rfl, (am_tb_at 1226 (by decide +kernel) (by decide)), rfl, rfl⟩ (am_fa1 (P := am_FK 11) ⟨_, rfl, by decide, rfl, (am_tb_at 1227 (by decide +kernel) (by decide)), rfl, rfl⟩ (am_fa1 (P := am_FK 11) ⟨_, rfl, by decide, rfl, (am_tb_at 1228 (by decide +kernel) (by decide)), rfl, rfl⟩ (am_fa1 (P := am_FK 11) ⟨_, rfl, by decide, rfl, (am_tb_at 1229 (by decide +kernel) (by decide)), rfl, rfl⟩ (am_fa1 (P := am_FK 11) ⟨_, rfl, by decide, rfl, (am_tb_at 1230 (by decide +kernel) (by decide)), rfl, rfl⟩ (am_fa1 (P := am_FK 11) ⟨_, rfl, by decide, rfl, (am_tb_at 1231 (by decide +kernel) (by decide)), rfl, rfl⟩ (am_fa1 (P := am_FK 11) ⟨_, rfl, by decide, rfl, (am_tb_at 1232 (by decide +kernel) (by decide)), rfl, rfl⟩ (am_fa1 (P := am_FK 11) ⟨_, rfl, by decide, rfl, (am_tb_at 1233 (by decide +kernel) (by decide)), rfl, rfl⟩ (am_fa1 (P := am_FK 11) ⟨_, rfl, by decide, rfl, (am_tb_at 1234 (by decide +kernel) (by decide)), rfl, rfl⟩ (am_fa1 (P := am_FK 11) ⟨_, rfl, by decide, rfl, (am_tb_at 1235 (by decide +kernel) (by decide)), rfl, rfl⟩ (am_fa1 (P := am_FK 11) ⟨_, rfl, by decide, rfl, (am_tb_at 1238 (by decide +kernel) (by decide)), rfl, rfl⟩ (am_fa1 (P := am_FK 11) ⟨_, rfl, by decide, rfl, (am_tb_at 1239 (by decide +kernel) (by decide)), rfl, rfl⟩ (am_fa1 (P := am_FK 11) ⟨_, rfl, by decide, rfl, (am_tb_at 1240 (by decide +kernel) (by decide)), rfl, rfl⟩ (am_fa1 (P := am_FK 11) ⟨_, rfl, by decide, rfl, (am_tb_at 1241 (by decide +kernel) (by decide)), rfl, rfl⟩ (am_fa1 (P := am_FK 11) ⟨_, rfl, by decide, rfl, (am_tb_at 1242 (by decide +kernel) (by decide)), rfl, rfl⟩ (am_fa1 (P := am_FK 11) ⟨_, rfl, by decide, rfl, (am_tb_at 1243 (by decide +kernel) (by decide)), rfl, rfl⟩ (am_fa1 (P := am_FK 11) ⟨_, rfl, by decide, rfl, (am_tb_at 1244 (by decide +kernel) (by decide)), rfl, rfl⟩ (am_fa1 (P := am_FK 11) ⟨_, rfl, by decide, rfl, (am_tb_at 1245 (by decide +kernel) (by decide)), rfl, rfl⟩ (am_fa1 (P := am_FK 11) ⟨_, rfl, by decide, rfl, (am_tb_at 1246 (by decide +kernel) (by decide)), rfl, rfl⟩ (am_fa1 (P := am_FK 11) ⟨_, rfl, by decide, rfl, (am_tb_at 1248 (by decide +kernel) (by decide)), rfl, rfl⟩ (am_fa1 (P := am_FK 11) ⟨_, rfl, by decide, rfl, (am_tb_at 1195 (by decide +kernel) (by decide)), rfl, rfl⟩ (am_fa1 (P := am_FK 11) ⟨_, rfl, by decide, rfl, (am_tb_at 1201 (by decide +kernel) (by decide)), rfl, rfl⟩ (am_fa1 (P := am_FK 11) ⟨_, rfl, by decide, rfl, (am_tb_at 1205 (by decide +kernel) (by decide)), rfl, rfl⟩ (am_fa1 (P := am_FK 11) ⟨_, rfl, by decide, rfl, (am_tb_at 1204 (by decide +kernel) (by decide)), rfl, rfl⟩ (am_fa1 (P := am_FK 11) ⟨_, rfl, by decide, rfl, (am_tb_at 1203 (by decide +kernel) (by decide)), rfl, rfl⟩ (am_fa1 (P := am_FK 11) ⟨_, rfl, by decide, rfl, (am_tb_at 1206 (by decide +kernel) (by decide)), rfl, rfl⟩ (am_fa1 (P := am_FK 11) ⟨_, rfl, by decide, rfl, (am_tb_at 1207 (by decide +kernel) (by decide)), rfl, rfl⟩ (am_fa1 (P := am_FK 11) ⟨_, rfl, by decide, rfl, (am_tb_at 1212 (by decide +kernel) (by decide)), rfl, rfl⟩ (am_fa1 (P := am_FK 11) ⟨_, rfl, by decide, rfl, (am_tb_at 1208 (by decide +kernel) (by decide)), rfl, rfl⟩ (am_fa1 (P := am_FK 11) ⟨_, rfl, by decide, rfl, (am_tb_at 1209 (by decide +kernel) (by decide)), rfl, rfl⟩ (am_fa1 (P := am_FK 11) ⟨_, rfl, by decide, rfl, (am_tb_at 1221 (by decide +kernel) (by decide)), rfl, rfl⟩ (am_fa1 (P := am_FK 11) ⟨_, rfl, by decide, rfl, (am_tb_at 1217 (by decide +kernel) (by decide)), rfl, rfl⟩ (am_fa1 (P := am_FK 11) ⟨_, rfl, by decide, rfl, (am_tb_at 1219 (by decide +kernel) (by decide)), rfl, rfl⟩ (am_fa1 (P := am_FK 11) ⟨_, rfl, by decide, rfl, (am_tb_at 1202 (by decide +kernel) (by decide)), rfl, rfl⟩ (am_fa1 (P := am_FK 11) ⟨_, rfl, by decide, rfl, (am_tb_at 1220 (by decide +kernel) (by decide)), rfl, rfl⟩ (am_fa1 (P := am_FK 11) ⟨_, rfl, by decide, rfl, (am_tb_at 1216 (by decide +kernel) (by decide)), rfl, rfl⟩ (am_fa1 (P := am_FK 11) ⟨_, rfl, by decide, rfl, (am_tb_at 1218 (by decide +kernel) (by decide)), rfl, rfl⟩ (am_fa1 (P := am_FK 11) ⟨_, rfl, by decide, rfl, (am_tb_at 1247 (by decide +kernel) (by decide)), rfl, rfl⟩ (am_fa1 (P := am_FK 11) ⟨_, rfl, by decide, rfl, (am_tb_at 1236 (by decide +kernel) (by decide)), rfl, rfl⟩ (am_fa1 (P := am_FK 11) ⟨_, rfl, by decide, rfl, (am_tb_at 1249 (by decide +kernel) (by decide)), rfl, rfl⟩ (am_fa1 (P := am_FK 11) ⟨_, rfl, by decide, rfl, (am_tb_at 1237 (by decide +kernel) (by decide)), rfl, rfl⟩ am_fa0)))))))))))))))))))))))))))))))))))))))))))))))))))))))
set_option maxRecDepth 100000 in
theorem fkaL : ∀ e ∈ am_flL, am_FK 12 e := am_fa0
set_option maxRecDepth 100000 in
theorem fkaJ6 : ∀ e ∈ am_flJ6, am_FK 13 e := am_fa0
set_option maxRecDepth 100000 in
theorem fkaJ9 : ∀ e ∈ am_flJ9, am_FK 14 e := am_fa0
theorem am_FLok : am_FLOK := by
  intro k i q h
  have hm := am_lk_mem h
  match k, hm with
  | 0, hm => exact fkaX0 _ hm
  | 1, hm => exact fkaX1 _ hm
  | 2, hm => exact fkaX2 _ hm
  | 3, hm => exact fkaX3 _ hm
  | 4, hm => exact fkaX4 _ hm
  | 5, hm => exact fkaX5 _ hm
  | 6, hm => exact fkaX6 _ hm
  | 7, hm => exact fkaX7 _ hm
  | 8, hm => exact fkaX8 _ hm
  | 9, hm => exact fkaX9 _ hm
  | 10, hm => exact fkaX10 _ hm
  | 11, hm => exact fkaX11 _ hm
  | 12, hm => exact fkaL _ hm
  | 13, hm => exact fkaJ6 _ hm
  | 14, hm => exact fkaJ9 _ hm
  | k + 15, hm => exact absurd hm List.not_mem_nil
set_option maxRecDepth 100000 in
theorem inwX0 : ∀ w ∈ u_ws RX0 TX0 4, w ∈ am_tb := by
  have h : (u_ws RX0 TX0 4).all (fun w => decide (w ∈ lw_tbl) && goodWord w) = true := by decide +kernel
  intro w hw
  have := List.all_eq_true.mp h w hw
  rw [Bool.and_eq_true] at this
  exact List.mem_filter.mpr ⟨of_decide_eq_true this.1, this.2⟩
set_option maxRecDepth 100000 in
theorem inwX1 : ∀ w ∈ u_ws RX1 TX1 1, w ∈ am_tb := by
  have h : (u_ws RX1 TX1 1).all (fun w => decide (w ∈ lw_tbl) && goodWord w) = true := by decide +kernel
  intro w hw
  have := List.all_eq_true.mp h w hw
  rw [Bool.and_eq_true] at this
  exact List.mem_filter.mpr ⟨of_decide_eq_true this.1, this.2⟩
set_option maxRecDepth 100000 in
theorem inwX2 : ∀ w ∈ u_ws RX2 TX2 3, w ∈ am_tb := by
  have h : (u_ws RX2 TX2 3).all (fun w => decide (w ∈ lw_tbl) && goodWord w) = true := by decide +kernel
  intro w hw
  have := List.all_eq_true.mp h w hw
  rw [Bool.and_eq_true] at this
  exact List.mem_filter.mpr ⟨of_decide_eq_true this.1, this.2⟩
set_option maxRecDepth 100000 in
theorem inwX3 : ∀ w ∈ u_ws RX3 TX3 4, w ∈ am_tb := by
  have h : (u_ws RX3 TX3 4).all (fun w => decide (w ∈ lw_tbl) && goodWord w) = true := by decide +kernel
  intro w hw
  have := List.all_eq_true.mp h w hw
  rw [Bool.and_eq_true] at this
  exact List.mem_filter.mpr ⟨of_decide_eq_true this.1, this.2⟩
set_option maxRecDepth 100000 in
theorem inwX4 : ∀ w ∈ u_ws RX4 TX4 1, w ∈ am_tb := by
  have h : (u_ws RX4 TX4 1).all (fun w => decide (w ∈ lw_tbl) && goodWord w) = true := by decide +kernel
  intro w hw
  have := List.all_eq_true.mp h w hw
  rw [Bool.and_eq_true] at this
  exact List.mem_filter.mpr ⟨of_decide_eq_true this.1, this.2⟩
set_option maxRecDepth 100000 in
theorem inwX5 : ∀ w ∈ u_ws RX5 TX5 8, w ∈ am_tb := by
  have h : (u_ws RX5 TX5 8).all (fun w => decide (w ∈ lw_tbl) && goodWord w) = true := by decide +kernel
  intro w hw
  have := List.all_eq_true.mp h w hw
  rw [Bool.and_eq_true] at this
  exact List.mem_filter.mpr ⟨of_decide_eq_true this.1, this.2⟩
set_option maxRecDepth 100000 in
theorem inwX6 : ∀ w ∈ u_ws RX6 TX6 3, w ∈ am_tb := by
  have h : (u_ws RX6 TX6 3).all (fun w => decide (w ∈ lw_tbl) && goodWord w) = true := by decide +kernel
  intro w hw
  have := List.all_eq_true.mp h w hw
  rw [Bool.and_eq_true] at this
  exact List.mem_filter.mpr ⟨of_decide_eq_true this.1, this.2⟩
set_option maxRecDepth 100000 in
theorem inwX7 : ∀ w ∈ u_ws RX7 TX7 5, w ∈ am_tb := by
  have h : (u_ws RX7 TX7 5).all (fun w => decide (w ∈ lw_tbl) && goodWord w) = true := by decide +kernel
  intro w hw
  have := List.all_eq_true.mp h w hw
  rw [Bool.and_eq_true] at this
  exact List.mem_filter.mpr ⟨of_decide_eq_true this.1, this.2⟩
set_option maxRecDepth 100000 in
theorem inwX8 : ∀ w ∈ u_ws RX8 TX8 9, w ∈ am_tb := by
  have h : (u_ws RX8 TX8 9).all (fun w => decide (w ∈ lw_tbl) && goodWord w) = true := by decide +kernel
  intro w hw
  have := List.all_eq_true.mp h w hw
  rw [Bool.and_eq_true] at this
  exact List.mem_filter.mpr ⟨of_decide_eq_true this.1, this.2⟩
set_option maxRecDepth 100000 in
theorem inwX9 : ∀ w ∈ u_ws RX9 TX9 3, w ∈ am_tb := by
  have h : (u_ws RX9 TX9 3).all (fun w => decide (w ∈ lw_tbl) && goodWord w) = true := by decide +kernel
  intro w hw
  have := List.all_eq_true.mp h w hw
  rw [Bool.and_eq_true] at this
  exact List.mem_filter.mpr ⟨of_decide_eq_true this.1, this.2⟩
set_option maxRecDepth 100000 in
theorem inwX10 : ∀ w ∈ u_ws RX10 TX10 17, w ∈ am_tb := by
  have h : (u_ws RX10 TX10 17).all (fun w => decide (w ∈ lw_tbl) && goodWord w) = true := by decide +kernel
  intro w hw
  have := List.all_eq_true.mp h w hw
  rw [Bool.and_eq_true] at this
  exact List.mem_filter.mpr ⟨of_decide_eq_true this.1, this.2⟩
set_option maxRecDepth 100000 in
theorem inwX11 : ∀ w ∈ u_ws RX11 TX11 55, w ∈ am_tb := by
  have h : (u_ws RX11 TX11 55).all (fun w => decide (w ∈ lw_tbl) && goodWord w) = true := by decide +kernel
  intro w hw
  have := List.all_eq_true.mp h w hw
  rw [Bool.and_eq_true] at this
  exact List.mem_filter.mpr ⟨of_decide_eq_true this.1, this.2⟩
theorem am_CLok : am_CLOK := by
  intro ci r h
  match ci, h with
  | 0, h => cases h; exact ⟨inwX0, nmX0, rfl, rfl, tyX0, tyX0_ok, by decide⟩
  | 1, h => cases h; exact ⟨inwX1, nmX1, rfl, rfl, tyX1, tyX1_ok, by decide⟩
  | 2, h => cases h; exact ⟨inwX2, nmX2, rfl, rfl, tyX2, tyX2_ok, by decide⟩
  | 3, h => cases h; exact ⟨inwX3, nmX3, rfl, rfl, tyX3, tyX3_ok, by decide⟩
  | 4, h => cases h; exact ⟨inwX4, nmX4, rfl, rfl, tyX4, tyX4_ok, by decide⟩
  | 5, h => cases h; exact ⟨inwX5, nmX5, rfl, rfl, tyX5, tyX5_ok, by decide⟩
  | 6, h => cases h; exact ⟨inwX6, nmX6, rfl, rfl, tyX6, tyX6_ok, by decide⟩
  | 7, h => cases h; exact ⟨inwX7, nmX7, rfl, rfl, tyX7, tyX7_ok, by decide⟩
  | 8, h => cases h; exact ⟨inwX8, nmX8, rfl, rfl, tyX8, tyX8_ok, by decide⟩
  | 9, h => cases h; exact ⟨inwX9, nmX9, rfl, rfl, tyX9, tyX9_ok, by decide⟩
  | 10, h => cases h; exact ⟨inwX10, nmX10, rfl, rfl, tyX10, tyX10_ok, by decide⟩
  | 11, h => cases h; exact ⟨inwX11, nmX11, rfl, rfl, tyX11, tyX11_ok, by decide⟩
  | ci + 12, h => simp [vwCl] at h
theorem ckaX0 : ∀ e ∈ am_ckT.getD 0 [], Cond.constant (am_cls 0) e.1 e.2.1 ∈ am_tb := am_fa0
theorem cjaX0 : ∀ e ∈ am_cjT.getD 0 [], Cond.constantLong (am_cls 0) e.1 e.2.1 ∈ am_tb := am_fa0
theorem ckaX1 : ∀ e ∈ am_ckT.getD 1 [], Cond.constant (am_cls 1) e.1 e.2.1 ∈ am_tb := am_fa0
theorem cjaX1 : ∀ e ∈ am_cjT.getD 1 [], Cond.constantLong (am_cls 1) e.1 e.2.1 ∈ am_tb := (am_fa1 (P := fun e : Nat × Int64 × Nat => Cond.constantLong (am_cls 1) e.1 e.2.1 ∈ am_tb) (am_tb_at 765 (by decide +kernel) (by decide)) (am_fa1 (P := fun e : Nat × Int64 × Nat => Cond.constantLong (am_cls 1) e.1 e.2.1 ∈ am_tb) (am_tb_at 766 (by decide +kernel) (by decide)) am_fa0))
theorem ckaX2 : ∀ e ∈ am_ckT.getD 2 [], Cond.constant (am_cls 2) e.1 e.2.1 ∈ am_tb := (am_fa1 (P := fun e : Nat × Int32 × Nat => Cond.constant (am_cls 2) e.1 e.2.1 ∈ am_tb) (am_tb_at 851 (by decide +kernel) (by decide)) (am_fa1 (P := fun e : Nat × Int32 × Nat => Cond.constant (am_cls 2) e.1 e.2.1 ∈ am_tb) (am_tb_at 852 (by decide +kernel) (by decide)) am_fa0))
theorem cjaX2 : ∀ e ∈ am_cjT.getD 2 [], Cond.constantLong (am_cls 2) e.1 e.2.1 ∈ am_tb := am_fa0
theorem ckaX3 : ∀ e ∈ am_ckT.getD 3 [], Cond.constant (am_cls 3) e.1 e.2.1 ∈ am_tb := am_fa0
theorem cjaX3 : ∀ e ∈ am_cjT.getD 3 [], Cond.constantLong (am_cls 3) e.1 e.2.1 ∈ am_tb := am_fa0
theorem ckaX4 : ∀ e ∈ am_ckT.getD 4 [], Cond.constant (am_cls 4) e.1 e.2.1 ∈ am_tb := am_fa0
theorem cjaX4 : ∀ e ∈ am_cjT.getD 4 [], Cond.constantLong (am_cls 4) e.1 e.2.1 ∈ am_tb := am_fa0
theorem ckaX5 : ∀ e ∈ am_ckT.getD 5 [], Cond.constant (am_cls 5) e.1 e.2.1 ∈ am_tb := (am_fa1 (P := fun e : Nat × Int32 × Nat => Cond.constant (am_cls 5) e.1 e.2.1 ∈ am_tb) (am_tb_at 941 (by decide +kernel) (by decide)) am_fa0)
theorem cjaX5 : ∀ e ∈ am_cjT.getD 5 [], Cond.constantLong (am_cls 5) e.1 e.2.1 ∈ am_tb := am_fa0
theorem ckaX6 : ∀ e ∈ am_ckT.getD 6 [], Cond.constant (am_cls 6) e.1 e.2.1 ∈ am_tb := am_fa0
theorem cjaX6 : ∀ e ∈ am_cjT.getD 6 [], Cond.constantLong (am_cls 6) e.1 e.2.1 ∈ am_tb := am_fa0
theorem ckaX7 : ∀ e ∈ am_ckT.getD 7 [], Cond.constant (am_cls 7) e.1 e.2.1 ∈ am_tb := am_fa0
theorem cjaX7 : ∀ e ∈ am_cjT.getD 7 [], Cond.constantLong (am_cls 7) e.1 e.2.1 ∈ am_tb := am_fa0
theorem ckaX8 : ∀ e ∈ am_ckT.getD 8 [], Cond.constant (am_cls 8) e.1 e.2.1 ∈ am_tb := am_fa0
theorem cjaX8 : ∀ e ∈ am_cjT.getD 8 [], Cond.constantLong (am_cls 8) e.1 e.2.1 ∈ am_tb := am_fa0
theorem ckaX9 : ∀ e ∈ am_ckT.getD 9 [], Cond.constant (am_cls 9) e.1 e.2.1 ∈ am_tb := am_fa0
theorem cjaX9 : ∀ e ∈ am_cjT.getD 9 [], Cond.constantLong (am_cls 9) e.1 e.2.1 ∈ am_tb := am_fa0
theorem ckaX10 : ∀ e ∈ am_ckT.getD 10 [], Cond.constant (am_cls 10) e.1 e.2.1 ∈ am_tb := (am_fa1 (P := fun e : Nat × Int32 × Nat => Cond.constant (am_cls 10) e.1 e.2.1 ∈ am_tb) (am_tb_at 811 (by decide +kernel) (by decide)) am_fa0)
theorem cjaX10 : ∀ e ∈ am_cjT.getD 10 [], Cond.constantLong (am_cls 10) e.1 e.2.1 ∈ am_tb := (am_fa1 (P := fun e : Nat × Int64 × Nat => Cond.constantLong (am_cls 10) e.1 e.2.1 ∈ am_tb) (am_tb_at 1015 (by decide +kernel) (by decide)) (am_fa1 (P := fun e : Nat × Int64 × Nat => Cond.constantLong (am_cls 10) e.1 e.2.1 ∈ am_tb) (am_tb_at 1016 (by decide +kernel) (by decide)) am_fa0))
theorem ckaX11 : ∀ e ∈ am_ckT.getD 11 [], Cond.constant (am_cls 11) e.1 e.2.1 ∈ am_tb := (am_fa1 (P := fun e : Nat × Int32 × Nat => Cond.constant (am_cls 11) e.1 e.2.1 ∈ am_tb) (am_tb_at 1719 (by decide +kernel) (by decide)) (am_fa1 (P := fun e : Nat × Int32 × Nat => Cond.constant (am_cls 11) e.1 e.2.1 ∈ am_tb) (am_tb_at 1796 (by decide +kernel) (by decide)) (am_fa1 (P := fun e : Nat × Int32 × Nat => Cond.constant (am_cls 11) e.1 e.2.1 ∈ am_tb) (am_tb_at 1855 (by decide +kernel) (by decide)) am_fa0)))
theorem cjaX11 : ∀ e ∈ am_cjT.getD 11 [], Cond.constantLong (am_cls 11) e.1 e.2.1 ∈ am_tb := (am_fa1 (P := fun e : Nat × Int64 × Nat => Cond.constantLong (am_cls 11) e.1 e.2.1 ∈ am_tb) (am_tb_at 1530 (by decide +kernel) (by decide)) (am_fa1 (P := fun e : Nat × Int64 × Nat => Cond.constantLong (am_cls 11) e.1 e.2.1 ∈ am_tb) (am_tb_at 1531 (by decide +kernel) (by decide)) (am_fa1 (P := fun e : Nat × Int64 × Nat => Cond.constantLong (am_cls 11) e.1 e.2.1 ∈ am_tb) (am_tb_at 1385 (by decide +kernel) (by decide)) (am_fa1 (P := fun e : Nat × Int64 × Nat => Cond.constantLong (am_cls 11) e.1 e.2.1 ∈ am_tb) (am_tb_at 1589 (by decide +kernel) (by decide)) (am_fa1 (P := fun e : Nat × Int64 × Nat => Cond.constantLong (am_cls 11) e.1 e.2.1 ∈ am_tb) (am_tb_at 1619 (by decide +kernel) (by decide)) (am_fa1 (P := fun e : Nat × Int64 × Nat => Cond.constantLong (am_cls 11) e.1 e.2.1 ∈ am_tb) (am_tb_at 1606 (by decide +kernel) (by decide)) (am_fa1 (P := fun e : Nat × Int64 × Nat => Cond.constantLong (am_cls 11) e.1 e.2.1 ∈ am_tb) (am_tb_at 1697 (by decide +kernel) (by decide)) (am_fa1 (P := fun e : Nat × Int64 × Nat => Cond.constantLong (am_cls 11) e.1 e.2.1 ∈ am_tb) (am_tb_at 1698 (by decide +kernel) (by decide)) (am_fa1 (P := fun e : Nat × Int64 × Nat => Cond.constantLong (am_cls 11) e.1 e.2.1 ∈ am_tb) (am_tb_at 1688 (by decide +kernel) (by decide)) (am_fa1 (P := fun e : Nat × Int64 × Nat => Cond.constantLong (am_cls 11) e.1 e.2.1 ∈ am_tb) (am_tb_at 1752 (by decide +kernel) (by decide)) (am_fa1 (P := fun e : Nat × Int64 × Nat => Cond.constantLong (am_cls 11) e.1 e.2.1 ∈ am_tb) (am_tb_at 1753 (by decide +kernel) (by decide)) (am_fa1 (P := fun e : Nat × Int64 × Nat => Cond.constantLong (am_cls 11) e.1 e.2.1 ∈ am_tb) (am_tb_at 1754 (by decide +kernel) (by decide)) (am_fa1 (P := fun e : Nat × Int64 × Nat => Cond.constantLong (am_cls 11) e.1 e.2.1 ∈ am_tb) (am_tb_at 1755 (by decide +kernel) (by decide)) (am_fa1 (P := fun e : Nat × Int64 × Nat => Cond.constantLong (am_cls 11) e.1 e.2.1 ∈ am_tb) (am_tb_at 1756 (by decide +kernel) (by decide)) (am_fa1 (P := fun e : Nat × Int64 × Nat => Cond.constantLong (am_cls 11) e.1 e.2.1 ∈ am_tb) (am_tb_at 1743 (by decide +kernel) (by decide)) (am_fa1 (P := fun e : Nat × Int64 × Nat => Cond.constantLong (am_cls 11) e.1 e.2.1 ∈ am_tb) (am_tb_at 1791 (by decide +kernel) (by decide)) (am_fa1 (P := fun e : Nat × Int64 × Nat => Cond.constantLong (am_cls 11) e.1 e.2.1 ∈ am_tb) (am_tb_at 1854 (by decide +kernel) (by decide)) (am_fa1 (P := fun e : Nat × Int64 × Nat => Cond.constantLong (am_cls 11) e.1 e.2.1 ∈ am_tb) (am_tb_at 1860 (by decide +kernel) (by decide)) am_fa0))))))))))))))))))
theorem ckaL : ∀ e ∈ am_ckT.getD 12 [], Cond.constant (am_cls 12) e.1 e.2.1 ∈ am_tb := am_fa0
theorem cjaL : ∀ e ∈ am_cjT.getD 12 [], Cond.constantLong (am_cls 12) e.1 e.2.1 ∈ am_tb := (am_fa1 (P := fun e : Nat × Int64 × Nat => Cond.constantLong (am_cls 12) e.1 e.2.1 ∈ am_tb) (am_tb_at 1910 (by decide +kernel) (by decide)) am_fa0)
theorem ckaJ6 : ∀ e ∈ am_ckT.getD 13 [], Cond.constant (am_cls 13) e.1 e.2.1 ∈ am_tb := (am_fa1 (P := fun e : Nat × Int32 × Nat => Cond.constant (am_cls 13) e.1 e.2.1 ∈ am_tb) (am_tb_at 918 (by decide +kernel) (by decide)) (am_fa1 (P := fun e : Nat × Int32 × Nat => Cond.constant (am_cls 13) e.1 e.2.1 ∈ am_tb) (am_tb_at 919 (by decide +kernel) (by decide)) (am_fa1 (P := fun e : Nat × Int32 × Nat => Cond.constant (am_cls 13) e.1 e.2.1 ∈ am_tb) (am_tb_at 920 (by decide +kernel) (by decide)) am_fa0)))
theorem cjaJ6 : ∀ e ∈ am_cjT.getD 13 [], Cond.constantLong (am_cls 13) e.1 e.2.1 ∈ am_tb := am_fa0
theorem ckaJ9 : ∀ e ∈ am_ckT.getD 14 [], Cond.constant (am_cls 14) e.1 e.2.1 ∈ am_tb := am_fa0
theorem cjaJ9 : ∀ e ∈ am_cjT.getD 14 [], Cond.constantLong (am_cls 14) e.1 e.2.1 ∈ am_tb := am_fa0
theorem am_CKok : am_CKOK := by
  refine ⟨fun k i v h => ?_, fun k i v h => ?_, fun k i j h => ?_⟩
  · have hm := am_lk_mem h
    match k, hm with
    | 0, hm => exact ckaX0 _ hm
    | 1, hm => exact ckaX1 _ hm
    | 2, hm => exact ckaX2 _ hm
    | 3, hm => exact ckaX3 _ hm
    | 4, hm => exact ckaX4 _ hm
    | 5, hm => exact ckaX5 _ hm
    | 6, hm => exact ckaX6 _ hm
    | 7, hm => exact ckaX7 _ hm
    | 8, hm => exact ckaX8 _ hm
    | 9, hm => exact ckaX9 _ hm
    | 10, hm => exact ckaX10 _ hm
    | 11, hm => exact ckaX11 _ hm
    | 12, hm => exact ckaL _ hm
    | 13, hm => exact ckaJ6 _ hm
    | 14, hm => exact ckaJ9 _ hm
    | k + 15, hm => exact absurd hm List.not_mem_nil
  · have hm := am_lk_mem h
    match k, hm with
    | 0, hm => exact cjaX0 _ hm
    | 1, hm => exact cjaX1 _ hm
    | 2, hm => exact cjaX2 _ hm
    | 3, hm => exact cjaX3 _ hm
    | 4, hm => exact cjaX4 _ hm
    | 5, hm => exact cjaX5 _ hm
    | 6, hm => exact cjaX6 _ hm
    | 7, hm => exact cjaX7 _ hm
    | 8, hm => exact cjaX8 _ hm
    | 9, hm => exact cjaX9 _ hm
    | 10, hm => exact cjaX10 _ hm
    | 11, hm => exact cjaX11 _ hm
    | 12, hm => exact cjaL _ hm
    | 13, hm => exact cjaJ6 _ hm
    | 14, hm => exact cjaJ9 _ hm
    | k + 15, hm => exact absurd hm List.not_mem_nil
  · have hm := am_lk_mem h
    have h11 : ∀ e ∈ am_csT.getD 11 [], e.2 < 4 ∧ (am_sidx.getD e.2 (0, "")).1 = e.1 := by decide
    by_cases hk : k = 11
    · subst hk
      exact ⟨rfl, h11 _ hm⟩
    · have h0 : ∀ k, k < 15 → k ≠ 11 → am_csT.getD k [] = [] := by decide
      by_cases h15 : k < 15
      · rw [h0 k h15 hk] at hm
        exact absurd hm List.not_mem_nil
      · have e : am_csT.getD k [] = [] := by
          rw [List.getD_eq_getElem?_getD, List.getElem?_eq_none (by show 15 ≤ k; omega)]; rfl
        rw [e] at hm
        exact absurd hm List.not_mem_nil
def am_NK (k : Nat) (e : Nat × Nat × Nat × Nat × Nat × Nat) : Prop := ∃ r : vw_C, vwCl[e.2.1]? = some r ∧ r.2.2 = e.2.2.1 ∧ Cond.classLink (am_cls k) e.1 r.1 ∈ am_tb ∧ Cond.instantiable r.1 r.2.2 ∈ am_tb ∧ Cond.initialized r.1 ∈ am_tb
theorem nkaX0 : ∀ e ∈ am_nlT.getD 0 [], am_NK 0 e := am_fa0
theorem nkaX1 : ∀ e ∈ am_nlT.getD 1 [], am_NK 1 e := am_fa0
theorem nkaX2 : ∀ e ∈ am_nlT.getD 2 [], am_NK 2 e := am_fa0
theorem nkaX3 : ∀ e ∈ am_nlT.getD 3 [], am_NK 3 e := (am_fa1 (P := am_NK 3) ⟨_, rfl, rfl, (am_tb_at 250 (by decide +kernel) (by decide)), (am_tb_at 252 (by decide +kernel) (by decide)), (am_tb_at 105 (by decide +kernel) (by decide))⟩ am_fa0)
theorem nkaX4 : ∀ e ∈ am_nlT.getD 4 [], am_NK 4 e := (am_fa1 (P := am_NK 4) ⟨_, rfl, rfl, (am_tb_at 289 (by decide +kernel) (by decide)), (am_tb_at 252 (by decide +kernel) (by decide)), (am_tb_at 105 (by decide +kernel) (by decide))⟩ am_fa0)
theorem nkaX5 : ∀ e ∈ am_nlT.getD 5 [], am_NK 5 e := (am_fa1 (P := am_NK 5) ⟨_, rfl, rfl, (am_tb_at 305 (by decide +kernel) (by decide)), (am_tb_at 159 (by decide +kernel) (by decide)), (am_tb_at 102 (by decide +kernel) (by decide))⟩ am_fa0)
theorem nkaX6 : ∀ e ∈ am_nlT.getD 6 [], am_NK 6 e := (am_fa1 (P := am_NK 6) ⟨_, rfl, rfl, (am_tb_at 230 (by decide +kernel) (by decide)), (am_tb_at 153 (by decide +kernel) (by decide)), (am_tb_at 101 (by decide +kernel) (by decide))⟩ am_fa0)
theorem nkaX7 : ∀ e ∈ am_nlT.getD 7 [], am_NK 7 e := am_fa0
theorem nkaX8 : ∀ e ∈ am_nlT.getD 8 [], am_NK 8 e := (am_fa1 (P := am_NK 8) ⟨_, rfl, rfl, (am_tb_at 158 (by decide +kernel) (by decide)), (am_tb_at 159 (by decide +kernel) (by decide)), (am_tb_at 102 (by decide +kernel) (by decide))⟩ am_fa0)
theorem nkaX9 : ∀ e ∈ am_nlT.getD 9 [], am_NK 9 e := am_fa0
theorem nkaX10 : ∀ e ∈ am_nlT.getD 10 [], am_NK 10 e := (am_fa1 (P := am_NK 10) ⟨_, rfl, rfl, (am_tb_at 130 (by decide +kernel) (by decide)), (am_tb_at 131 (by decide +kernel) (by decide)), (am_tb_at 100 (by decide +kernel) (by decide))⟩ (am_fa1 (P := am_NK 10) ⟨_, rfl, rfl, (am_tb_at 152 (by decide +kernel) (by decide)), (am_tb_at 153 (by decide +kernel) (by decide)), (am_tb_at 101 (by decide +kernel) (by decide))⟩ (am_fa1 (P := am_NK 10) ⟨_, rfl, rfl, (am_tb_at 224 (by decide +kernel) (by decide)), (am_tb_at 225 (by decide +kernel) (by decide)), (am_tb_at 103 (by decide +kernel) (by decide))⟩ (am_fa1 (P := am_NK 10) ⟨_, rfl, rfl, (am_tb_at 244 (by decide +kernel) (by decide)), (am_tb_at 245 (by decide +kernel) (by decide)), (am_tb_at 104 (by decide +kernel) (by decide))⟩ (am_fa1 (P := am_NK 10) ⟨_, rfl, rfl, (am_tb_at 283 (by decide +kernel) (by decide)), (am_tb_at 284 (by decide +kernel) (by decide)), (am_tb_at 106 (by decide +kernel) (by decide))⟩ (am_fa1 (P := am_NK 10) ⟨_, rfl, rfl, (am_tb_at 296 (by decide +kernel) (by decide)), (am_tb_at 159 (by decide +kernel) (by decide)), (am_tb_at 102 (by decide +kernel) (by decide))⟩ (am_fa1 (P := am_NK 10) ⟨_, rfl, rfl, (am_tb_at 299 (by decide +kernel) (by decide)), (am_tb_at 300 (by decide +kernel) (by decide)), (am_tb_at 107 (by decide +kernel) (by decide))⟩ (am_fa1 (P := am_NK 10) ⟨_, rfl, rfl, (am_tb_at 335 (by decide +kernel) (by decide)), (am_tb_at 336 (by decide +kernel) (by decide)), (am_tb_at 108 (by decide +kernel) (by decide))⟩ (am_fa1 (P := am_NK 10) ⟨_, rfl, rfl, (am_tb_at 358 (by decide +kernel) (by decide)), (am_tb_at 359 (by decide +kernel) (by decide)), (am_tb_at 109 (by decide +kernel) (by decide))⟩ am_fa0)))))))))
theorem nkaX11 : ∀ e ∈ am_nlT.getD 11 [], am_NK 11 e := am_fa0
theorem nkaL : ∀ e ∈ am_nlT.getD 12 [], am_NK 12 e := (am_fa1 (P := am_NK 12) ⟨_, rfl, rfl, (am_tb_at 122 (by decide +kernel) (by decide)), (am_tb_at 123 (by decide +kernel) (by decide)), (am_tb_at 99 (by decide +kernel) (by decide))⟩ (am_fa1 (P := am_NK 12) ⟨_, rfl, rfl, (am_tb_at 1187 (by decide +kernel) (by decide)), (am_tb_at 1188 (by decide +kernel) (by decide)), (am_tb_at 110 (by decide +kernel) (by decide))⟩ am_fa0))
theorem nkaJ6 : ∀ e ∈ am_nlT.getD 13 [], am_NK 13 e := am_fa0
theorem nkaJ9 : ∀ e ∈ am_nlT.getD 14 [], am_NK 14 e := am_fa0
theorem am_NLok : am_NLOK := by
  intro k i q h
  have hm := am_lk_mem h
  match k, hm with
  | 0, hm => exact nkaX0 _ hm
  | 1, hm => exact nkaX1 _ hm
  | 2, hm => exact nkaX2 _ hm
  | 3, hm => exact nkaX3 _ hm
  | 4, hm => exact nkaX4 _ hm
  | 5, hm => exact nkaX5 _ hm
  | 6, hm => exact nkaX6 _ hm
  | 7, hm => exact nkaX7 _ hm
  | 8, hm => exact nkaX8 _ hm
  | 9, hm => exact nkaX9 _ hm
  | 10, hm => exact nkaX10 _ hm
  | 11, hm => exact nkaX11 _ hm
  | 12, hm => exact nkaL _ hm
  | 13, hm => exact nkaJ6 _ hm
  | 14, hm => exact nkaJ9 _ hm
  | k + 15, hm => exact absurd hm List.not_mem_nil
theorem am_ARok : am_AROK := ⟨(am_tb_at 151 (by decide +kernel) (by decide)), (am_tb_at 1186 (by decide +kernel) (by decide)), (am_tb_at 334 (by decide +kernel) (by decide)), (am_tb_at 1361 (by decide +kernel) (by decide))⟩
theorem am_MTok : am_MTOK := ⟨⟨(am_tb_at 1086 (by decide +kernel) (by decide)), (am_tb_at 1087 (by decide +kernel) (by decide))⟩, ⟨(am_tb_at 801 (by decide +kernel) (by decide)), (am_tb_at 802 (by decide +kernel) (by decide))⟩, ⟨(am_tb_at 1053 (by decide +kernel) (by decide)), (am_tb_at 1054 (by decide +kernel) (by decide))⟩, ⟨(am_tb_at 1536 (by decide +kernel) (by decide)), (am_tb_at 1537 (by decide +kernel) (by decide))⟩, ⟨(am_tb_at 1533 (by decide +kernel) (by decide)), (am_tb_at 1534 (by decide +kernel) (by decide))⟩, (am_tb_at 115 (by decide +kernel) (by decide))⟩
theorem am_Tok : am_TOK := ⟨am_FLok, am_CLok, am_CKok, am_NLok, am_ARok, am_MLok, am_MTok⟩
