def am_Rl : List (List (Option Nat)) := [[some 1, some 3, some 12, some 21, none, some 30, some 392, some 407, some 411, none, some 412, some 416, some 420, some 424, some 435, some 440], [some 2], [], [some 4, some 8, some 9, none, none, none, some 10, some 11], [some 5, some 6, some 7], [], [], [], [], [], [], [], [some 13, some 17, some 18, none, none, none, some 19, some 20], [some 14, some 15, some 16], [], [], [], [], [], [], [], [some 22, some 26, some 27, none, none, none, some 28, some 29], [some 23, some 24, some 25], [], [], [], [], [], [], [], [some 31], [some 32, some 41, some 50, some 59, some 68, some 77, some 86, some 95, some 104, some 113, some 122, some 131, some 140, some 149, some 158, some 167, some 176, some 185, some 194, some 203, some 212, some 221, some 230, some 239, some 248, some 257, some 266, some 275, some 284, some 293, some 302, some 311, some 320, some 329, some 338, some 347, some 356, some 365, some 374, some 383], [some 33, some 37, some 38, none, none, none, some 39, some 40], [some 34, some 35, some 36], [], [], [], [], [], [], [], [some 42, some 46, some 47, none, none, none, some 48, some 49], [some 43, some 44, some 45], [], [], [], [], [], [], [], [some 51, some 55, some 56, none, none, none, some 57, some 58], [some 52, some 53, some 54], [], [], [], [], [], [], [], [some 60, some 64, some 65, none, none, none, some 66, some 67], [some 61, some 62, some 63], [], [], [], [], [], [], [], [some 69, some 73, some 74, none, none, none, some 75, some 76], [some 70, some 71, some 72], [], [], [], [], [], [], [], [some 78, some 82, some 83, none, none, none, some 84, some 85], [some 79, some 80, some 81], [], [], [], [], [], [], [], [some 87, some 91, some 92, none, none, none, some 93, some 94], [some 88, some 89, some 90], [], [], [], [], [], [], [], [some 96, some 100, some 101, none, none, none, some 102, some 103], [some 97, some 98, some 99], [], [], [], [], [], [], [], [some 105, some 109, some 110, none, none, none, some 111, some 112], [some 106, some 107, some 108], [], [], [], [], [], [], [], [some 114, some 118, some 119, none, none, none, some 120, some 121], [some 115, some 116, some 117], [], [], [], [], [], [], [], [some 123, some 127, some 128, none, none, none, some 129, some 130], [some 124, some 125, some 126], [], [], [], [], [], [], [], [some 132, some 136, some 137, none, none, none, some 138, some 139], [some 133, some 134, some 135], [], [], [], [], [], [], [], [some 141, some 145, some 146, none, none, none, some 147, some 148], [some 142, some 143, some 144], [], [], [], [], [], [], [], [some 150, some 154, some 155, none, none, none, some 156, some 157], [some 151, some 152, some 153], [], [], [], [], [], [], [], [some 159, some 163, some 164, none, none, none, some 165, some 166], [some 160, some 161, some 162], [], [], [], [], [], [], [], [some 168, some 172, some 173, none, none, none, some 174, some 175], [some 169, some 170, some 171], [], [], [], [], [], [], [], [some 177, some 181, some 182, none, none, none, some 183, some 184], [some 178, some 179, some 180], [], [], [], [], [], [], [], [some 186, some 190, some 191, none, none, none, some 192, some 193], [some 187, some 188, some 189], [], [], [], [], [], [], [], [some 195, some 199, some 200, none, none, none, some 201, some 202], [some 196, some 197, some 198], [], [], [], [], [], [], [], [some 204, some 208, some 209, none, none, none, some 210, some 211], [some 205, some 206, some 207], [], [], [], [], [], [], [], [some 213, some 217, some 218, none, none, none, some 219, some 220], [some 214, some 215, some 216], [], [], [], [], [], [], [], [some 222, some 226, some 227, none, none, none, some 228, some 229], [some 223, some 224, some 225], [], [], [], [], [], [], [], [some 231, some 235, some 236, none, none, none, some 237, some 238], [some 232, some 233, some 234], [], [], [], [], [], [], [], [some 240, some 244, some 245, none, none, none, some 246, some 247], [some 241, some 242, some 243], [], [], [], [], [], [], [], [some 249, some 253, some 254, none, none, none, some 255, some 256], [some 250, some 251, some 252], [], [], [], [], [], [], [], [some 258, some 262, some 263, none, none, none, some 264, some 265], [some 259, some 260, some 261], [], [], [], [], [], [], [], [some 267, some 271, some 272, none, none, none, some 273, some 274], [some 268, some 269, some 270], [], [], [], [], [], [], [], [some 276, some 280, some 281, none, none, none, some 282, some 283], [some 277, some 278, some 279], [], [], [], [], [], [], [], [some 285, some 289, some 290, none, none, none, some 291, some 292], [some 286, some 287, some 288], [], [], [], [], [], [], [], [some 294, some 298, some 299, none, none, none, some 300, some 301], [some 295, some 296, some 297], [], [], [], [], [], [], [], [some 303, some 307, some 308, none, none, none, some 309, some 310], [some 304, some 305, some 306], [], [], [], [], [], [], [], [some 312, some 316, some 317, none, none, none, some 318, some 319], [some 313, some 314, some 315], [], [], [], [], [], [], [], [some 321, some 325, some 326, none, none, none, some 327, some 328], [some 322, some 323, some 324], [], [], [], [], [], [], [], [some 330, some 334, some 335, none, none, none, some 336, some 337], [some 331, some 332, some 333], [], [], [], [], [], [], [], [some 339, some 343, some 344, none, none, none, some 345, some 346], [some 340, some 341, some 342], [], [], [], [], [], [], [], [some 348, some 352, some 353, none, none, none, some 354, some 355], [some 349, some 350, some 351], [], [], [], [], [], [], [], [some 357, some 361, some 362, none, none, none, some 363, some 364], [some 358, some 359, some 360], [], [], [], [], [], [], [], [some 366, some 370, some 371, none, none, none, some 372, some 373], [some 367, some 368, some 369], [], [], [], [], [], [], [], [some 375, some 379, some 380, none, none, none, some 381, some 382], [some 376, some 377, some 378], [], [], [], [], [], [], [], [some 384, some 388, some 389, none, none, none, some 390, some 391], [some 385, some 386, some 387], [], [], [], [], [], [], [], [some 393, some 394], [some 395, some 398, some 401, some 404], [], [some 396, some 397], [], [], [some 399, some 400], [], [], [some 402, some 403], [], [], [some 405, some 406], [], [], [some 408], [some 409, some 410], [], [], [some 441, some 445, some 449, some 453], [some 413, some 414, some 415], [], [], [], [some 417, some 418, some 419], [], [], [], [some 421, some 422, some 423], [], [], [], [none, none, some 429, some 430, some 431, some 432, some 433, some 434], [some 426, some 427, some 428], [], [], [], [], [], [], [], [], [], [some 436, some 437, some 438, some 439], [], [], [], [], [], [some 442, some 443, some 444], [], [], [], [some 446, some 447, some 448], [], [], [], [some 450, some 451, some 452], [], [], [], [some 454, some 455, some 456], [], [], [], [none, some 458, some 459, some 460, some 461, none, none, none, none, none, none, none, none, none, none, some 1000000, some 1000001, none, some 462, some 463, some 464, none, none, none, none, none, none, some 465, some 466, none, none, some 467, some 468, some 469, some 470, some 471, some 472, some 473, some 474, some 475, some 476, none, none, some 477, some 478, some 479, some 480, some 481, some 482, some 483, some 484, some 485, none, some 486], [], [], [], [], [], [], [], [], [], [], [], [], [], [], [], [], [], [], [], [], [], [], [], [], [], [], [], [], [], []]
def rfT (a j : Nat) : Option Nat := (am_Rl.getD a []).getD j none
/-- the references that never change are what they are -/
def WR (M : am_M) : Prop := ∀ a j v, rfT a j = some v → gR M a j = some v
section
variable {M : am_M}
theorem r_0_0 (h : WR M) : gR M 0 0 = some 1 := h _ _ _ rfl
theorem r_0_1 (h : WR M) : gR M 0 1 = some 3 := h _ _ _ rfl
theorem r_0_2 (h : WR M) : gR M 0 2 = some 12 := h _ _ _ rfl
theorem r_0_3 (h : WR M) : gR M 0 3 = some 21 := h _ _ _ rfl
theorem r_0_5 (h : WR M) : gR M 0 5 = some 30 := h _ _ _ rfl
theorem r_0_6 (h : WR M) : gR M 0 6 = some 392 := h _ _ _ rfl
theorem r_0_7 (h : WR M) : gR M 0 7 = some 407 := h _ _ _ rfl
theorem r_0_8 (h : WR M) : gR M 0 8 = some 411 := h _ _ _ rfl
theorem r_0_10 (h : WR M) : gR M 0 10 = some 412 := h _ _ _ rfl
theorem r_0_11 (h : WR M) : gR M 0 11 = some 416 := h _ _ _ rfl
theorem r_0_12 (h : WR M) : gR M 0 12 = some 420 := h _ _ _ rfl
theorem r_0_13 (h : WR M) : gR M 0 13 = some 424 := h _ _ _ rfl
theorem r_0_14 (h : WR M) : gR M 0 14 = some 435 := h _ _ _ rfl
theorem r_0_15 (h : WR M) : gR M 0 15 = some 440 := h _ _ _ rfl
theorem ob_0 : am_ob 488 0 10 = True := ob (by omega) rfl
theorem r_1_0 (h : WR M) : gR M 1 0 = some 2 := h _ _ _ rfl
theorem ob_1 : am_ob 488 1 9 = True := ob (by omega) rfl
theorem in_2 {k : Nat} (h : k < 240) : am_in 488 M 2 1 (nI k) = True := in1 (by omega) rfl h (by omega)
theorem iw_2 {k : Nat} (h : k < 240) : am_iw 488 2 1 (nI k) = True := iw (by omega) rfl h (by omega)
theorem r_3_0 (h : WR M) : gR M 3 0 = some 4 := h _ _ _ rfl
theorem r_3_1 (h : WR M) : gR M 3 1 = some 8 := h _ _ _ rfl
theorem r_3_2 (h : WR M) : gR M 3 2 = some 9 := h _ _ _ rfl
theorem r_3_6 (h : WR M) : gR M 3 6 = some 10 := h _ _ _ rfl
theorem r_3_7 (h : WR M) : gR M 3 7 = some 11 := h _ _ _ rfl
theorem ob_3 : am_ob 488 3 8 = True := ob (by omega) rfl
theorem r_4_0 (h : WR M) : gR M 4 0 = some 5 := h _ _ _ rfl
theorem r_4_1 (h : WR M) : gR M 4 1 = some 6 := h _ _ _ rfl
theorem r_4_2 (h : WR M) : gR M 4 2 = some 7 := h _ _ _ rfl
theorem ob_4 : am_ob 488 4 0 = True := ob (by omega) rfl
theorem in_5 {k : Nat} (h : k < 16) : am_in 488 M 5 1 (nI k) = True := in1 (by omega) rfl h (by omega)
theorem iw_5 {k : Nat} (h : k < 16) : am_iw 488 5 1 (nI k) = True := iw (by omega) rfl h (by omega)
theorem in_6 {k : Nat} (h : k < 16) : am_in 488 M 6 1 (nI k) = True := in1 (by omega) rfl h (by omega)
theorem iw_6 {k : Nat} (h : k < 16) : am_iw 488 6 1 (nI k) = True := iw (by omega) rfl h (by omega)
theorem in_7 {k : Nat} (h : k < 16) : am_in 488 M 7 1 (nI k) = True := in1 (by omega) rfl h (by omega)
theorem iw_7 {k : Nat} (h : k < 16) : am_iw 488 7 1 (nI k) = True := iw (by omega) rfl h (by omega)
theorem in_8 {k : Nat} (h : k < 4) : am_in 488 M 8 1 (nI k) = True := in1 (by omega) rfl h (by omega)
theorem iw_8 {k : Nat} (h : k < 4) : am_iw 488 8 1 (nI k) = True := iw (by omega) rfl h (by omega)
theorem in_9 {k : Nat} (h : k < 4) : am_in 488 M 9 1 (nI k) = True := in1 (by omega) rfl h (by omega)
theorem iw_9 {k : Nat} (h : k < 4) : am_iw 488 9 1 (nI k) = True := iw (by omega) rfl h (by omega)
theorem in_10 {k : Nat} (h : k < 60) : am_in 488 M 10 1 (nI k) = True := in1 (by omega) rfl h (by omega)
theorem iw_10 {k : Nat} (h : k < 60) : am_iw 488 10 1 (nI k) = True := iw (by omega) rfl h (by omega)
theorem in_11 {k : Nat} (h : k < 60) : am_in 488 M 11 1 (nI k) = True := in1 (by omega) rfl h (by omega)
theorem iw_11 {k : Nat} (h : k < 60) : am_iw 488 11 1 (nI k) = True := iw (by omega) rfl h (by omega)
theorem r_12_0 (h : WR M) : gR M 12 0 = some 13 := h _ _ _ rfl
theorem r_12_1 (h : WR M) : gR M 12 1 = some 17 := h _ _ _ rfl
theorem r_12_2 (h : WR M) : gR M 12 2 = some 18 := h _ _ _ rfl
theorem r_12_6 (h : WR M) : gR M 12 6 = some 19 := h _ _ _ rfl
theorem r_12_7 (h : WR M) : gR M 12 7 = some 20 := h _ _ _ rfl
theorem ob_12 : am_ob 488 12 8 = True := ob (by omega) rfl
theorem r_13_0 (h : WR M) : gR M 13 0 = some 14 := h _ _ _ rfl
theorem r_13_1 (h : WR M) : gR M 13 1 = some 15 := h _ _ _ rfl
theorem r_13_2 (h : WR M) : gR M 13 2 = some 16 := h _ _ _ rfl
theorem ob_13 : am_ob 488 13 0 = True := ob (by omega) rfl
theorem in_14 {k : Nat} (h : k < 16) : am_in 488 M 14 1 (nI k) = True := in1 (by omega) rfl h (by omega)
theorem iw_14 {k : Nat} (h : k < 16) : am_iw 488 14 1 (nI k) = True := iw (by omega) rfl h (by omega)
theorem in_15 {k : Nat} (h : k < 16) : am_in 488 M 15 1 (nI k) = True := in1 (by omega) rfl h (by omega)
theorem iw_15 {k : Nat} (h : k < 16) : am_iw 488 15 1 (nI k) = True := iw (by omega) rfl h (by omega)
theorem in_16 {k : Nat} (h : k < 16) : am_in 488 M 16 1 (nI k) = True := in1 (by omega) rfl h (by omega)
theorem iw_16 {k : Nat} (h : k < 16) : am_iw 488 16 1 (nI k) = True := iw (by omega) rfl h (by omega)
theorem in_17 {k : Nat} (h : k < 4) : am_in 488 M 17 1 (nI k) = True := in1 (by omega) rfl h (by omega)
theorem iw_17 {k : Nat} (h : k < 4) : am_iw 488 17 1 (nI k) = True := iw (by omega) rfl h (by omega)
theorem in_18 {k : Nat} (h : k < 4) : am_in 488 M 18 1 (nI k) = True := in1 (by omega) rfl h (by omega)
theorem iw_18 {k : Nat} (h : k < 4) : am_iw 488 18 1 (nI k) = True := iw (by omega) rfl h (by omega)
theorem in_19 {k : Nat} (h : k < 60) : am_in 488 M 19 1 (nI k) = True := in1 (by omega) rfl h (by omega)
theorem iw_19 {k : Nat} (h : k < 60) : am_iw 488 19 1 (nI k) = True := iw (by omega) rfl h (by omega)
theorem in_20 {k : Nat} (h : k < 60) : am_in 488 M 20 1 (nI k) = True := in1 (by omega) rfl h (by omega)
theorem iw_20 {k : Nat} (h : k < 60) : am_iw 488 20 1 (nI k) = True := iw (by omega) rfl h (by omega)
theorem r_21_0 (h : WR M) : gR M 21 0 = some 22 := h _ _ _ rfl
theorem r_21_1 (h : WR M) : gR M 21 1 = some 26 := h _ _ _ rfl
theorem r_21_2 (h : WR M) : gR M 21 2 = some 27 := h _ _ _ rfl
theorem r_21_6 (h : WR M) : gR M 21 6 = some 28 := h _ _ _ rfl
theorem r_21_7 (h : WR M) : gR M 21 7 = some 29 := h _ _ _ rfl
theorem ob_21 : am_ob 488 21 8 = True := ob (by omega) rfl
theorem r_22_0 (h : WR M) : gR M 22 0 = some 23 := h _ _ _ rfl
theorem r_22_1 (h : WR M) : gR M 22 1 = some 24 := h _ _ _ rfl
theorem r_22_2 (h : WR M) : gR M 22 2 = some 25 := h _ _ _ rfl
theorem ob_22 : am_ob 488 22 0 = True := ob (by omega) rfl
theorem in_23 {k : Nat} (h : k < 16) : am_in 488 M 23 1 (nI k) = True := in1 (by omega) rfl h (by omega)
theorem iw_23 {k : Nat} (h : k < 16) : am_iw 488 23 1 (nI k) = True := iw (by omega) rfl h (by omega)
theorem in_24 {k : Nat} (h : k < 16) : am_in 488 M 24 1 (nI k) = True := in1 (by omega) rfl h (by omega)
theorem iw_24 {k : Nat} (h : k < 16) : am_iw 488 24 1 (nI k) = True := iw (by omega) rfl h (by omega)
theorem in_25 {k : Nat} (h : k < 16) : am_in 488 M 25 1 (nI k) = True := in1 (by omega) rfl h (by omega)
theorem iw_25 {k : Nat} (h : k < 16) : am_iw 488 25 1 (nI k) = True := iw (by omega) rfl h (by omega)
theorem in_26 {k : Nat} (h : k < 4) : am_in 488 M 26 1 (nI k) = True := in1 (by omega) rfl h (by omega)
theorem iw_26 {k : Nat} (h : k < 4) : am_iw 488 26 1 (nI k) = True := iw (by omega) rfl h (by omega)
theorem in_27 {k : Nat} (h : k < 4) : am_in 488 M 27 1 (nI k) = True := in1 (by omega) rfl h (by omega)
theorem iw_27 {k : Nat} (h : k < 4) : am_iw 488 27 1 (nI k) = True := iw (by omega) rfl h (by omega)
theorem in_28 {k : Nat} (h : k < 60) : am_in 488 M 28 1 (nI k) = True := in1 (by omega) rfl h (by omega)
theorem iw_28 {k : Nat} (h : k < 60) : am_iw 488 28 1 (nI k) = True := iw (by omega) rfl h (by omega)
theorem in_29 {k : Nat} (h : k < 60) : am_in 488 M 29 1 (nI k) = True := in1 (by omega) rfl h (by omega)
theorem iw_29 {k : Nat} (h : k < 60) : am_iw 488 29 1 (nI k) = True := iw (by omega) rfl h (by omega)
theorem r_30_0 (h : WR M) : gR M 30 0 = some 31 := h _ _ _ rfl
theorem ob_30 : am_ob 488 30 6 = True := ob (by omega) rfl
theorem iw_31 {k : Nat} (h : k < 40) : am_iw 488 31 6 (nI k) = True := iw (by omega) rfl h (by omega)
theorem r_392_0 (h : WR M) : gR M 392 0 = some 393 := h _ _ _ rfl
theorem r_392_1 (h : WR M) : gR M 392 1 = some 394 := h _ _ _ rfl
theorem ob_392 : am_ob 488 392 3 = True := ob (by omega) rfl
theorem iw_393 {k : Nat} (h : k < 4) : am_iw 488 393 7 (nI k) = True := iw (by omega) rfl h (by omega)
theorem in_394 {k : Nat} (h : k < 6) : am_in 488 M 394 1 (nI k) = True := in1 (by omega) rfl h (by omega)
theorem iw_394 {k : Nat} (h : k < 6) : am_iw 488 394 1 (nI k) = True := iw (by omega) rfl h (by omega)
theorem r_395_0 (h : WR M) : gR M 395 0 = some 396 := h _ _ _ rfl
theorem r_395_1 (h : WR M) : gR M 395 1 = some 397 := h _ _ _ rfl
theorem ob_395 : am_ob 488 395 2 = True := ob (by omega) rfl
theorem in_396 {k : Nat} (h : k < 480) : am_in 488 M 396 1 (nI k) = True := in1 (by omega) rfl h (by omega)
theorem iw_396 {k : Nat} (h : k < 480) : am_iw 488 396 1 (nI k) = True := iw (by omega) rfl h (by omega)
theorem in_397 {k : Nat} (h : k < 64) : am_in 488 M 397 1 (nI k) = True := in1 (by omega) rfl h (by omega)
theorem iw_397 {k : Nat} (h : k < 64) : am_iw 488 397 1 (nI k) = True := iw (by omega) rfl h (by omega)
theorem r_398_0 (h : WR M) : gR M 398 0 = some 399 := h _ _ _ rfl
theorem r_398_1 (h : WR M) : gR M 398 1 = some 400 := h _ _ _ rfl
theorem ob_398 : am_ob 488 398 2 = True := ob (by omega) rfl
theorem in_399 {k : Nat} (h : k < 480) : am_in 488 M 399 1 (nI k) = True := in1 (by omega) rfl h (by omega)
theorem iw_399 {k : Nat} (h : k < 480) : am_iw 488 399 1 (nI k) = True := iw (by omega) rfl h (by omega)
theorem in_400 {k : Nat} (h : k < 64) : am_in 488 M 400 1 (nI k) = True := in1 (by omega) rfl h (by omega)
theorem iw_400 {k : Nat} (h : k < 64) : am_iw 488 400 1 (nI k) = True := iw (by omega) rfl h (by omega)
theorem r_401_0 (h : WR M) : gR M 401 0 = some 402 := h _ _ _ rfl
theorem r_401_1 (h : WR M) : gR M 401 1 = some 403 := h _ _ _ rfl
theorem ob_401 : am_ob 488 401 2 = True := ob (by omega) rfl
theorem in_402 {k : Nat} (h : k < 480) : am_in 488 M 402 1 (nI k) = True := in1 (by omega) rfl h (by omega)
theorem iw_402 {k : Nat} (h : k < 480) : am_iw 488 402 1 (nI k) = True := iw (by omega) rfl h (by omega)
theorem in_403 {k : Nat} (h : k < 64) : am_in 488 M 403 1 (nI k) = True := in1 (by omega) rfl h (by omega)
theorem iw_403 {k : Nat} (h : k < 64) : am_iw 488 403 1 (nI k) = True := iw (by omega) rfl h (by omega)
theorem r_404_0 (h : WR M) : gR M 404 0 = some 405 := h _ _ _ rfl
theorem r_404_1 (h : WR M) : gR M 404 1 = some 406 := h _ _ _ rfl
theorem ob_404 : am_ob 488 404 2 = True := ob (by omega) rfl
theorem in_405 {k : Nat} (h : k < 480) : am_in 488 M 405 1 (nI k) = True := in1 (by omega) rfl h (by omega)
theorem iw_405 {k : Nat} (h : k < 480) : am_iw 488 405 1 (nI k) = True := iw (by omega) rfl h (by omega)
theorem in_406 {k : Nat} (h : k < 64) : am_in 488 M 406 1 (nI k) = True := in1 (by omega) rfl h (by omega)
theorem iw_406 {k : Nat} (h : k < 64) : am_iw 488 406 1 (nI k) = True := iw (by omega) rfl h (by omega)
theorem r_407_0 (h : WR M) : gR M 407 0 = some 408 := h _ _ _ rfl
theorem ob_407 : am_ob 488 407 4 = True := ob (by omega) rfl
theorem r_408_0 (h : WR M) : gR M 408 0 = some 409 := h _ _ _ rfl
theorem r_408_1 (h : WR M) : gR M 408 1 = some 410 := h _ _ _ rfl
theorem ob_408 : am_ob 488 408 2 = True := ob (by omega) rfl
theorem in_409 {k : Nat} (h : k < 480) : am_in 488 M 409 1 (nI k) = True := in1 (by omega) rfl h (by omega)
theorem iw_409 {k : Nat} (h : k < 480) : am_iw 488 409 1 (nI k) = True := iw (by omega) rfl h (by omega)
theorem in_410 {k : Nat} (h : k < 64) : am_in 488 M 410 1 (nI k) = True := in1 (by omega) rfl h (by omega)
theorem iw_410 {k : Nat} (h : k < 64) : am_iw 488 410 1 (nI k) = True := iw (by omega) rfl h (by omega)
theorem iw_411 {k : Nat} (h : k < 4) : am_iw 488 411 5 (nI k) = True := iw (by omega) rfl h (by omega)
theorem r_412_0 (h : WR M) : gR M 412 0 = some 413 := h _ _ _ rfl
theorem r_412_1 (h : WR M) : gR M 412 1 = some 414 := h _ _ _ rfl
theorem r_412_2 (h : WR M) : gR M 412 2 = some 415 := h _ _ _ rfl
theorem ob_412 : am_ob 488 412 0 = True := ob (by omega) rfl
theorem in_413 {k : Nat} (h : k < 16) : am_in 488 M 413 1 (nI k) = True := in1 (by omega) rfl h (by omega)
theorem iw_413 {k : Nat} (h : k < 16) : am_iw 488 413 1 (nI k) = True := iw (by omega) rfl h (by omega)
theorem in_414 {k : Nat} (h : k < 16) : am_in 488 M 414 1 (nI k) = True := in1 (by omega) rfl h (by omega)
theorem iw_414 {k : Nat} (h : k < 16) : am_iw 488 414 1 (nI k) = True := iw (by omega) rfl h (by omega)
theorem in_415 {k : Nat} (h : k < 16) : am_in 488 M 415 1 (nI k) = True := in1 (by omega) rfl h (by omega)
theorem iw_415 {k : Nat} (h : k < 16) : am_iw 488 415 1 (nI k) = True := iw (by omega) rfl h (by omega)
theorem r_416_0 (h : WR M) : gR M 416 0 = some 417 := h _ _ _ rfl
theorem r_416_1 (h : WR M) : gR M 416 1 = some 418 := h _ _ _ rfl
theorem r_416_2 (h : WR M) : gR M 416 2 = some 419 := h _ _ _ rfl
theorem ob_416 : am_ob 488 416 0 = True := ob (by omega) rfl
theorem in_417 {k : Nat} (h : k < 16) : am_in 488 M 417 1 (nI k) = True := in1 (by omega) rfl h (by omega)
theorem iw_417 {k : Nat} (h : k < 16) : am_iw 488 417 1 (nI k) = True := iw (by omega) rfl h (by omega)
theorem in_418 {k : Nat} (h : k < 16) : am_in 488 M 418 1 (nI k) = True := in1 (by omega) rfl h (by omega)
theorem iw_418 {k : Nat} (h : k < 16) : am_iw 488 418 1 (nI k) = True := iw (by omega) rfl h (by omega)
theorem in_419 {k : Nat} (h : k < 16) : am_in 488 M 419 1 (nI k) = True := in1 (by omega) rfl h (by omega)
theorem iw_419 {k : Nat} (h : k < 16) : am_iw 488 419 1 (nI k) = True := iw (by omega) rfl h (by omega)
theorem r_420_0 (h : WR M) : gR M 420 0 = some 421 := h _ _ _ rfl
theorem r_420_1 (h : WR M) : gR M 420 1 = some 422 := h _ _ _ rfl
theorem r_420_2 (h : WR M) : gR M 420 2 = some 423 := h _ _ _ rfl
theorem ob_420 : am_ob 488 420 0 = True := ob (by omega) rfl
theorem in_421 {k : Nat} (h : k < 16) : am_in 488 M 421 1 (nI k) = True := in1 (by omega) rfl h (by omega)
theorem iw_421 {k : Nat} (h : k < 16) : am_iw 488 421 1 (nI k) = True := iw (by omega) rfl h (by omega)
theorem in_422 {k : Nat} (h : k < 16) : am_in 488 M 422 1 (nI k) = True := in1 (by omega) rfl h (by omega)
theorem iw_422 {k : Nat} (h : k < 16) : am_iw 488 422 1 (nI k) = True := iw (by omega) rfl h (by omega)
theorem in_423 {k : Nat} (h : k < 16) : am_in 488 M 423 1 (nI k) = True := in1 (by omega) rfl h (by omega)
theorem iw_423 {k : Nat} (h : k < 16) : am_iw 488 423 1 (nI k) = True := iw (by omega) rfl h (by omega)
theorem r_424_2 (h : WR M) : gR M 424 2 = some 429 := h _ _ _ rfl
theorem r_424_3 (h : WR M) : gR M 424 3 = some 430 := h _ _ _ rfl
theorem r_424_4 (h : WR M) : gR M 424 4 = some 431 := h _ _ _ rfl
theorem r_424_5 (h : WR M) : gR M 424 5 = some 432 := h _ _ _ rfl
theorem r_424_6 (h : WR M) : gR M 424 6 = some 433 := h _ _ _ rfl
theorem r_424_7 (h : WR M) : gR M 424 7 = some 434 := h _ _ _ rfl
theorem ob_424 : am_ob 488 424 5 = True := ob (by omega) rfl
theorem r_425_0 (h : WR M) : gR M 425 0 = some 426 := h _ _ _ rfl
theorem r_425_1 (h : WR M) : gR M 425 1 = some 427 := h _ _ _ rfl
theorem r_425_2 (h : WR M) : gR M 425 2 = some 428 := h _ _ _ rfl
theorem ob_425 : am_ob 488 425 0 = True := ob (by omega) rfl
theorem in_426 {k : Nat} (h : k < 16) : am_in 488 M 426 1 (nI k) = True := in1 (by omega) rfl h (by omega)
theorem iw_426 {k : Nat} (h : k < 16) : am_iw 488 426 1 (nI k) = True := iw (by omega) rfl h (by omega)
theorem in_427 {k : Nat} (h : k < 16) : am_in 488 M 427 1 (nI k) = True := in1 (by omega) rfl h (by omega)
theorem iw_427 {k : Nat} (h : k < 16) : am_iw 488 427 1 (nI k) = True := iw (by omega) rfl h (by omega)
theorem in_428 {k : Nat} (h : k < 16) : am_in 488 M 428 1 (nI k) = True := in1 (by omega) rfl h (by omega)
theorem iw_428 {k : Nat} (h : k < 16) : am_iw 488 428 1 (nI k) = True := iw (by omega) rfl h (by omega)
theorem in_429 {k : Nat} (h : k < 12) : am_in 488 M 429 1 (nI k) = True := in1 (by omega) rfl h (by omega)
theorem iw_429 {k : Nat} (h : k < 12) : am_iw 488 429 1 (nI k) = True := iw (by omega) rfl h (by omega)
theorem in_430 {k : Nat} (h : k < 12) : am_in 488 M 430 1 (nI k) = True := in1 (by omega) rfl h (by omega)
theorem iw_430 {k : Nat} (h : k < 12) : am_iw 488 430 1 (nI k) = True := iw (by omega) rfl h (by omega)
theorem iw_431 {k : Nat} (h : k < 4096) : am_iw 488 431 3 (nI k) = True := iw (by omega) rfl h (by omega)
theorem iwn_431 {x : Int32} : am_iw 488 431 2 x = False := eq_false (fun h => absurd h.2.1 (by decide))
theorem in_432 {k : Nat} (h : k < 4096) : am_in 488 M 432 1 (nI k) = True := in1 (by omega) rfl h (by omega)
theorem iw_432 {k : Nat} (h : k < 4096) : am_iw 488 432 1 (nI k) = True := iw (by omega) rfl h (by omega)
theorem in_433 {k : Nat} (h : k < 24576) : am_in 488 M 433 1 (nI k) = True := in1 (by omega) rfl h (by omega)
theorem iw_433 {k : Nat} (h : k < 24576) : am_iw 488 433 1 (nI k) = True := iw (by omega) rfl h (by omega)
theorem in_434 {k : Nat} (h : k < 864) : am_in 488 M 434 1 (nI k) = True := in1 (by omega) rfl h (by omega)
theorem iw_434 {k : Nat} (h : k < 864) : am_iw 488 434 1 (nI k) = True := iw (by omega) rfl h (by omega)
theorem r_435_0 (h : WR M) : gR M 435 0 = some 436 := h _ _ _ rfl
theorem r_435_1 (h : WR M) : gR M 435 1 = some 437 := h _ _ _ rfl
theorem r_435_2 (h : WR M) : gR M 435 2 = some 438 := h _ _ _ rfl
theorem r_435_3 (h : WR M) : gR M 435 3 = some 439 := h _ _ _ rfl
theorem ob_435 : am_ob 488 435 7 = True := ob (by omega) rfl
theorem in_436 {k : Nat} (h : k < 10) : am_in 488 M 436 1 (nI k) = True := in1 (by omega) rfl h (by omega)
theorem iw_436 {k : Nat} (h : k < 10) : am_iw 488 436 1 (nI k) = True := iw (by omega) rfl h (by omega)
theorem in_437 {k : Nat} (h : k < 10) : am_in 488 M 437 1 (nI k) = True := in1 (by omega) rfl h (by omega)
theorem iw_437 {k : Nat} (h : k < 10) : am_iw 488 437 1 (nI k) = True := iw (by omega) rfl h (by omega)
theorem iw_438 {k : Nat} (h : k < 10) : am_iw 488 438 3 (nI k) = True := iw (by omega) rfl h (by omega)
theorem iwn_438 {x : Int32} : am_iw 488 438 2 x = False := eq_false (fun h => absurd h.2.1 (by decide))
theorem in_439 {k : Nat} (h : k < 10) : am_in 488 M 439 1 (nI k) = True := in1 (by omega) rfl h (by omega)
theorem iw_439 {k : Nat} (h : k < 10) : am_iw 488 439 1 (nI k) = True := iw (by omega) rfl h (by omega)
theorem ob_440 : am_ob 488 440 1 = True := ob (by omega) rfl
theorem r_441_0 (h : WR M) : gR M 441 0 = some 442 := h _ _ _ rfl
theorem r_441_1 (h : WR M) : gR M 441 1 = some 443 := h _ _ _ rfl
theorem r_441_2 (h : WR M) : gR M 441 2 = some 444 := h _ _ _ rfl
theorem ob_441 : am_ob 488 441 0 = True := ob (by omega) rfl
theorem in_442 {k : Nat} (h : k < 16) : am_in 488 M 442 1 (nI k) = True := in1 (by omega) rfl h (by omega)
theorem iw_442 {k : Nat} (h : k < 16) : am_iw 488 442 1 (nI k) = True := iw (by omega) rfl h (by omega)
theorem in_443 {k : Nat} (h : k < 16) : am_in 488 M 443 1 (nI k) = True := in1 (by omega) rfl h (by omega)
theorem iw_443 {k : Nat} (h : k < 16) : am_iw 488 443 1 (nI k) = True := iw (by omega) rfl h (by omega)
theorem in_444 {k : Nat} (h : k < 16) : am_in 488 M 444 1 (nI k) = True := in1 (by omega) rfl h (by omega)
theorem iw_444 {k : Nat} (h : k < 16) : am_iw 488 444 1 (nI k) = True := iw (by omega) rfl h (by omega)
theorem r_445_0 (h : WR M) : gR M 445 0 = some 446 := h _ _ _ rfl
theorem r_445_1 (h : WR M) : gR M 445 1 = some 447 := h _ _ _ rfl
theorem r_445_2 (h : WR M) : gR M 445 2 = some 448 := h _ _ _ rfl
theorem ob_445 : am_ob 488 445 0 = True := ob (by omega) rfl
theorem in_446 {k : Nat} (h : k < 16) : am_in 488 M 446 1 (nI k) = True := in1 (by omega) rfl h (by omega)
theorem iw_446 {k : Nat} (h : k < 16) : am_iw 488 446 1 (nI k) = True := iw (by omega) rfl h (by omega)
theorem in_447 {k : Nat} (h : k < 16) : am_in 488 M 447 1 (nI k) = True := in1 (by omega) rfl h (by omega)
theorem iw_447 {k : Nat} (h : k < 16) : am_iw 488 447 1 (nI k) = True := iw (by omega) rfl h (by omega)
theorem in_448 {k : Nat} (h : k < 16) : am_in 488 M 448 1 (nI k) = True := in1 (by omega) rfl h (by omega)
theorem iw_448 {k : Nat} (h : k < 16) : am_iw 488 448 1 (nI k) = True := iw (by omega) rfl h (by omega)
theorem r_449_0 (h : WR M) : gR M 449 0 = some 450 := h _ _ _ rfl
theorem r_449_1 (h : WR M) : gR M 449 1 = some 451 := h _ _ _ rfl
theorem r_449_2 (h : WR M) : gR M 449 2 = some 452 := h _ _ _ rfl
theorem ob_449 : am_ob 488 449 0 = True := ob (by omega) rfl
theorem in_450 {k : Nat} (h : k < 16) : am_in 488 M 450 1 (nI k) = True := in1 (by omega) rfl h (by omega)
theorem iw_450 {k : Nat} (h : k < 16) : am_iw 488 450 1 (nI k) = True := iw (by omega) rfl h (by omega)
theorem in_451 {k : Nat} (h : k < 16) : am_in 488 M 451 1 (nI k) = True := in1 (by omega) rfl h (by omega)
theorem iw_451 {k : Nat} (h : k < 16) : am_iw 488 451 1 (nI k) = True := iw (by omega) rfl h (by omega)
theorem in_452 {k : Nat} (h : k < 16) : am_in 488 M 452 1 (nI k) = True := in1 (by omega) rfl h (by omega)
theorem iw_452 {k : Nat} (h : k < 16) : am_iw 488 452 1 (nI k) = True := iw (by omega) rfl h (by omega)
theorem r_453_0 (h : WR M) : gR M 453 0 = some 454 := h _ _ _ rfl
theorem r_453_1 (h : WR M) : gR M 453 1 = some 455 := h _ _ _ rfl
theorem r_453_2 (h : WR M) : gR M 453 2 = some 456 := h _ _ _ rfl
theorem ob_453 : am_ob 488 453 0 = True := ob (by omega) rfl
theorem in_454 {k : Nat} (h : k < 16) : am_in 488 M 454 1 (nI k) = True := in1 (by omega) rfl h (by omega)
theorem iw_454 {k : Nat} (h : k < 16) : am_iw 488 454 1 (nI k) = True := iw (by omega) rfl h (by omega)
theorem in_455 {k : Nat} (h : k < 16) : am_in 488 M 455 1 (nI k) = True := in1 (by omega) rfl h (by omega)
theorem iw_455 {k : Nat} (h : k < 16) : am_iw 488 455 1 (nI k) = True := iw (by omega) rfl h (by omega)
theorem in_456 {k : Nat} (h : k < 16) : am_in 488 M 456 1 (nI k) = True := in1 (by omega) rfl h (by omega)
theorem iw_456 {k : Nat} (h : k < 16) : am_iw 488 456 1 (nI k) = True := iw (by omega) rfl h (by omega)
theorem r_457_1 (h : WR M) : gR M 457 1 = some 458 := h _ _ _ rfl
theorem r_457_2 (h : WR M) : gR M 457 2 = some 459 := h _ _ _ rfl
theorem r_457_3 (h : WR M) : gR M 457 3 = some 460 := h _ _ _ rfl
theorem r_457_4 (h : WR M) : gR M 457 4 = some 461 := h _ _ _ rfl
theorem r_457_15 (h : WR M) : gR M 457 15 = some 1000000 := h _ _ _ rfl
theorem r_457_16 (h : WR M) : gR M 457 16 = some 1000001 := h _ _ _ rfl
theorem r_457_18 (h : WR M) : gR M 457 18 = some 462 := h _ _ _ rfl
theorem r_457_19 (h : WR M) : gR M 457 19 = some 463 := h _ _ _ rfl
theorem r_457_20 (h : WR M) : gR M 457 20 = some 464 := h _ _ _ rfl
theorem r_457_27 (h : WR M) : gR M 457 27 = some 465 := h _ _ _ rfl
theorem r_457_28 (h : WR M) : gR M 457 28 = some 466 := h _ _ _ rfl
theorem r_457_31 (h : WR M) : gR M 457 31 = some 467 := h _ _ _ rfl
theorem r_457_32 (h : WR M) : gR M 457 32 = some 468 := h _ _ _ rfl
theorem r_457_33 (h : WR M) : gR M 457 33 = some 469 := h _ _ _ rfl
theorem r_457_34 (h : WR M) : gR M 457 34 = some 470 := h _ _ _ rfl
theorem r_457_35 (h : WR M) : gR M 457 35 = some 471 := h _ _ _ rfl
theorem r_457_36 (h : WR M) : gR M 457 36 = some 472 := h _ _ _ rfl
theorem r_457_37 (h : WR M) : gR M 457 37 = some 473 := h _ _ _ rfl
theorem r_457_38 (h : WR M) : gR M 457 38 = some 474 := h _ _ _ rfl
theorem r_457_39 (h : WR M) : gR M 457 39 = some 475 := h _ _ _ rfl
theorem r_457_40 (h : WR M) : gR M 457 40 = some 476 := h _ _ _ rfl
theorem r_457_43 (h : WR M) : gR M 457 43 = some 477 := h _ _ _ rfl
theorem r_457_44 (h : WR M) : gR M 457 44 = some 478 := h _ _ _ rfl
theorem r_457_45 (h : WR M) : gR M 457 45 = some 479 := h _ _ _ rfl
theorem r_457_46 (h : WR M) : gR M 457 46 = some 480 := h _ _ _ rfl
theorem r_457_47 (h : WR M) : gR M 457 47 = some 481 := h _ _ _ rfl
theorem r_457_48 (h : WR M) : gR M 457 48 = some 482 := h _ _ _ rfl
theorem r_457_49 (h : WR M) : gR M 457 49 = some 483 := h _ _ _ rfl
theorem r_457_50 (h : WR M) : gR M 457 50 = some 484 := h _ _ _ rfl
theorem r_457_51 (h : WR M) : gR M 457 51 = some 485 := h _ _ _ rfl
theorem r_457_53 (h : WR M) : gR M 457 53 = some 486 := h _ _ _ rfl
theorem ob_457 : am_ob 488 457 11 = True := ob (by omega) rfl
theorem iw_458 {k : Nat} (h : k < 240) : am_iw 488 458 2 (nI k) = True := iw (by omega) rfl h (by omega)
theorem iwn_458 {x : Int32} : am_iw 488 458 3 x = False := eq_false (fun h => absurd h.2.1 (by decide))
theorem iw_459 {k : Nat} (h : k < 960) : am_iw 488 459 2 (nI k) = True := iw (by omega) rfl h (by omega)
theorem iwn_459 {x : Int32} : am_iw 488 459 3 x = False := eq_false (fun h => absurd h.2.1 (by decide))
theorem in_460 {k : Nat} (h : k < 4) : am_in 488 M 460 1 (nI k) = True := in1 (by omega) rfl h (by omega)
theorem iw_460 {k : Nat} (h : k < 4) : am_iw 488 460 1 (nI k) = True := iw (by omega) rfl h (by omega)
theorem in_461 {k : Nat} (h : k < 128) : am_in 488 M 461 1 (nI k) = True := in1 (by omega) rfl h (by omega)
theorem iw_461 {k : Nat} (h : k < 128) : am_iw 488 461 1 (nI k) = True := iw (by omega) rfl h (by omega)
theorem in_462 {k : Nat} (h : k < 8) : am_in 488 M 462 1 (nI k) = True := in1 (by omega) rfl h (by omega)
theorem iw_462 {k : Nat} (h : k < 8) : am_iw 488 462 1 (nI k) = True := iw (by omega) rfl h (by omega)
theorem in_463 {k : Nat} (h : k < 240) : am_in 488 M 463 1 (nI k) = True := in1 (by omega) rfl h (by omega)
theorem iw_463 {k : Nat} (h : k < 240) : am_iw 488 463 1 (nI k) = True := iw (by omega) rfl h (by omega)
theorem in_464 {k : Nat} (h : k < 5) : am_in 488 M 464 1 (nI k) = True := in1 (by omega) rfl h (by omega)
theorem iw_464 {k : Nat} (h : k < 5) : am_iw 488 464 1 (nI k) = True := iw (by omega) rfl h (by omega)
theorem in_465 {k : Nat} (h : k < 164) : am_in 488 M 465 1 (nI k) = True := in1 (by omega) rfl h (by omega)
theorem iw_465 {k : Nat} (h : k < 164) : am_iw 488 465 1 (nI k) = True := iw (by omega) rfl h (by omega)
theorem in_466 {k : Nat} (h : k < 164) : am_in 488 M 466 1 (nI k) = True := in1 (by omega) rfl h (by omega)
theorem iw_466 {k : Nat} (h : k < 164) : am_iw 488 466 1 (nI k) = True := iw (by omega) rfl h (by omega)
theorem in_467 {k : Nat} (h : k < 6) : am_in 488 M 467 1 (nI k) = True := in1 (by omega) rfl h (by omega)
theorem iw_467 {k : Nat} (h : k < 6) : am_iw 488 467 1 (nI k) = True := iw (by omega) rfl h (by omega)
theorem in_468 {k : Nat} (h : k < 6) : am_in 488 M 468 1 (nI k) = True := in1 (by omega) rfl h (by omega)
theorem iw_468 {k : Nat} (h : k < 6) : am_iw 488 468 1 (nI k) = True := iw (by omega) rfl h (by omega)
theorem in_469 {k : Nat} (h : k < 6) : am_in 488 M 469 1 (nI k) = True := in1 (by omega) rfl h (by omega)
theorem iw_469 {k : Nat} (h : k < 6) : am_iw 488 469 1 (nI k) = True := iw (by omega) rfl h (by omega)
theorem in_470 {k : Nat} (h : k < 6) : am_in 488 M 470 1 (nI k) = True := in1 (by omega) rfl h (by omega)
theorem iw_470 {k : Nat} (h : k < 6) : am_iw 488 470 1 (nI k) = True := iw (by omega) rfl h (by omega)
theorem in_471 {k : Nat} (h : k < 6) : am_in 488 M 471 1 (nI k) = True := in1 (by omega) rfl h (by omega)
theorem iw_471 {k : Nat} (h : k < 6) : am_iw 488 471 1 (nI k) = True := iw (by omega) rfl h (by omega)
theorem in_472 {k : Nat} (h : k < 6) : am_in 488 M 472 1 (nI k) = True := in1 (by omega) rfl h (by omega)
theorem iw_472 {k : Nat} (h : k < 6) : am_iw 488 472 1 (nI k) = True := iw (by omega) rfl h (by omega)
theorem in_473 {k : Nat} (h : k < 12) : am_in 488 M 473 1 (nI k) = True := in1 (by omega) rfl h (by omega)
theorem iw_473 {k : Nat} (h : k < 12) : am_iw 488 473 1 (nI k) = True := iw (by omega) rfl h (by omega)
theorem in_474 {k : Nat} (h : k < 12) : am_in 488 M 474 1 (nI k) = True := in1 (by omega) rfl h (by omega)
theorem iw_474 {k : Nat} (h : k < 12) : am_iw 488 474 1 (nI k) = True := iw (by omega) rfl h (by omega)
theorem in_475 {k : Nat} (h : k < 12) : am_in 488 M 475 1 (nI k) = True := in1 (by omega) rfl h (by omega)
theorem iw_475 {k : Nat} (h : k < 12) : am_iw 488 475 1 (nI k) = True := iw (by omega) rfl h (by omega)
theorem in_476 {k : Nat} (h : k < 6560) : am_in 488 M 476 1 (nI k) = True := in1 (by omega) rfl h (by omega)
theorem iw_476 {k : Nat} (h : k < 6560) : am_iw 488 476 1 (nI k) = True := iw (by omega) rfl h (by omega)
theorem in_477 {k : Nat} (h : k < 30) : am_in 488 M 477 1 (nI k) = True := in1 (by omega) rfl h (by omega)
theorem iw_477 {k : Nat} (h : k < 30) : am_iw 488 477 1 (nI k) = True := iw (by omega) rfl h (by omega)
theorem in_478 {k : Nat} (h : k < 30) : am_in 488 M 478 1 (nI k) = True := in1 (by omega) rfl h (by omega)
theorem iw_478 {k : Nat} (h : k < 30) : am_iw 488 478 1 (nI k) = True := iw (by omega) rfl h (by omega)
theorem iw_479 {k : Nat} (h : k < 8191) : am_iw 488 479 4 (nI k) = True := iw (by omega) rfl h (by omega)
theorem in_480 {k : Nat} (h : k < 8191) : am_in 488 M 480 1 (nI k) = True := in1 (by omega) rfl h (by omega)
theorem iw_480 {k : Nat} (h : k < 8191) : am_iw 488 480 1 (nI k) = True := iw (by omega) rfl h (by omega)
theorem in_481 {k : Nat} (h : k < 4096) : am_in 488 M 481 1 (nI k) = True := in1 (by omega) rfl h (by omega)
theorem iw_481 {k : Nat} (h : k < 4096) : am_iw 488 481 1 (nI k) = True := iw (by omega) rfl h (by omega)
theorem in_482 {k : Nat} (h : k < 4096) : am_in 488 M 482 1 (nI k) = True := in1 (by omega) rfl h (by omega)
theorem iw_482 {k : Nat} (h : k < 4096) : am_iw 488 482 1 (nI k) = True := iw (by omega) rfl h (by omega)
theorem in_483 {k : Nat} (h : k < 12) : am_in 488 M 483 1 (nI k) = True := in1 (by omega) rfl h (by omega)
theorem iw_483 {k : Nat} (h : k < 12) : am_iw 488 483 1 (nI k) = True := iw (by omega) rfl h (by omega)
theorem in_484 {k : Nat} (h : k < 24576) : am_in 488 M 484 1 (nI k) = True := in1 (by omega) rfl h (by omega)
theorem iw_484 {k : Nat} (h : k < 24576) : am_iw 488 484 1 (nI k) = True := iw (by omega) rfl h (by omega)
theorem in_485 {k : Nat} (h : k < 30) : am_in 488 M 485 1 (nI k) = True := in1 (by omega) rfl h (by omega)
theorem iw_485 {k : Nat} (h : k < 30) : am_iw 488 485 1 (nI k) = True := iw (by omega) rfl h (by omega)
theorem in_486 {k : Nat} (h : k < 164) : am_in 488 M 486 1 (nI k) = True := in1 (by omega) rfl h (by omega)
theorem iw_486 {k : Nat} (h : k < 164) : am_iw 488 486 1 (nI k) = True := iw (by omega) rfl h (by omega)
theorem iw_487 {k : Nat} (h : k < 1) : am_iw 488 487 4 (nI k) = True := iw (by omega) rfl h (by omega)
theorem r_31 {i : Nat} (h : WR M) (hi : i < 40) : gR M 31 i = some (32 + 9 * i) := h _ _ _ ((by decide : ∀ i, i < 40 → rfT 31 i = some (32 + 9 * i)) i hi)
theorem r_411 {i : Nat} (h : WR M) (hi : i < 4) : gR M 411 i = some (441 + 4 * i) := h _ _ _ ((by decide : ∀ i, i < 4 → rfT 411 i = some (441 + 4 * i)) i hi)
theorem r_393 {i : Nat} (h : WR M) (hi : i < 4) : gR M 393 i = some (395 + 3 * i) := h _ _ _ ((by decide : ∀ i, i < 4 → rfT 393 i = some (395 + 3 * i)) i hi)
end
