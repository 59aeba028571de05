/-! the decode rows of the law, 0 -/
theorem dL_law__0 : decode cL_law_ 0 = .ok (.new 8, 3) := by decide +kernel
theorem dL_law__3 : decode cL_law_ 3 = .ok (.dup, 1) := by decide +kernel
theorem dL_law__4 : decode cL_law_ 4 = .ok (.invokespecial 90, 3) := by decide +kernel
theorem dL_law__7 : decode cL_law_ 7 = .ok (.astore_n 1, 1) := by decide +kernel
theorem dL_law__8 : decode cL_law_ 8 = .ok (.new 91, 3) := by decide +kernel
theorem dL_law__11 : decode cL_law_ 11 = .ok (.dup, 1) := by decide +kernel
theorem dL_law__12 : decode cL_law_ 12 = .ok (.invokespecial 93, 3) := by decide +kernel
theorem dL_law__15 : decode cL_law_ 15 = .ok (.astore_n 2, 1) := by decide +kernel
theorem dL_law__16 : decode cL_law_ 16 = .ok (.iconst 1, 1) := by decide +kernel
theorem dL_law__17 : decode cL_law_ 17 = .ok (.newarray .long, 2) := by decide +kernel
theorem dL_law__19 : decode cL_law_ 19 = .ok (.astore_n 3, 1) := by decide +kernel
theorem dL_law__20 : decode cL_law_ 20 = .ok (.iconst 0, 1) := by decide +kernel
theorem dL_law__21 : decode cL_law_ 21 = .ok (.istore 4, 2) := by decide +kernel
theorem dL_law__23 : decode cL_law_ 23 = .ok (.iload 4, 2) := by decide +kernel
theorem dL_law__25 : decode cL_law_ 25 = .ok (.aload_n 0, 1) := by decide +kernel
theorem dL_law__26 : decode cL_law_ 26 = .ok (.arraylength, 1) := by decide +kernel
theorem dL_law__27 : decode cL_law_ 27 = .ok (.bipush 6, 2) := by decide +kernel
theorem dL_law__29 : decode cL_law_ 29 = .ok (.isub, 1) := by decide +kernel
theorem dL_law__30 : decode cL_law_ 30 = .ok (.if_icmp .gt 2045, 3) := by decide +kernel
theorem dL_law__33 : decode cL_law_ 33 = .ok (.aload_n 0, 1) := by decide +kernel
theorem dL_law__34 : decode cL_law_ 34 = .ok (.iload 4, 2) := by decide +kernel
theorem dL_law__36 : decode cL_law_ 36 = .ok (.iaload, 1) := by decide +kernel
theorem dL_law__37 : decode cL_law_ 37 = .ok (.bipush 31, 2) := by decide +kernel
theorem dL_law__39 : decode cL_law_ 39 = .ok (.iand, 1) := by decide +kernel
theorem dL_law__40 : decode cL_law_ 40 = .ok (.tableswitch 2029 0 30 #[140, 213, 269, 325, 393, 461, 474, 530, 598, 666, 746, 814, 906, 919, 987, 1067, 1135, 1148, 1216, 1272, 1364, 1468, 1548, 1561, 1653, 1733, 1789, 1869, 1937, 2005, 2016], 140) := by decide +kernel
theorem dL_law__180 : decode cL_law_ 180 = .ok (.aload_n 1, 1) := by decide +kernel
theorem dL_law__181 : decode cL_law_ 181 = .ok (.aload_n 0, 1) := by decide +kernel
theorem dL_law__182 : decode cL_law_ 182 = .ok (.iload 4, 2) := by decide +kernel
theorem dL_law__184 : decode cL_law_ 184 = .ok (.iconst 1, 1) := by decide +kernel
theorem dL_law__185 : decode cL_law_ 185 = .ok (.iadd, 1) := by decide +kernel
theorem dL_law__186 : decode cL_law_ 186 = .ok (.iaload, 1) := by decide +kernel
theorem dL_law__187 : decode cL_law_ 187 = .ok (.aload_n 0, 1) := by decide +kernel
theorem dL_law__188 : decode cL_law_ 188 = .ok (.iload 4, 2) := by decide +kernel
theorem dL_law__190 : decode cL_law_ 190 = .ok (.iconst 2, 1) := by decide +kernel
theorem dL_law__191 : decode cL_law_ 191 = .ok (.iadd, 1) := by decide +kernel
theorem dL_law__192 : decode cL_law_ 192 = .ok (.iaload, 1) := by decide +kernel
theorem dL_law__193 : decode cL_law_ 193 = .ok (.aload_n 0, 1) := by decide +kernel
theorem dL_law__194 : decode cL_law_ 194 = .ok (.iload 4, 2) := by decide +kernel
theorem dL_law__196 : decode cL_law_ 196 = .ok (.iconst 3, 1) := by decide +kernel
theorem dL_law__197 : decode cL_law_ 197 = .ok (.iadd, 1) := by decide +kernel
theorem dL_law__198 : decode cL_law_ 198 = .ok (.iaload, 1) := by decide +kernel
theorem dL_law__199 : decode cL_law_ 199 = .ok (.aload_n 0, 1) := by decide +kernel
theorem dL_law__200 : decode cL_law_ 200 = .ok (.iload 4, 2) := by decide +kernel
theorem dL_law__202 : decode cL_law_ 202 = .ok (.iconst 4, 1) := by decide +kernel
theorem dL_law__203 : decode cL_law_ 203 = .ok (.iadd, 1) := by decide +kernel
theorem dL_law__204 : decode cL_law_ 204 = .ok (.iaload, 1) := by decide +kernel
theorem dL_law__205 : decode cL_law_ 205 = .ok (.aload_n 0, 1) := by decide +kernel
theorem dL_law__206 : decode cL_law_ 206 = .ok (.iload 4, 2) := by decide +kernel
theorem dL_law__208 : decode cL_law_ 208 = .ok (.iconst 5, 1) := by decide +kernel
theorem dL_law__209 : decode cL_law_ 209 = .ok (.iadd, 1) := by decide +kernel
theorem dL_law__210 : decode cL_law_ 210 = .ok (.iaload, 1) := by decide +kernel
theorem dL_law__211 : decode cL_law_ 211 = .ok (.invokevirtual 94, 3) := by decide +kernel
theorem dL_law__214 : decode cL_law_ 214 = .ok (.aload_n 2, 1) := by decide +kernel
theorem dL_law__215 : decode cL_law_ 215 = .ok (.aload_n 0, 1) := by decide +kernel
theorem dL_law__216 : decode cL_law_ 216 = .ok (.iload 4, 2) := by decide +kernel
theorem dL_law__218 : decode cL_law_ 218 = .ok (.iconst 1, 1) := by decide +kernel
theorem dL_law__219 : decode cL_law_ 219 = .ok (.iadd, 1) := by decide +kernel
theorem dL_law__220 : decode cL_law_ 220 = .ok (.iaload, 1) := by decide +kernel
theorem dL_law__221 : decode cL_law_ 221 = .ok (.aload_n 0, 1) := by decide +kernel
theorem dL_law__222 : decode cL_law_ 222 = .ok (.iload 4, 2) := by decide +kernel
theorem dL_law__224 : decode cL_law_ 224 = .ok (.iconst 2, 1) := by decide +kernel
theorem dL_law__225 : decode cL_law_ 225 = .ok (.iadd, 1) := by decide +kernel
theorem dL_law__226 : decode cL_law_ 226 = .ok (.iaload, 1) := by decide +kernel
theorem dL_law__227 : decode cL_law_ 227 = .ok (.aload_n 0, 1) := by decide +kernel
theorem dL_law__228 : decode cL_law_ 228 = .ok (.iload 4, 2) := by decide +kernel
theorem dL_law__230 : decode cL_law_ 230 = .ok (.iconst 3, 1) := by decide +kernel
theorem dL_law__231 : decode cL_law_ 231 = .ok (.iadd, 1) := by decide +kernel
theorem dL_law__232 : decode cL_law_ 232 = .ok (.iaload, 1) := by decide +kernel
theorem dL_law__233 : decode cL_law_ 233 = .ok (.aload_n 0, 1) := by decide +kernel
theorem dL_law__234 : decode cL_law_ 234 = .ok (.iload 4, 2) := by decide +kernel
theorem dL_law__236 : decode cL_law_ 236 = .ok (.iconst 4, 1) := by decide +kernel
theorem dL_law__237 : decode cL_law_ 237 = .ok (.iadd, 1) := by decide +kernel
theorem dL_law__238 : decode cL_law_ 238 = .ok (.iaload, 1) := by decide +kernel
theorem dL_law__239 : decode cL_law_ 239 = .ok (.aload_n 0, 1) := by decide +kernel
theorem dL_law__240 : decode cL_law_ 240 = .ok (.iload 4, 2) := by decide +kernel
theorem dL_law__242 : decode cL_law_ 242 = .ok (.iconst 5, 1) := by decide +kernel
theorem dL_law__243 : decode cL_law_ 243 = .ok (.iadd, 1) := by decide +kernel
theorem dL_law__244 : decode cL_law_ 244 = .ok (.iaload, 1) := by decide +kernel
theorem dL_law__245 : decode cL_law_ 245 = .ok (.invokevirtual 97, 3) := by decide +kernel
theorem dL_law__248 : decode cL_law_ 248 = .ok (.if_icmp .eq 1821, 3) := by decide +kernel
theorem dL_law__251 : decode cL_law_ 251 = .ok (.iconst 0, 1) := by decide +kernel
theorem dL_law__252 : decode cL_law_ 252 = .ok (.ireturn, 1) := by decide +kernel
theorem dL_law__253 : decode cL_law_ 253 = .ok (.aload_n 1, 1) := by decide +kernel
theorem dL_law__254 : decode cL_law_ 254 = .ok (.aload_n 0, 1) := by decide +kernel
theorem dL_law__255 : decode cL_law_ 255 = .ok (.iload 4, 2) := by decide +kernel
theorem dL_law__257 : decode cL_law_ 257 = .ok (.iconst 1, 1) := by decide +kernel
theorem dL_law__258 : decode cL_law_ 258 = .ok (.iadd, 1) := by decide +kernel
theorem dL_law__259 : decode cL_law_ 259 = .ok (.iaload, 1) := by decide +kernel
theorem dL_law__260 : decode cL_law_ 260 = .ok (.aload_n 3, 1) := by decide +kernel
theorem dL_law__261 : decode cL_law_ 261 = .ok (.invokestatic 98, 3) := by decide +kernel
theorem dL_law__264 : decode cL_law_ 264 = .ok (.istore 5, 2) := by decide +kernel
theorem dL_law__266 : decode cL_law_ 266 = .ok (.aload_n 2, 1) := by decide +kernel
theorem dL_law__267 : decode cL_law_ 267 = .ok (.aload_n 0, 1) := by decide +kernel
theorem dL_law__268 : decode cL_law_ 268 = .ok (.iload 4, 2) := by decide +kernel
theorem dL_law__270 : decode cL_law_ 270 = .ok (.iconst 1, 1) := by decide +kernel
theorem dL_law__271 : decode cL_law_ 271 = .ok (.iadd, 1) := by decide +kernel
theorem dL_law__272 : decode cL_law_ 272 = .ok (.iaload, 1) := by decide +kernel
theorem dL_law__273 : decode cL_law_ 273 = .ok (.invokevirtual 103, 3) := by decide +kernel
theorem dL_law__276 : decode cL_law_ 276 = .ok (.istore 6, 2) := by decide +kernel
theorem dL_law__278 : decode cL_law_ 278 = .ok (.aload_n 2, 1) := by decide +kernel
theorem dL_law__279 : decode cL_law_ 279 = .ok (.invokevirtual 104, 3) := by decide +kernel
theorem dL_law__282 : decode cL_law_ 282 = .ok (.iload 5, 2) := by decide +kernel
theorem dL_law__284 : decode cL_law_ 284 = .ok (.if_icmp .eq 5, 3) := by decide +kernel
theorem dL_law__287 : decode cL_law_ 287 = .ok (.iconst 0, 1) := by decide +kernel
theorem dL_law__288 : decode cL_law_ 288 = .ok (.ireturn, 1) := by decide +kernel
theorem dL_law__289 : decode cL_law_ 289 = .ok (.iload 5, 2) := by decide +kernel
theorem dL_law__291 : decode cL_law_ 291 = .ok (.ifCond .ne 15, 3) := by decide +kernel
theorem dL_law__294 : decode cL_law_ 294 = .ok (.aload_n 3, 1) := by decide +kernel
theorem dL_law__295 : decode cL_law_ 295 = .ok (.iconst 0, 1) := by decide +kernel
theorem dL_law__296 : decode cL_law_ 296 = .ok (.laload, 1) := by decide +kernel
theorem dL_law__297 : decode cL_law_ 297 = .ok (.iload 6, 2) := by decide +kernel
theorem dL_law__299 : decode cL_law_ 299 = .ok (.i2l, 1) := by decide +kernel
theorem dL_law__300 : decode cL_law_ 300 = .ok (.lcmp, 1) := by decide +kernel
theorem dL_law__301 : decode cL_law_ 301 = .ok (.ifCond .eq 5, 3) := by decide +kernel
theorem dL_law__304 : decode cL_law_ 304 = .ok (.iconst 0, 1) := by decide +kernel
theorem dL_law__305 : decode cL_law_ 305 = .ok (.ireturn, 1) := by decide +kernel
theorem dL_law__306 : decode cL_law_ 306 = .ok (.goto 1763, 3) := by decide +kernel
theorem dL_law__309 : decode cL_law_ 309 = .ok (.aload_n 1, 1) := by decide +kernel
theorem dL_law__310 : decode cL_law_ 310 = .ok (.aload_n 0, 1) := by decide +kernel
theorem dL_law__311 : decode cL_law_ 311 = .ok (.iload 4, 2) := by decide +kernel
theorem dL_law__313 : decode cL_law_ 313 = .ok (.iconst 1, 1) := by decide +kernel
theorem dL_law__314 : decode cL_law_ 314 = .ok (.iadd, 1) := by decide +kernel
theorem dL_law__315 : decode cL_law_ 315 = .ok (.iaload, 1) := by decide +kernel
theorem dL_law__316 : decode cL_law_ 316 = .ok (.aload_n 3, 1) := by decide +kernel
theorem dL_law__317 : decode cL_law_ 317 = .ok (.invokestatic 108, 3) := by decide +kernel
theorem dL_law__320 : decode cL_law_ 320 = .ok (.istore 5, 2) := by decide +kernel
theorem dL_law__322 : decode cL_law_ 322 = .ok (.aload_n 2, 1) := by decide +kernel
theorem dL_law__323 : decode cL_law_ 323 = .ok (.aload_n 0, 1) := by decide +kernel
theorem dL_law__324 : decode cL_law_ 324 = .ok (.iload 4, 2) := by decide +kernel
theorem dL_law__326 : decode cL_law_ 326 = .ok (.iconst 1, 1) := by decide +kernel
theorem dL_law__327 : decode cL_law_ 327 = .ok (.iadd, 1) := by decide +kernel
theorem dL_law__328 : decode cL_law_ 328 = .ok (.iaload, 1) := by decide +kernel
theorem dL_law__329 : decode cL_law_ 329 = .ok (.invokevirtual 110, 3) := by decide +kernel
theorem dL_law__332 : decode cL_law_ 332 = .ok (.istore 6, 2) := by decide +kernel
theorem dL_law__334 : decode cL_law_ 334 = .ok (.aload_n 2, 1) := by decide +kernel
theorem dL_law__335 : decode cL_law_ 335 = .ok (.invokevirtual 104, 3) := by decide +kernel
theorem dL_law__338 : decode cL_law_ 338 = .ok (.iload 5, 2) := by decide +kernel
theorem dL_law__340 : decode cL_law_ 340 = .ok (.if_icmp .eq 5, 3) := by decide +kernel
theorem dL_law__343 : decode cL_law_ 343 = .ok (.iconst 0, 1) := by decide +kernel
theorem dL_law__344 : decode cL_law_ 344 = .ok (.ireturn, 1) := by decide +kernel
theorem dL_law__345 : decode cL_law_ 345 = .ok (.iload 5, 2) := by decide +kernel
theorem dL_law__347 : decode cL_law_ 347 = .ok (.ifCond .ne 15, 3) := by decide +kernel
theorem dL_law__350 : decode cL_law_ 350 = .ok (.aload_n 3, 1) := by decide +kernel
theorem dL_law__351 : decode cL_law_ 351 = .ok (.iconst 0, 1) := by decide +kernel
theorem dL_law__352 : decode cL_law_ 352 = .ok (.laload, 1) := by decide +kernel
theorem dL_law__353 : decode cL_law_ 353 = .ok (.iload 6, 2) := by decide +kernel
theorem dL_law__355 : decode cL_law_ 355 = .ok (.i2l, 1) := by decide +kernel
theorem dL_law__356 : decode cL_law_ 356 = .ok (.lcmp, 1) := by decide +kernel
theorem dL_law__357 : decode cL_law_ 357 = .ok (.ifCond .eq 5, 3) := by decide +kernel
theorem dL_law__360 : decode cL_law_ 360 = .ok (.iconst 0, 1) := by decide +kernel
theorem dL_law__361 : decode cL_law_ 361 = .ok (.ireturn, 1) := by decide +kernel
theorem dL_law__362 : decode cL_law_ 362 = .ok (.goto 1707, 3) := by decide +kernel
theorem dL_law__365 : decode cL_law_ 365 = .ok (.aload_n 1, 1) := by decide +kernel
theorem dL_law__366 : decode cL_law_ 366 = .ok (.aload_n 0, 1) := by decide +kernel
theorem dL_law__367 : decode cL_law_ 367 = .ok (.iload 4, 2) := by decide +kernel
theorem dL_law__369 : decode cL_law_ 369 = .ok (.iconst 1, 1) := by decide +kernel
theorem dL_law__370 : decode cL_law_ 370 = .ok (.iadd, 1) := by decide +kernel
theorem dL_law__371 : decode cL_law_ 371 = .ok (.iaload, 1) := by decide +kernel
theorem dL_law__372 : decode cL_law_ 372 = .ok (.aload_n 0, 1) := by decide +kernel
theorem dL_law__373 : decode cL_law_ 373 = .ok (.iload 4, 2) := by decide +kernel
theorem dL_law__375 : decode cL_law_ 375 = .ok (.iconst 2, 1) := by decide +kernel
theorem dL_law__376 : decode cL_law_ 376 = .ok (.iadd, 1) := by decide +kernel
theorem dL_law__377 : decode cL_law_ 377 = .ok (.iaload, 1) := by decide +kernel
theorem dL_law__378 : decode cL_law_ 378 = .ok (.aload_n 3, 1) := by decide +kernel
theorem dL_law__379 : decode cL_law_ 379 = .ok (.invokestatic 111, 3) := by decide +kernel
theorem dL_law__382 : decode cL_law_ 382 = .ok (.istore 5, 2) := by decide +kernel
theorem dL_law__384 : decode cL_law_ 384 = .ok (.aload_n 2, 1) := by decide +kernel
theorem dL_law__385 : decode cL_law_ 385 = .ok (.aload_n 0, 1) := by decide +kernel
theorem dL_law__386 : decode cL_law_ 386 = .ok (.iload 4, 2) := by decide +kernel
theorem dL_law__388 : decode cL_law_ 388 = .ok (.iconst 1, 1) := by decide +kernel
theorem dL_law__389 : decode cL_law_ 389 = .ok (.iadd, 1) := by decide +kernel
theorem dL_law__390 : decode cL_law_ 390 = .ok (.iaload, 1) := by decide +kernel
theorem dL_law__391 : decode cL_law_ 391 = .ok (.aload_n 0, 1) := by decide +kernel
theorem dL_law__392 : decode cL_law_ 392 = .ok (.iload 4, 2) := by decide +kernel
theorem dL_law__394 : decode cL_law_ 394 = .ok (.iconst 2, 1) := by decide +kernel
theorem dL_law__395 : decode cL_law_ 395 = .ok (.iadd, 1) := by decide +kernel
theorem dL_law__396 : decode cL_law_ 396 = .ok (.iaload, 1) := by decide +kernel
theorem dL_law__397 : decode cL_law_ 397 = .ok (.invokevirtual 114, 3) := by decide +kernel
theorem dL_law__400 : decode cL_law_ 400 = .ok (.istore 6, 2) := by decide +kernel
theorem dL_law__402 : decode cL_law_ 402 = .ok (.aload_n 2, 1) := by decide +kernel
theorem dL_law__403 : decode cL_law_ 403 = .ok (.invokevirtual 104, 3) := by decide +kernel
theorem dL_law__406 : decode cL_law_ 406 = .ok (.iload 5, 2) := by decide +kernel
theorem dL_law__408 : decode cL_law_ 408 = .ok (.if_icmp .eq 5, 3) := by decide +kernel
theorem dL_law__411 : decode cL_law_ 411 = .ok (.iconst 0, 1) := by decide +kernel
theorem dL_law__412 : decode cL_law_ 412 = .ok (.ireturn, 1) := by decide +kernel
theorem dL_law__413 : decode cL_law_ 413 = .ok (.iload 5, 2) := by decide +kernel
theorem dL_law__415 : decode cL_law_ 415 = .ok (.ifCond .ne 15, 3) := by decide +kernel
theorem dL_law__418 : decode cL_law_ 418 = .ok (.aload_n 3, 1) := by decide +kernel
theorem dL_law__419 : decode cL_law_ 419 = .ok (.iconst 0, 1) := by decide +kernel
theorem dL_law__420 : decode cL_law_ 420 = .ok (.laload, 1) := by decide +kernel
theorem dL_law__421 : decode cL_law_ 421 = .ok (.iload 6, 2) := by decide +kernel
theorem dL_law__423 : decode cL_law_ 423 = .ok (.i2l, 1) := by decide +kernel
theorem dL_law__424 : decode cL_law_ 424 = .ok (.lcmp, 1) := by decide +kernel
theorem dL_law__425 : decode cL_law_ 425 = .ok (.ifCond .eq 5, 3) := by decide +kernel
theorem dL_law__428 : decode cL_law_ 428 = .ok (.iconst 0, 1) := by decide +kernel
theorem dL_law__429 : decode cL_law_ 429 = .ok (.ireturn, 1) := by decide +kernel
theorem dL_law__430 : decode cL_law_ 430 = .ok (.goto 1639, 3) := by decide +kernel
theorem dL_law__433 : decode cL_law_ 433 = .ok (.aload_n 1, 1) := by decide +kernel
theorem dL_law__434 : decode cL_law_ 434 = .ok (.aload_n 0, 1) := by decide +kernel
theorem dL_law__435 : decode cL_law_ 435 = .ok (.iload 4, 2) := by decide +kernel
theorem dL_law__437 : decode cL_law_ 437 = .ok (.iconst 1, 1) := by decide +kernel
theorem dL_law__438 : decode cL_law_ 438 = .ok (.iadd, 1) := by decide +kernel
theorem dL_law__439 : decode cL_law_ 439 = .ok (.iaload, 1) := by decide +kernel
theorem dL_law__440 : decode cL_law_ 440 = .ok (.aload_n 0, 1) := by decide +kernel
theorem dL_law__441 : decode cL_law_ 441 = .ok (.iload 4, 2) := by decide +kernel
theorem dL_law__443 : decode cL_law_ 443 = .ok (.iconst 2, 1) := by decide +kernel
theorem dL_law__444 : decode cL_law_ 444 = .ok (.iadd, 1) := by decide +kernel
theorem dL_law__445 : decode cL_law_ 445 = .ok (.iaload, 1) := by decide +kernel
theorem dL_law__446 : decode cL_law_ 446 = .ok (.aload_n 3, 1) := by decide +kernel
theorem dL_law__447 : decode cL_law_ 447 = .ok (.invokestatic 115, 3) := by decide +kernel
theorem dL_law__450 : decode cL_law_ 450 = .ok (.istore 5, 2) := by decide +kernel
theorem dL_law__452 : decode cL_law_ 452 = .ok (.aload_n 2, 1) := by decide +kernel
theorem dL_law__453 : decode cL_law_ 453 = .ok (.aload_n 0, 1) := by decide +kernel
theorem dL_law__454 : decode cL_law_ 454 = .ok (.iload 4, 2) := by decide +kernel
theorem dL_law__456 : decode cL_law_ 456 = .ok (.iconst 1, 1) := by decide +kernel
theorem dL_law__457 : decode cL_law_ 457 = .ok (.iadd, 1) := by decide +kernel
theorem dL_law__458 : decode cL_law_ 458 = .ok (.iaload, 1) := by decide +kernel
theorem dL_law__459 : decode cL_law_ 459 = .ok (.aload_n 0, 1) := by decide +kernel
theorem dL_law__460 : decode cL_law_ 460 = .ok (.iload 4, 2) := by decide +kernel
theorem dL_law__462 : decode cL_law_ 462 = .ok (.iconst 2, 1) := by decide +kernel
theorem dL_law__463 : decode cL_law_ 463 = .ok (.iadd, 1) := by decide +kernel
theorem dL_law__464 : decode cL_law_ 464 = .ok (.iaload, 1) := by decide +kernel
theorem dL_law__465 : decode cL_law_ 465 = .ok (.invokevirtual 117, 3) := by decide +kernel
theorem dL_law__468 : decode cL_law_ 468 = .ok (.istore 6, 2) := by decide +kernel
theorem dL_law__470 : decode cL_law_ 470 = .ok (.aload_n 2, 1) := by decide +kernel
theorem dL_law__471 : decode cL_law_ 471 = .ok (.invokevirtual 104, 3) := by decide +kernel
theorem dL_law__474 : decode cL_law_ 474 = .ok (.iload 5, 2) := by decide +kernel
theorem dL_law__476 : decode cL_law_ 476 = .ok (.if_icmp .eq 5, 3) := by decide +kernel
theorem dL_law__479 : decode cL_law_ 479 = .ok (.iconst 0, 1) := by decide +kernel
theorem dL_law__480 : decode cL_law_ 480 = .ok (.ireturn, 1) := by decide +kernel
theorem dL_law__481 : decode cL_law_ 481 = .ok (.iload 5, 2) := by decide +kernel
theorem dL_law__483 : decode cL_law_ 483 = .ok (.ifCond .ne 15, 3) := by decide +kernel
theorem dL_law__486 : decode cL_law_ 486 = .ok (.aload_n 3, 1) := by decide +kernel
theorem dL_law__487 : decode cL_law_ 487 = .ok (.iconst 0, 1) := by decide +kernel
theorem dL_law__488 : decode cL_law_ 488 = .ok (.laload, 1) := by decide +kernel
theorem dL_law__489 : decode cL_law_ 489 = .ok (.iload 6, 2) := by decide +kernel
theorem dL_law__491 : decode cL_law_ 491 = .ok (.i2l, 1) := by decide +kernel
theorem dL_law__492 : decode cL_law_ 492 = .ok (.lcmp, 1) := by decide +kernel
theorem dL_law__493 : decode cL_law_ 493 = .ok (.ifCond .eq 5, 3) := by decide +kernel
theorem dL_law__496 : decode cL_law_ 496 = .ok (.iconst 0, 1) := by decide +kernel
theorem dL_law__497 : decode cL_law_ 497 = .ok (.ireturn, 1) := by decide +kernel
theorem dL_law__498 : decode cL_law_ 498 = .ok (.goto 1571, 3) := by decide +kernel
theorem dL_law__501 : decode cL_law_ 501 = .ok (.aload_n 1, 1) := by decide +kernel
theorem dL_law__502 : decode cL_law_ 502 = .ok (.invokevirtual 118, 3) := by decide +kernel
theorem dL_law__505 : decode cL_law_ 505 = .ok (.aload_n 2, 1) := by decide +kernel
theorem dL_law__506 : decode cL_law_ 506 = .ok (.invokevirtual 121, 3) := by decide +kernel
theorem dL_law__509 : decode cL_law_ 509 = .ok (.if_icmp .eq 1560, 3) := by decide +kernel
theorem dL_law__512 : decode cL_law_ 512 = .ok (.iconst 0, 1) := by decide +kernel
theorem dL_law__513 : decode cL_law_ 513 = .ok (.ireturn, 1) := by decide +kernel
theorem dL_law__514 : decode cL_law_ 514 = .ok (.aload_n 1, 1) := by decide +kernel
theorem dL_law__515 : decode cL_law_ 515 = .ok (.aload_n 0, 1) := by decide +kernel
theorem dL_law__516 : decode cL_law_ 516 = .ok (.iload 4, 2) := by decide +kernel
theorem dL_law__518 : decode cL_law_ 518 = .ok (.iconst 1, 1) := by decide +kernel
theorem dL_law__519 : decode cL_law_ 519 = .ok (.iadd, 1) := by decide +kernel
theorem dL_law__520 : decode cL_law_ 520 = .ok (.iaload, 1) := by decide +kernel
theorem dL_law__521 : decode cL_law_ 521 = .ok (.aload_n 3, 1) := by decide +kernel
theorem dL_law__522 : decode cL_law_ 522 = .ok (.invokestatic 122, 3) := by decide +kernel
theorem dL_law__525 : decode cL_law_ 525 = .ok (.istore 5, 2) := by decide +kernel
theorem dL_law__527 : decode cL_law_ 527 = .ok (.aload_n 2, 1) := by decide +kernel
theorem dL_law__528 : decode cL_law_ 528 = .ok (.aload_n 0, 1) := by decide +kernel
theorem dL_law__529 : decode cL_law_ 529 = .ok (.iload 4, 2) := by decide +kernel
theorem dL_law__531 : decode cL_law_ 531 = .ok (.iconst 1, 1) := by decide +kernel
theorem dL_law__532 : decode cL_law_ 532 = .ok (.iadd, 1) := by decide +kernel
theorem dL_law__533 : decode cL_law_ 533 = .ok (.iaload, 1) := by decide +kernel
theorem dL_law__534 : decode cL_law_ 534 = .ok (.invokevirtual 124, 3) := by decide +kernel
theorem dL_law__537 : decode cL_law_ 537 = .ok (.istore 6, 2) := by decide +kernel
theorem dL_law__539 : decode cL_law_ 539 = .ok (.aload_n 2, 1) := by decide +kernel
theorem dL_law__540 : decode cL_law_ 540 = .ok (.invokevirtual 104, 3) := by decide +kernel
theorem dL_law__543 : decode cL_law_ 543 = .ok (.iload 5, 2) := by decide +kernel
theorem dL_law__545 : decode cL_law_ 545 = .ok (.if_icmp .eq 5, 3) := by decide +kernel
theorem dL_law__548 : decode cL_law_ 548 = .ok (.iconst 0, 1) := by decide +kernel
theorem dL_law__549 : decode cL_law_ 549 = .ok (.ireturn, 1) := by decide +kernel
theorem dL_law__550 : decode cL_law_ 550 = .ok (.iload 5, 2) := by decide +kernel
theorem dL_law__552 : decode cL_law_ 552 = .ok (.ifCond .ne 15, 3) := by decide +kernel
theorem dL_law__555 : decode cL_law_ 555 = .ok (.aload_n 3, 1) := by decide +kernel
theorem dL_law__556 : decode cL_law_ 556 = .ok (.iconst 0, 1) := by decide +kernel
theorem dL_law__557 : decode cL_law_ 557 = .ok (.laload, 1) := by decide +kernel
theorem dL_law__558 : decode cL_law_ 558 = .ok (.iload 6, 2) := by decide +kernel
theorem dL_law__560 : decode cL_law_ 560 = .ok (.i2l, 1) := by decide +kernel
theorem dL_law__561 : decode cL_law_ 561 = .ok (.lcmp, 1) := by decide +kernel
theorem dL_law__562 : decode cL_law_ 562 = .ok (.ifCond .eq 5, 3) := by decide +kernel
theorem dL_law__565 : decode cL_law_ 565 = .ok (.iconst 0, 1) := by decide +kernel
theorem dL_law__566 : decode cL_law_ 566 = .ok (.ireturn, 1) := by decide +kernel
theorem dL_law__567 : decode cL_law_ 567 = .ok (.goto 1502, 3) := by decide +kernel
theorem dL_law__570 : decode cL_law_ 570 = .ok (.aload_n 1, 1) := by decide +kernel
theorem dL_law__571 : decode cL_law_ 571 = .ok (.aload_n 0, 1) := by decide +kernel
theorem dL_law__572 : decode cL_law_ 572 = .ok (.iload 4, 2) := by decide +kernel
theorem dL_law__574 : decode cL_law_ 574 = .ok (.iconst 1, 1) := by decide +kernel
theorem dL_law__575 : decode cL_law_ 575 = .ok (.iadd, 1) := by decide +kernel
theorem dL_law__576 : decode cL_law_ 576 = .ok (.iaload, 1) := by decide +kernel
theorem dL_law__577 : decode cL_law_ 577 = .ok (.aload_n 0, 1) := by decide +kernel
theorem dL_law__578 : decode cL_law_ 578 = .ok (.iload 4, 2) := by decide +kernel
theorem dL_law__580 : decode cL_law_ 580 = .ok (.iconst 2, 1) := by decide +kernel
theorem dL_law__581 : decode cL_law_ 581 = .ok (.iadd, 1) := by decide +kernel
theorem dL_law__582 : decode cL_law_ 582 = .ok (.iaload, 1) := by decide +kernel
theorem dL_law__583 : decode cL_law_ 583 = .ok (.aload_n 3, 1) := by decide +kernel
theorem dL_law__584 : decode cL_law_ 584 = .ok (.invokestatic 125, 3) := by decide +kernel
theorem dL_law__587 : decode cL_law_ 587 = .ok (.istore 5, 2) := by decide +kernel
theorem dL_law__589 : decode cL_law_ 589 = .ok (.aload_n 2, 1) := by decide +kernel
theorem dL_law__590 : decode cL_law_ 590 = .ok (.aload_n 0, 1) := by decide +kernel
theorem dL_law__591 : decode cL_law_ 591 = .ok (.iload 4, 2) := by decide +kernel
theorem dL_law__593 : decode cL_law_ 593 = .ok (.iconst 1, 1) := by decide +kernel
theorem dL_law__594 : decode cL_law_ 594 = .ok (.iadd, 1) := by decide +kernel
theorem dL_law__595 : decode cL_law_ 595 = .ok (.iaload, 1) := by decide +kernel
theorem dL_law__596 : decode cL_law_ 596 = .ok (.aload_n 0, 1) := by decide +kernel
theorem dL_law__597 : decode cL_law_ 597 = .ok (.iload 4, 2) := by decide +kernel
theorem dL_law__599 : decode cL_law_ 599 = .ok (.iconst 2, 1) := by decide +kernel
theorem dL_law__600 : decode cL_law_ 600 = .ok (.iadd, 1) := by decide +kernel
theorem dL_law__601 : decode cL_law_ 601 = .ok (.iaload, 1) := by decide +kernel
theorem dL_law__602 : decode cL_law_ 602 = .ok (.invokevirtual 127, 3) := by decide +kernel
theorem dL_law__605 : decode cL_law_ 605 = .ok (.istore 6, 2) := by decide +kernel
theorem dL_law__607 : decode cL_law_ 607 = .ok (.aload_n 2, 1) := by decide +kernel
theorem dL_law__608 : decode cL_law_ 608 = .ok (.invokevirtual 104, 3) := by decide +kernel
theorem dL_law__611 : decode cL_law_ 611 = .ok (.iload 5, 2) := by decide +kernel
theorem dL_law__613 : decode cL_law_ 613 = .ok (.if_icmp .eq 5, 3) := by decide +kernel
theorem dL_law__616 : decode cL_law_ 616 = .ok (.iconst 0, 1) := by decide +kernel
theorem dL_law__617 : decode cL_law_ 617 = .ok (.ireturn, 1) := by decide +kernel
theorem dL_law__618 : decode cL_law_ 618 = .ok (.iload 5, 2) := by decide +kernel
theorem dL_law__620 : decode cL_law_ 620 = .ok (.ifCond .ne 15, 3) := by decide +kernel
theorem dL_law__623 : decode cL_law_ 623 = .ok (.aload_n 3, 1) := by decide +kernel
theorem dL_law__624 : decode cL_law_ 624 = .ok (.iconst 0, 1) := by decide +kernel
theorem dL_law__625 : decode cL_law_ 625 = .ok (.laload, 1) := by decide +kernel
theorem dL_law__626 : decode cL_law_ 626 = .ok (.iload 6, 2) := by decide +kernel
theorem dL_law__628 : decode cL_law_ 628 = .ok (.i2l, 1) := by decide +kernel
