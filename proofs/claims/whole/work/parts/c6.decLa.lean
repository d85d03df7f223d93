/-! Rows of the law, 1. -/
theorem dL_law__0 : decode cL_law_ 0 = .ok (.new 8, 3) := by decide +kernel
theorem dL_law__3 : decode cL_law_ 3 = .ok (.dup, 1) := by decide +kernel
theorem dL_law__4 : decode cL_law_ 4 = .ok (.invokespecial 117, 3) := by decide +kernel
theorem dL_law__7 : decode cL_law_ 7 = .ok (.astore_n 1, 1) := by decide +kernel
theorem dL_law__8 : decode cL_law_ 8 = .ok (.new 118, 3) := by decide +kernel
theorem dL_law__11 : decode cL_law_ 11 = .ok (.dup, 1) := by decide +kernel
theorem dL_law__12 : decode cL_law_ 12 = .ok (.invokespecial 120, 3) := by decide +kernel
theorem dL_law__15 : decode cL_law_ 15 = .ok (.astore_n 2, 1) := by decide +kernel
theorem dL_law__16 : decode cL_law_ 16 = .ok (.iconst 1, 1) := by decide +kernel
theorem dL_law__17 : decode cL_law_ 17 = .ok (.newarray .long, 2) := by decide +kernel
theorem dL_law__19 : decode cL_law_ 19 = .ok (.astore_n 3, 1) := by decide +kernel
theorem dL_law__20 : decode cL_law_ 20 = .ok (.iconst 0, 1) := by decide +kernel
theorem dL_law__21 : decode cL_law_ 21 = .ok (.istore 4, 2) := by decide +kernel
theorem dL_law__23 : decode cL_law_ 23 = .ok (.iload 4, 2) := by decide +kernel
theorem dL_law__25 : decode cL_law_ 25 = .ok (.aload_n 0, 1) := by decide +kernel
theorem dL_law__26 : decode cL_law_ 26 = .ok (.arraylength, 1) := by decide +kernel
theorem dL_law__27 : decode cL_law_ 27 = .ok (.bipush 9, 2) := by decide +kernel
theorem dL_law__29 : decode cL_law_ 29 = .ok (.isub, 1) := by decide +kernel
theorem dL_law__30 : decode cL_law_ 30 = .ok (.if_icmp .gt 2606, 3) := by decide +kernel
theorem dL_law__33 : decode cL_law_ 33 = .ok (.aload_n 0, 1) := by decide +kernel
theorem dL_law__34 : decode cL_law_ 34 = .ok (.iload 4, 2) := by decide +kernel
theorem dL_law__36 : decode cL_law_ 36 = .ok (.iaload, 1) := by decide +kernel
theorem dL_law__37 : decode cL_law_ 37 = .ok (.bipush 63, 2) := by decide +kernel
theorem dL_law__39 : decode cL_law_ 39 = .ok (.iand, 1) := by decide +kernel
theorem dL_law__40 : decode cL_law_ 40 = .ok (.tableswitch 2590 0 39 #[176, 249, 305, 361, 417, 473, 486, 499, 555, 623, 691, 759, 905, 992, 1060, 1152, 1208, 1264, 1320, 1376, 1432, 1500, 1591, 1671, 1751, 1807, 1863, 1876, 1944, 2000, 2056, 2124, 2192, 2248, 2304, 2396, 2514, 2527, 2540, 2565], 176) := by decide +kernel
theorem dL_law__216 : decode cL_law_ 216 = .ok (.aload_n 1, 1) := by decide +kernel
theorem dL_law__217 : decode cL_law_ 217 = .ok (.aload_n 0, 1) := by decide +kernel
theorem dL_law__218 : decode cL_law_ 218 = .ok (.iload 4, 2) := by decide +kernel
theorem dL_law__220 : decode cL_law_ 220 = .ok (.iconst 1, 1) := by decide +kernel
theorem dL_law__221 : decode cL_law_ 221 = .ok (.iadd, 1) := by decide +kernel
theorem dL_law__222 : decode cL_law_ 222 = .ok (.iaload, 1) := by decide +kernel
theorem dL_law__223 : decode cL_law_ 223 = .ok (.aload_n 0, 1) := by decide +kernel
theorem dL_law__224 : decode cL_law_ 224 = .ok (.iload 4, 2) := by decide +kernel
theorem dL_law__226 : decode cL_law_ 226 = .ok (.iconst 2, 1) := by decide +kernel
theorem dL_law__227 : decode cL_law_ 227 = .ok (.iadd, 1) := by decide +kernel
theorem dL_law__228 : decode cL_law_ 228 = .ok (.iaload, 1) := by decide +kernel
theorem dL_law__229 : decode cL_law_ 229 = .ok (.aload_n 0, 1) := by decide +kernel
theorem dL_law__230 : decode cL_law_ 230 = .ok (.iload 4, 2) := by decide +kernel
theorem dL_law__232 : decode cL_law_ 232 = .ok (.iconst 3, 1) := by decide +kernel
theorem dL_law__233 : decode cL_law_ 233 = .ok (.iadd, 1) := by decide +kernel
theorem dL_law__234 : decode cL_law_ 234 = .ok (.iaload, 1) := by decide +kernel
theorem dL_law__235 : decode cL_law_ 235 = .ok (.aload_n 0, 1) := by decide +kernel
theorem dL_law__236 : decode cL_law_ 236 = .ok (.iload 4, 2) := by decide +kernel
theorem dL_law__238 : decode cL_law_ 238 = .ok (.iconst 4, 1) := by decide +kernel
theorem dL_law__239 : decode cL_law_ 239 = .ok (.iadd, 1) := by decide +kernel
theorem dL_law__240 : decode cL_law_ 240 = .ok (.iaload, 1) := by decide +kernel
theorem dL_law__241 : decode cL_law_ 241 = .ok (.aload_n 0, 1) := by decide +kernel
theorem dL_law__242 : decode cL_law_ 242 = .ok (.iload 4, 2) := by decide +kernel
theorem dL_law__244 : decode cL_law_ 244 = .ok (.iconst 5, 1) := by decide +kernel
theorem dL_law__245 : decode cL_law_ 245 = .ok (.iadd, 1) := by decide +kernel
theorem dL_law__246 : decode cL_law_ 246 = .ok (.iaload, 1) := by decide +kernel
theorem dL_law__247 : decode cL_law_ 247 = .ok (.invokevirtual 121, 3) := by decide +kernel
theorem dL_law__250 : decode cL_law_ 250 = .ok (.aload_n 2, 1) := by decide +kernel
theorem dL_law__251 : decode cL_law_ 251 = .ok (.aload_n 0, 1) := by decide +kernel
theorem dL_law__252 : decode cL_law_ 252 = .ok (.iload 4, 2) := by decide +kernel
theorem dL_law__254 : decode cL_law_ 254 = .ok (.iconst 1, 1) := by decide +kernel
theorem dL_law__255 : decode cL_law_ 255 = .ok (.iadd, 1) := by decide +kernel
theorem dL_law__256 : decode cL_law_ 256 = .ok (.iaload, 1) := by decide +kernel
theorem dL_law__257 : decode cL_law_ 257 = .ok (.aload_n 0, 1) := by decide +kernel
theorem dL_law__258 : decode cL_law_ 258 = .ok (.iload 4, 2) := by decide +kernel
theorem dL_law__260 : decode cL_law_ 260 = .ok (.iconst 2, 1) := by decide +kernel
theorem dL_law__261 : decode cL_law_ 261 = .ok (.iadd, 1) := by decide +kernel
theorem dL_law__262 : decode cL_law_ 262 = .ok (.iaload, 1) := by decide +kernel
theorem dL_law__263 : decode cL_law_ 263 = .ok (.aload_n 0, 1) := by decide +kernel
theorem dL_law__264 : decode cL_law_ 264 = .ok (.iload 4, 2) := by decide +kernel
theorem dL_law__266 : decode cL_law_ 266 = .ok (.iconst 3, 1) := by decide +kernel
theorem dL_law__267 : decode cL_law_ 267 = .ok (.iadd, 1) := by decide +kernel
theorem dL_law__268 : decode cL_law_ 268 = .ok (.iaload, 1) := by decide +kernel
theorem dL_law__269 : decode cL_law_ 269 = .ok (.aload_n 0, 1) := by decide +kernel
theorem dL_law__270 : decode cL_law_ 270 = .ok (.iload 4, 2) := by decide +kernel
theorem dL_law__272 : decode cL_law_ 272 = .ok (.iconst 4, 1) := by decide +kernel
theorem dL_law__273 : decode cL_law_ 273 = .ok (.iadd, 1) := by decide +kernel
theorem dL_law__274 : decode cL_law_ 274 = .ok (.iaload, 1) := by decide +kernel
theorem dL_law__275 : decode cL_law_ 275 = .ok (.aload_n 0, 1) := by decide +kernel
theorem dL_law__276 : decode cL_law_ 276 = .ok (.iload 4, 2) := by decide +kernel
theorem dL_law__278 : decode cL_law_ 278 = .ok (.iconst 5, 1) := by decide +kernel
theorem dL_law__279 : decode cL_law_ 279 = .ok (.iadd, 1) := by decide +kernel
theorem dL_law__280 : decode cL_law_ 280 = .ok (.iaload, 1) := by decide +kernel
theorem dL_law__281 : decode cL_law_ 281 = .ok (.invokevirtual 125, 3) := by decide +kernel
theorem dL_law__284 : decode cL_law_ 284 = .ok (.if_icmp .eq 2346, 3) := by decide +kernel
theorem dL_law__287 : decode cL_law_ 287 = .ok (.iconst 0, 1) := by decide +kernel
theorem dL_law__288 : decode cL_law_ 288 = .ok (.ireturn, 1) := by decide +kernel
theorem dL_law__289 : decode cL_law_ 289 = .ok (.aload_n 1, 1) := by decide +kernel
theorem dL_law__290 : decode cL_law_ 290 = .ok (.aload_n 0, 1) := by decide +kernel
theorem dL_law__291 : decode cL_law_ 291 = .ok (.iload 4, 2) := by decide +kernel
theorem dL_law__293 : decode cL_law_ 293 = .ok (.iconst 1, 1) := by decide +kernel
theorem dL_law__294 : decode cL_law_ 294 = .ok (.iadd, 1) := by decide +kernel
theorem dL_law__295 : decode cL_law_ 295 = .ok (.iaload, 1) := by decide +kernel
theorem dL_law__296 : decode cL_law_ 296 = .ok (.aload_n 3, 1) := by decide +kernel
theorem dL_law__297 : decode cL_law_ 297 = .ok (.invokestatic 126, 3) := by decide +kernel
theorem dL_law__300 : decode cL_law_ 300 = .ok (.istore 5, 2) := by decide +kernel
theorem dL_law__302 : decode cL_law_ 302 = .ok (.aload_n 2, 1) := by decide +kernel
theorem dL_law__303 : decode cL_law_ 303 = .ok (.aload_n 0, 1) := by decide +kernel
theorem dL_law__304 : decode cL_law_ 304 = .ok (.iload 4, 2) := by decide +kernel
theorem dL_law__306 : decode cL_law_ 306 = .ok (.iconst 1, 1) := by decide +kernel
theorem dL_law__307 : decode cL_law_ 307 = .ok (.iadd, 1) := by decide +kernel
theorem dL_law__308 : decode cL_law_ 308 = .ok (.iaload, 1) := by decide +kernel
theorem dL_law__309 : decode cL_law_ 309 = .ok (.invokevirtual 131, 3) := by decide +kernel
theorem dL_law__312 : decode cL_law_ 312 = .ok (.istore 6, 2) := by decide +kernel
theorem dL_law__314 : decode cL_law_ 314 = .ok (.aload_n 2, 1) := by decide +kernel
theorem dL_law__315 : decode cL_law_ 315 = .ok (.invokevirtual 132, 3) := by decide +kernel
theorem dL_law__318 : decode cL_law_ 318 = .ok (.iload 5, 2) := by decide +kernel
theorem dL_law__320 : decode cL_law_ 320 = .ok (.if_icmp .eq 5, 3) := by decide +kernel
theorem dL_law__323 : decode cL_law_ 323 = .ok (.iconst 0, 1) := by decide +kernel
theorem dL_law__324 : decode cL_law_ 324 = .ok (.ireturn, 1) := by decide +kernel
theorem dL_law__325 : decode cL_law_ 325 = .ok (.iload 5, 2) := by decide +kernel
theorem dL_law__327 : decode cL_law_ 327 = .ok (.ifCond .ne 15, 3) := by decide +kernel
theorem dL_law__330 : decode cL_law_ 330 = .ok (.aload_n 3, 1) := by decide +kernel
theorem dL_law__331 : decode cL_law_ 331 = .ok (.iconst 0, 1) := by decide +kernel
theorem dL_law__332 : decode cL_law_ 332 = .ok (.laload, 1) := by decide +kernel
theorem dL_law__333 : decode cL_law_ 333 = .ok (.iload 6, 2) := by decide +kernel
theorem dL_law__335 : decode cL_law_ 335 = .ok (.i2l, 1) := by decide +kernel
theorem dL_law__336 : decode cL_law_ 336 = .ok (.lcmp, 1) := by decide +kernel
theorem dL_law__337 : decode cL_law_ 337 = .ok (.ifCond .eq 5, 3) := by decide +kernel
theorem dL_law__340 : decode cL_law_ 340 = .ok (.iconst 0, 1) := by decide +kernel
theorem dL_law__341 : decode cL_law_ 341 = .ok (.ireturn, 1) := by decide +kernel
theorem dL_law__342 : decode cL_law_ 342 = .ok (.goto 2288, 3) := by decide +kernel
theorem dL_law__345 : decode cL_law_ 345 = .ok (.aload_n 1, 1) := by decide +kernel
theorem dL_law__346 : decode cL_law_ 346 = .ok (.aload_n 0, 1) := by decide +kernel
theorem dL_law__347 : decode cL_law_ 347 = .ok (.iload 4, 2) := by decide +kernel
theorem dL_law__349 : decode cL_law_ 349 = .ok (.iconst 1, 1) := by decide +kernel
theorem dL_law__350 : decode cL_law_ 350 = .ok (.iadd, 1) := by decide +kernel
theorem dL_law__351 : decode cL_law_ 351 = .ok (.iaload, 1) := by decide +kernel
theorem dL_law__352 : decode cL_law_ 352 = .ok (.aload_n 3, 1) := by decide +kernel
theorem dL_law__353 : decode cL_law_ 353 = .ok (.invokestatic 136, 3) := by decide +kernel
theorem dL_law__356 : decode cL_law_ 356 = .ok (.istore 5, 2) := by decide +kernel
theorem dL_law__358 : decode cL_law_ 358 = .ok (.aload_n 2, 1) := by decide +kernel
theorem dL_law__359 : decode cL_law_ 359 = .ok (.aload_n 0, 1) := by decide +kernel
theorem dL_law__360 : decode cL_law_ 360 = .ok (.iload 4, 2) := by decide +kernel
theorem dL_law__362 : decode cL_law_ 362 = .ok (.iconst 1, 1) := by decide +kernel
theorem dL_law__363 : decode cL_law_ 363 = .ok (.iadd, 1) := by decide +kernel
theorem dL_law__364 : decode cL_law_ 364 = .ok (.iaload, 1) := by decide +kernel
theorem dL_law__365 : decode cL_law_ 365 = .ok (.invokevirtual 138, 3) := by decide +kernel
theorem dL_law__368 : decode cL_law_ 368 = .ok (.istore 6, 2) := by decide +kernel
theorem dL_law__370 : decode cL_law_ 370 = .ok (.aload_n 2, 1) := by decide +kernel
theorem dL_law__371 : decode cL_law_ 371 = .ok (.invokevirtual 132, 3) := by decide +kernel
theorem dL_law__374 : decode cL_law_ 374 = .ok (.iload 5, 2) := by decide +kernel
theorem dL_law__376 : decode cL_law_ 376 = .ok (.if_icmp .eq 5, 3) := by decide +kernel
theorem dL_law__379 : decode cL_law_ 379 = .ok (.iconst 0, 1) := by decide +kernel
theorem dL_law__380 : decode cL_law_ 380 = .ok (.ireturn, 1) := by decide +kernel
theorem dL_law__381 : decode cL_law_ 381 = .ok (.iload 5, 2) := by decide +kernel
theorem dL_law__383 : decode cL_law_ 383 = .ok (.ifCond .ne 15, 3) := by decide +kernel
theorem dL_law__386 : decode cL_law_ 386 = .ok (.aload_n 3, 1) := by decide +kernel
theorem dL_law__387 : decode cL_law_ 387 = .ok (.iconst 0, 1) := by decide +kernel
theorem dL_law__388 : decode cL_law_ 388 = .ok (.laload, 1) := by decide +kernel
theorem dL_law__389 : decode cL_law_ 389 = .ok (.iload 6, 2) := by decide +kernel
theorem dL_law__391 : decode cL_law_ 391 = .ok (.i2l, 1) := by decide +kernel
theorem dL_law__392 : decode cL_law_ 392 = .ok (.lcmp, 1) := by decide +kernel
theorem dL_law__393 : decode cL_law_ 393 = .ok (.ifCond .eq 5, 3) := by decide +kernel
theorem dL_law__396 : decode cL_law_ 396 = .ok (.iconst 0, 1) := by decide +kernel
theorem dL_law__397 : decode cL_law_ 397 = .ok (.ireturn, 1) := by decide +kernel
theorem dL_law__398 : decode cL_law_ 398 = .ok (.goto 2232, 3) := by decide +kernel
theorem dL_law__401 : decode cL_law_ 401 = .ok (.aload_n 1, 1) := by decide +kernel
theorem dL_law__402 : decode cL_law_ 402 = .ok (.aload_n 0, 1) := by decide +kernel
theorem dL_law__403 : decode cL_law_ 403 = .ok (.iload 4, 2) := by decide +kernel
theorem dL_law__405 : decode cL_law_ 405 = .ok (.iconst 1, 1) := by decide +kernel
theorem dL_law__406 : decode cL_law_ 406 = .ok (.iadd, 1) := by decide +kernel
theorem dL_law__407 : decode cL_law_ 407 = .ok (.iaload, 1) := by decide +kernel
theorem dL_law__408 : decode cL_law_ 408 = .ok (.aload_n 3, 1) := by decide +kernel
theorem dL_law__409 : decode cL_law_ 409 = .ok (.invokestatic 139, 3) := by decide +kernel
theorem dL_law__412 : decode cL_law_ 412 = .ok (.istore 5, 2) := by decide +kernel
theorem dL_law__414 : decode cL_law_ 414 = .ok (.aload_n 2, 1) := by decide +kernel
theorem dL_law__415 : decode cL_law_ 415 = .ok (.aload_n 0, 1) := by decide +kernel
theorem dL_law__416 : decode cL_law_ 416 = .ok (.iload 4, 2) := by decide +kernel
theorem dL_law__418 : decode cL_law_ 418 = .ok (.iconst 1, 1) := by decide +kernel
theorem dL_law__419 : decode cL_law_ 419 = .ok (.iadd, 1) := by decide +kernel
theorem dL_law__420 : decode cL_law_ 420 = .ok (.iaload, 1) := by decide +kernel
theorem dL_law__421 : decode cL_law_ 421 = .ok (.invokevirtual 141, 3) := by decide +kernel
theorem dL_law__424 : decode cL_law_ 424 = .ok (.istore 6, 2) := by decide +kernel
theorem dL_law__426 : decode cL_law_ 426 = .ok (.aload_n 2, 1) := by decide +kernel
theorem dL_law__427 : decode cL_law_ 427 = .ok (.invokevirtual 132, 3) := by decide +kernel
theorem dL_law__430 : decode cL_law_ 430 = .ok (.iload 5, 2) := by decide +kernel
theorem dL_law__432 : decode cL_law_ 432 = .ok (.if_icmp .eq 5, 3) := by decide +kernel
theorem dL_law__435 : decode cL_law_ 435 = .ok (.iconst 0, 1) := by decide +kernel
theorem dL_law__436 : decode cL_law_ 436 = .ok (.ireturn, 1) := by decide +kernel
theorem dL_law__437 : decode cL_law_ 437 = .ok (.iload 5, 2) := by decide +kernel
theorem dL_law__439 : decode cL_law_ 439 = .ok (.ifCond .ne 15, 3) := by decide +kernel
theorem dL_law__442 : decode cL_law_ 442 = .ok (.aload_n 3, 1) := by decide +kernel
theorem dL_law__443 : decode cL_law_ 443 = .ok (.iconst 0, 1) := by decide +kernel
theorem dL_law__444 : decode cL_law_ 444 = .ok (.laload, 1) := by decide +kernel
theorem dL_law__445 : decode cL_law_ 445 = .ok (.iload 6, 2) := by decide +kernel
theorem dL_law__447 : decode cL_law_ 447 = .ok (.i2l, 1) := by decide +kernel
theorem dL_law__448 : decode cL_law_ 448 = .ok (.lcmp, 1) := by decide +kernel
theorem dL_law__449 : decode cL_law_ 449 = .ok (.ifCond .eq 5, 3) := by decide +kernel
theorem dL_law__452 : decode cL_law_ 452 = .ok (.iconst 0, 1) := by decide +kernel
theorem dL_law__453 : decode cL_law_ 453 = .ok (.ireturn, 1) := by decide +kernel
theorem dL_law__454 : decode cL_law_ 454 = .ok (.goto 2176, 3) := by decide +kernel
theorem dL_law__457 : decode cL_law_ 457 = .ok (.aload_n 1, 1) := by decide +kernel
theorem dL_law__458 : decode cL_law_ 458 = .ok (.aload_n 0, 1) := by decide +kernel
theorem dL_law__459 : decode cL_law_ 459 = .ok (.iload 4, 2) := by decide +kernel
theorem dL_law__461 : decode cL_law_ 461 = .ok (.iconst 1, 1) := by decide +kernel
theorem dL_law__462 : decode cL_law_ 462 = .ok (.iadd, 1) := by decide +kernel
theorem dL_law__463 : decode cL_law_ 463 = .ok (.iaload, 1) := by decide +kernel
theorem dL_law__464 : decode cL_law_ 464 = .ok (.aload_n 3, 1) := by decide +kernel
theorem dL_law__465 : decode cL_law_ 465 = .ok (.invokestatic 142, 3) := by decide +kernel
theorem dL_law__468 : decode cL_law_ 468 = .ok (.istore 5, 2) := by decide +kernel
theorem dL_law__470 : decode cL_law_ 470 = .ok (.aload_n 2, 1) := by decide +kernel
theorem dL_law__471 : decode cL_law_ 471 = .ok (.aload_n 0, 1) := by decide +kernel
theorem dL_law__472 : decode cL_law_ 472 = .ok (.iload 4, 2) := by decide +kernel
theorem dL_law__474 : decode cL_law_ 474 = .ok (.iconst 1, 1) := by decide +kernel
theorem dL_law__475 : decode cL_law_ 475 = .ok (.iadd, 1) := by decide +kernel
theorem dL_law__476 : decode cL_law_ 476 = .ok (.iaload, 1) := by decide +kernel
theorem dL_law__477 : decode cL_law_ 477 = .ok (.invokevirtual 144, 3) := by decide +kernel
theorem dL_law__480 : decode cL_law_ 480 = .ok (.istore 6, 2) := by decide +kernel
theorem dL_law__482 : decode cL_law_ 482 = .ok (.aload_n 2, 1) := by decide +kernel
theorem dL_law__483 : decode cL_law_ 483 = .ok (.invokevirtual 132, 3) := by decide +kernel
theorem dL_law__486 : decode cL_law_ 486 = .ok (.iload 5, 2) := by decide +kernel
theorem dL_law__488 : decode cL_law_ 488 = .ok (.if_icmp .eq 5, 3) := by decide +kernel
theorem dL_law__491 : decode cL_law_ 491 = .ok (.iconst 0, 1) := by decide +kernel
theorem dL_law__492 : decode cL_law_ 492 = .ok (.ireturn, 1) := by decide +kernel
theorem dL_law__493 : decode cL_law_ 493 = .ok (.iload 5, 2) := by decide +kernel
theorem dL_law__495 : decode cL_law_ 495 = .ok (.ifCond .ne 15, 3) := by decide +kernel
theorem dL_law__498 : decode cL_law_ 498 = .ok (.aload_n 3, 1) := by decide +kernel
theorem dL_law__499 : decode cL_law_ 499 = .ok (.iconst 0, 1) := by decide +kernel
theorem dL_law__500 : decode cL_law_ 500 = .ok (.laload, 1) := by decide +kernel
theorem dL_law__501 : decode cL_law_ 501 = .ok (.iload 6, 2) := by decide +kernel
theorem dL_law__503 : decode cL_law_ 503 = .ok (.i2l, 1) := by decide +kernel
theorem dL_law__504 : decode cL_law_ 504 = .ok (.lcmp, 1) := by decide +kernel
theorem dL_law__505 : decode cL_law_ 505 = .ok (.ifCond .eq 5, 3) := by decide +kernel
theorem dL_law__508 : decode cL_law_ 508 = .ok (.iconst 0, 1) := by decide +kernel
theorem dL_law__509 : decode cL_law_ 509 = .ok (.ireturn, 1) := by decide +kernel
theorem dL_law__510 : decode cL_law_ 510 = .ok (.goto 2120, 3) := by decide +kernel
theorem dL_law__513 : decode cL_law_ 513 = .ok (.aload_n 1, 1) := by decide +kernel
theorem dL_law__514 : decode cL_law_ 514 = .ok (.invokevirtual 145, 3) := by decide +kernel
theorem dL_law__517 : decode cL_law_ 517 = .ok (.aload_n 2, 1) := by decide +kernel
theorem dL_law__518 : decode cL_law_ 518 = .ok (.invokevirtual 148, 3) := by decide +kernel
theorem dL_law__521 : decode cL_law_ 521 = .ok (.if_icmp .eq 2109, 3) := by decide +kernel
theorem dL_law__524 : decode cL_law_ 524 = .ok (.iconst 0, 1) := by decide +kernel
theorem dL_law__525 : decode cL_law_ 525 = .ok (.ireturn, 1) := by decide +kernel
theorem dL_law__526 : decode cL_law_ 526 = .ok (.aload_n 1, 1) := by decide +kernel
theorem dL_law__527 : decode cL_law_ 527 = .ok (.invokevirtual 149, 3) := by decide +kernel
theorem dL_law__530 : decode cL_law_ 530 = .ok (.aload_n 2, 1) := by decide +kernel
theorem dL_law__531 : decode cL_law_ 531 = .ok (.invokevirtual 152, 3) := by decide +kernel
theorem dL_law__534 : decode cL_law_ 534 = .ok (.if_icmp .eq 2096, 3) := by decide +kernel
theorem dL_law__537 : decode cL_law_ 537 = .ok (.iconst 0, 1) := by decide +kernel
theorem dL_law__538 : decode cL_law_ 538 = .ok (.ireturn, 1) := by decide +kernel
theorem dL_law__539 : decode cL_law_ 539 = .ok (.aload_n 1, 1) := by decide +kernel
theorem dL_law__540 : decode cL_law_ 540 = .ok (.aload_n 0, 1) := by decide +kernel
theorem dL_law__541 : decode cL_law_ 541 = .ok (.iload 4, 2) := by decide +kernel
theorem dL_law__543 : decode cL_law_ 543 = .ok (.iconst 1, 1) := by decide +kernel
theorem dL_law__544 : decode cL_law_ 544 = .ok (.iadd, 1) := by decide +kernel
theorem dL_law__545 : decode cL_law_ 545 = .ok (.iaload, 1) := by decide +kernel
theorem dL_law__546 : decode cL_law_ 546 = .ok (.aload_n 3, 1) := by decide +kernel
theorem dL_law__547 : decode cL_law_ 547 = .ok (.invokestatic 153, 3) := by decide +kernel
theorem dL_law__550 : decode cL_law_ 550 = .ok (.istore 5, 2) := by decide +kernel
theorem dL_law__552 : decode cL_law_ 552 = .ok (.aload_n 2, 1) := by decide +kernel
theorem dL_law__553 : decode cL_law_ 553 = .ok (.aload_n 0, 1) := by decide +kernel
theorem dL_law__554 : decode cL_law_ 554 = .ok (.iload 4, 2) := by decide +kernel
theorem dL_law__556 : decode cL_law_ 556 = .ok (.iconst 1, 1) := by decide +kernel
theorem dL_law__557 : decode cL_law_ 557 = .ok (.iadd, 1) := by decide +kernel
theorem dL_law__558 : decode cL_law_ 558 = .ok (.iaload, 1) := by decide +kernel
theorem dL_law__559 : decode cL_law_ 559 = .ok (.invokevirtual 155, 3) := by decide +kernel
theorem dL_law__562 : decode cL_law_ 562 = .ok (.istore 6, 2) := by decide +kernel
theorem dL_law__564 : decode cL_law_ 564 = .ok (.aload_n 2, 1) := by decide +kernel
theorem dL_law__565 : decode cL_law_ 565 = .ok (.invokevirtual 132, 3) := by decide +kernel
theorem dL_law__568 : decode cL_law_ 568 = .ok (.iload 5, 2) := by decide +kernel
theorem dL_law__570 : decode cL_law_ 570 = .ok (.if_icmp .eq 5, 3) := by decide +kernel
theorem dL_law__573 : decode cL_law_ 573 = .ok (.iconst 0, 1) := by decide +kernel
theorem dL_law__574 : decode cL_law_ 574 = .ok (.ireturn, 1) := by decide +kernel
theorem dL_law__575 : decode cL_law_ 575 = .ok (.iload 5, 2) := by decide +kernel
theorem dL_law__577 : decode cL_law_ 577 = .ok (.ifCond .ne 15, 3) := by decide +kernel
theorem dL_law__580 : decode cL_law_ 580 = .ok (.aload_n 3, 1) := by decide +kernel
theorem dL_law__581 : decode cL_law_ 581 = .ok (.iconst 0, 1) := by decide +kernel
theorem dL_law__582 : decode cL_law_ 582 = .ok (.laload, 1) := by decide +kernel
theorem dL_law__583 : decode cL_law_ 583 = .ok (.iload 6, 2) := by decide +kernel
theorem dL_law__585 : decode cL_law_ 585 = .ok (.i2l, 1) := by decide +kernel
theorem dL_law__586 : decode cL_law_ 586 = .ok (.lcmp, 1) := by decide +kernel
theorem dL_law__587 : decode cL_law_ 587 = .ok (.ifCond .eq 5, 3) := by decide +kernel
theorem dL_law__590 : decode cL_law_ 590 = .ok (.iconst 0, 1) := by decide +kernel
theorem dL_law__591 : decode cL_law_ 591 = .ok (.ireturn, 1) := by decide +kernel
theorem dL_law__592 : decode cL_law_ 592 = .ok (.goto 2038, 3) := by decide +kernel
theorem dL_law__595 : decode cL_law_ 595 = .ok (.aload_n 1, 1) := by decide +kernel
theorem dL_law__596 : decode cL_law_ 596 = .ok (.aload_n 0, 1) := by decide +kernel
theorem dL_law__597 : decode cL_law_ 597 = .ok (.iload 4, 2) := by decide +kernel
theorem dL_law__599 : decode cL_law_ 599 = .ok (.iconst 1, 1) := by decide +kernel
theorem dL_law__600 : decode cL_law_ 600 = .ok (.iadd, 1) := by decide +kernel
theorem dL_law__601 : decode cL_law_ 601 = .ok (.iaload, 1) := by decide +kernel
theorem dL_law__602 : decode cL_law_ 602 = .ok (.aload_n 0, 1) := by decide +kernel
theorem dL_law__603 : decode cL_law_ 603 = .ok (.iload 4, 2) := by decide +kernel
theorem dL_law__605 : decode cL_law_ 605 = .ok (.iconst 2, 1) := by decide +kernel
theorem dL_law__606 : decode cL_law_ 606 = .ok (.iadd, 1) := by decide +kernel
theorem dL_law__607 : decode cL_law_ 607 = .ok (.iaload, 1) := by decide +kernel
theorem dL_law__608 : decode cL_law_ 608 = .ok (.aload_n 3, 1) := by decide +kernel
theorem dL_law__609 : decode cL_law_ 609 = .ok (.invokestatic 156, 3) := by decide +kernel
theorem dL_law__612 : decode cL_law_ 612 = .ok (.istore 5, 2) := by decide +kernel
theorem dL_law__614 : decode cL_law_ 614 = .ok (.aload_n 2, 1) := by decide +kernel
theorem dL_law__615 : decode cL_law_ 615 = .ok (.aload_n 0, 1) := by decide +kernel
theorem dL_law__616 : decode cL_law_ 616 = .ok (.iload 4, 2) := by decide +kernel
theorem dL_law__618 : decode cL_law_ 618 = .ok (.iconst 1, 1) := by decide +kernel
theorem dL_law__619 : decode cL_law_ 619 = .ok (.iadd, 1) := by decide +kernel
theorem dL_law__620 : decode cL_law_ 620 = .ok (.iaload, 1) := by decide +kernel
theorem dL_law__621 : decode cL_law_ 621 = .ok (.aload_n 0, 1) := by decide +kernel
theorem dL_law__622 : decode cL_law_ 622 = .ok (.iload 4, 2) := by decide +kernel
theorem dL_law__624 : decode cL_law_ 624 = .ok (.iconst 2, 1) := by decide +kernel
theorem dL_law__625 : decode cL_law_ 625 = .ok (.iadd, 1) := by decide +kernel
theorem dL_law__626 : decode cL_law_ 626 = .ok (.iaload, 1) := by decide +kernel
theorem dL_law__627 : decode cL_law_ 627 = .ok (.invokevirtual 159, 3) := by decide +kernel
theorem dL_law__630 : decode cL_law_ 630 = .ok (.istore 6, 2) := by decide +kernel
theorem dL_law__632 : decode cL_law_ 632 = .ok (.aload_n 2, 1) := by decide +kernel
theorem dL_law__633 : decode cL_law_ 633 = .ok (.invokevirtual 132, 3) := by decide +kernel
theorem dL_law__636 : decode cL_law_ 636 = .ok (.iload 5, 2) := by decide +kernel
theorem dL_law__638 : decode cL_law_ 638 = .ok (.if_icmp .eq 5, 3) := by decide +kernel
theorem dL_law__641 : decode cL_law_ 641 = .ok (.iconst 0, 1) := by decide +kernel
theorem dL_law__642 : decode cL_law_ 642 = .ok (.ireturn, 1) := by decide +kernel
theorem dL_law__643 : decode cL_law_ 643 = .ok (.iload 5, 2) := by decide +kernel
theorem dL_law__645 : decode cL_law_ 645 = .ok (.ifCond .ne 15, 3) := by decide +kernel
theorem dL_law__648 : decode cL_law_ 648 = .ok (.aload_n 3, 1) := by decide +kernel
theorem dL_law__649 : decode cL_law_ 649 = .ok (.iconst 0, 1) := by decide +kernel
theorem dL_law__650 : decode cL_law_ 650 = .ok (.laload, 1) := by decide +kernel
theorem dL_law__651 : decode cL_law_ 651 = .ok (.iload 6, 2) := by decide +kernel
theorem dL_law__653 : decode cL_law_ 653 = .ok (.i2l, 1) := by decide +kernel
theorem dL_law__654 : decode cL_law_ 654 = .ok (.lcmp, 1) := by decide +kernel
theorem dL_law__655 : decode cL_law_ 655 = .ok (.ifCond .eq 5, 3) := by decide +kernel
theorem dL_law__658 : decode cL_law_ 658 = .ok (.iconst 0, 1) := by decide +kernel
theorem dL_law__659 : decode cL_law_ 659 = .ok (.ireturn, 1) := by decide +kernel
theorem dL_law__660 : decode cL_law_ 660 = .ok (.goto 1970, 3) := by decide +kernel
theorem dL_law__663 : decode cL_law_ 663 = .ok (.aload_n 1, 1) := by decide +kernel
theorem dL_law__664 : decode cL_law_ 664 = .ok (.aload_n 0, 1) := by decide +kernel
theorem dL_law__665 : decode cL_law_ 665 = .ok (.iload 4, 2) := by decide +kernel
theorem dL_law__667 : decode cL_law_ 667 = .ok (.iconst 1, 1) := by decide +kernel
theorem dL_law__668 : decode cL_law_ 668 = .ok (.iadd, 1) := by decide +kernel
theorem dL_law__669 : decode cL_law_ 669 = .ok (.iaload, 1) := by decide +kernel
theorem dL_law__670 : decode cL_law_ 670 = .ok (.aload_n 0, 1) := by decide +kernel
theorem dL_law__671 : decode cL_law_ 671 = .ok (.iload 4, 2) := by decide +kernel
theorem dL_law__673 : decode cL_law_ 673 = .ok (.iconst 2, 1) := by decide +kernel
theorem dL_law__674 : decode cL_law_ 674 = .ok (.iadd, 1) := by decide +kernel
theorem dL_law__675 : decode cL_law_ 675 = .ok (.iaload, 1) := by decide +kernel
theorem dL_law__676 : decode cL_law_ 676 = .ok (.aload_n 3, 1) := by decide +kernel
theorem dL_law__677 : decode cL_law_ 677 = .ok (.invokestatic 160, 3) := by decide +kernel
theorem dL_law__680 : decode cL_law_ 680 = .ok (.istore 5, 2) := by decide +kernel
theorem dL_law__682 : decode cL_law_ 682 = .ok (.aload_n 2, 1) := by decide +kernel
theorem dL_law__683 : decode cL_law_ 683 = .ok (.aload_n 0, 1) := by decide +kernel
theorem dL_law__684 : decode cL_law_ 684 = .ok (.iload 4, 2) := by decide +kernel
theorem dL_law__686 : decode cL_law_ 686 = .ok (.iconst 1, 1) := by decide +kernel
theorem dL_law__687 : decode cL_law_ 687 = .ok (.iadd, 1) := by decide +kernel
theorem dL_law__688 : decode cL_law_ 688 = .ok (.iaload, 1) := by decide +kernel
theorem dL_law__689 : decode cL_law_ 689 = .ok (.aload_n 0, 1) := by decide +kernel
theorem dL_law__690 : decode cL_law_ 690 = .ok (.iload 4, 2) := by decide +kernel
theorem dL_law__692 : decode cL_law_ 692 = .ok (.iconst 2, 1) := by decide +kernel
theorem dL_law__693 : decode cL_law_ 693 = .ok (.iadd, 1) := by decide +kernel
theorem dL_law__694 : decode cL_law_ 694 = .ok (.iaload, 1) := by decide +kernel
theorem dL_law__695 : decode cL_law_ 695 = .ok (.invokevirtual 162, 3) := by decide +kernel
theorem dL_law__698 : decode cL_law_ 698 = .ok (.istore 6, 2) := by decide +kernel
theorem dL_law__700 : decode cL_law_ 700 = .ok (.aload_n 2, 1) := by decide +kernel
theorem dL_law__701 : decode cL_law_ 701 = .ok (.invokevirtual 132, 3) := by decide +kernel
theorem dL_law__704 : decode cL_law_ 704 = .ok (.iload 5, 2) := by decide +kernel
theorem dL_law__706 : decode cL_law_ 706 = .ok (.if_icmp .eq 5, 3) := by decide +kernel
theorem dL_law__709 : decode cL_law_ 709 = .ok (.iconst 0, 1) := by decide +kernel
theorem dL_law__710 : decode cL_law_ 710 = .ok (.ireturn, 1) := by decide +kernel
theorem dL_law__711 : decode cL_law_ 711 = .ok (.iload 5, 2) := by decide +kernel
theorem dL_law__713 : decode cL_law_ 713 = .ok (.ifCond .ne 15, 3) := by decide +kernel
theorem dL_law__716 : decode cL_law_ 716 = .ok (.aload_n 3, 1) := by decide +kernel
theorem dL_law__717 : decode cL_law_ 717 = .ok (.iconst 0, 1) := by decide +kernel
theorem dL_law__718 : decode cL_law_ 718 = .ok (.laload, 1) := by decide +kernel
theorem dL_law__719 : decode cL_law_ 719 = .ok (.iload 6, 2) := by decide +kernel
theorem dL_law__721 : decode cL_law_ 721 = .ok (.i2l, 1) := by decide +kernel
theorem dL_law__722 : decode cL_law_ 722 = .ok (.lcmp, 1) := by decide +kernel
theorem dL_law__723 : decode cL_law_ 723 = .ok (.ifCond .eq 5, 3) := by decide +kernel
theorem dL_law__726 : decode cL_law_ 726 = .ok (.iconst 0, 1) := by decide +kernel
theorem dL_law__727 : decode cL_law_ 727 = .ok (.ireturn, 1) := by decide +kernel
theorem dL_law__728 : decode cL_law_ 728 = .ok (.goto 1902, 3) := by decide +kernel
theorem dL_law__731 : decode cL_law_ 731 = .ok (.aload_n 1, 1) := by decide +kernel
theorem dL_law__732 : decode cL_law_ 732 = .ok (.aload_n 0, 1) := by decide +kernel
theorem dL_law__733 : decode cL_law_ 733 = .ok (.iload 4, 2) := by decide +kernel
theorem dL_law__735 : decode cL_law_ 735 = .ok (.iconst 1, 1) := by decide +kernel
theorem dL_law__736 : decode cL_law_ 736 = .ok (.iadd, 1) := by decide +kernel
theorem dL_law__737 : decode cL_law_ 737 = .ok (.iaload, 1) := by decide +kernel
theorem dL_law__738 : decode cL_law_ 738 = .ok (.aload_n 0, 1) := by decide +kernel
theorem dL_law__739 : decode cL_law_ 739 = .ok (.iload 4, 2) := by decide +kernel
theorem dL_law__741 : decode cL_law_ 741 = .ok (.iconst 2, 1) := by decide +kernel
theorem dL_law__742 : decode cL_law_ 742 = .ok (.iadd, 1) := by decide +kernel
theorem dL_law__743 : decode cL_law_ 743 = .ok (.iaload, 1) := by decide +kernel
theorem dL_law__744 : decode cL_law_ 744 = .ok (.aload_n 3, 1) := by decide +kernel
theorem dL_law__745 : decode cL_law_ 745 = .ok (.invokestatic 163, 3) := by decide +kernel
theorem dL_law__748 : decode cL_law_ 748 = .ok (.istore 5, 2) := by decide +kernel
theorem dL_law__750 : decode cL_law_ 750 = .ok (.aload_n 2, 1) := by decide +kernel
theorem dL_law__751 : decode cL_law_ 751 = .ok (.aload_n 0, 1) := by decide +kernel
theorem dL_law__752 : decode cL_law_ 752 = .ok (.iload 4, 2) := by decide +kernel
theorem dL_law__754 : decode cL_law_ 754 = .ok (.iconst 1, 1) := by decide +kernel
theorem dL_law__755 : decode cL_law_ 755 = .ok (.iadd, 1) := by decide +kernel
theorem dL_law__756 : decode cL_law_ 756 = .ok (.iaload, 1) := by decide +kernel
theorem dL_law__757 : decode cL_law_ 757 = .ok (.aload_n 0, 1) := by decide +kernel
theorem dL_law__758 : decode cL_law_ 758 = .ok (.iload 4, 2) := by decide +kernel
theorem dL_law__760 : decode cL_law_ 760 = .ok (.iconst 2, 1) := by decide +kernel
theorem dL_law__761 : decode cL_law_ 761 = .ok (.iadd, 1) := by decide +kernel
theorem dL_law__762 : decode cL_law_ 762 = .ok (.iaload, 1) := by decide +kernel
theorem dL_law__763 : decode cL_law_ 763 = .ok (.invokevirtual 165, 3) := by decide +kernel
theorem dL_law__766 : decode cL_law_ 766 = .ok (.istore 6, 2) := by decide +kernel
theorem dL_law__768 : decode cL_law_ 768 = .ok (.aload_n 2, 1) := by decide +kernel
theorem dL_law__769 : decode cL_law_ 769 = .ok (.invokevirtual 132, 3) := by decide +kernel
theorem dL_law__772 : decode cL_law_ 772 = .ok (.iload 5, 2) := by decide +kernel
theorem dL_law__774 : decode cL_law_ 774 = .ok (.if_icmp .eq 5, 3) := by decide +kernel
theorem dL_law__777 : decode cL_law_ 777 = .ok (.iconst 0, 1) := by decide +kernel
theorem dL_law__778 : decode cL_law_ 778 = .ok (.ireturn, 1) := by decide +kernel
theorem dL_law__779 : decode cL_law_ 779 = .ok (.iload 5, 2) := by decide +kernel
theorem dL_law__781 : decode cL_law_ 781 = .ok (.ifCond .ne 15, 3) := by decide +kernel
theorem dL_law__784 : decode cL_law_ 784 = .ok (.aload_n 3, 1) := by decide +kernel
theorem dL_law__785 : decode cL_law_ 785 = .ok (.iconst 0, 1) := by decide +kernel
theorem dL_law__786 : decode cL_law_ 786 = .ok (.laload, 1) := by decide +kernel
theorem dL_law__787 : decode cL_law_ 787 = .ok (.iload 6, 2) := by decide +kernel
theorem dL_law__789 : decode cL_law_ 789 = .ok (.i2l, 1) := by decide +kernel
theorem dL_law__790 : decode cL_law_ 790 = .ok (.lcmp, 1) := by decide +kernel
theorem dL_law__791 : decode cL_law_ 791 = .ok (.ifCond .eq 5, 3) := by decide +kernel
theorem dL_law__794 : decode cL_law_ 794 = .ok (.iconst 0, 1) := by decide +kernel
theorem dL_law__795 : decode cL_law_ 795 = .ok (.ireturn, 1) := by decide +kernel
theorem dL_law__796 : decode cL_law_ 796 = .ok (.goto 1834, 3) := by decide +kernel
theorem dL_law__799 : decode cL_law_ 799 = .ok (.aload_n 1, 1) := by decide +kernel
theorem dL_law__800 : decode cL_law_ 800 = .ok (.aload_n 0, 1) := by decide +kernel
theorem dL_law__801 : decode cL_law_ 801 = .ok (.iload 4, 2) := by decide +kernel
theorem dL_law__803 : decode cL_law_ 803 = .ok (.iconst 1, 1) := by decide +kernel
theorem dL_law__804 : decode cL_law_ 804 = .ok (.iadd, 1) := by decide +kernel
theorem dL_law__805 : decode cL_law_ 805 = .ok (.iaload, 1) := by decide +kernel
theorem dL_law__806 : decode cL_law_ 806 = .ok (.aload_n 0, 1) := by decide +kernel
theorem dL_law__807 : decode cL_law_ 807 = .ok (.iload 4, 2) := by decide +kernel
theorem dL_law__809 : decode cL_law_ 809 = .ok (.iconst 2, 1) := by decide +kernel
theorem dL_law__810 : decode cL_law_ 810 = .ok (.iadd, 1) := by decide +kernel
theorem dL_law__811 : decode cL_law_ 811 = .ok (.iaload, 1) := by decide +kernel
theorem dL_law__812 : decode cL_law_ 812 = .ok (.aload_n 0, 1) := by decide +kernel
theorem dL_law__813 : decode cL_law_ 813 = .ok (.iload 4, 2) := by decide +kernel
theorem dL_law__815 : decode cL_law_ 815 = .ok (.iconst 3, 1) := by decide +kernel
theorem dL_law__816 : decode cL_law_ 816 = .ok (.iadd, 1) := by decide +kernel
theorem dL_law__817 : decode cL_law_ 817 = .ok (.iaload, 1) := by decide +kernel
theorem dL_law__818 : decode cL_law_ 818 = .ok (.aload_n 0, 1) := by decide +kernel
theorem dL_law__819 : decode cL_law_ 819 = .ok (.iload 4, 2) := by decide +kernel
theorem dL_law__821 : decode cL_law_ 821 = .ok (.iconst 4, 1) := by decide +kernel
theorem dL_law__822 : decode cL_law_ 822 = .ok (.iadd, 1) := by decide +kernel
theorem dL_law__823 : decode cL_law_ 823 = .ok (.iaload, 1) := by decide +kernel
theorem dL_law__824 : decode cL_law_ 824 = .ok (.aload_n 0, 1) := by decide +kernel
theorem dL_law__825 : decode cL_law_ 825 = .ok (.iload 4, 2) := by decide +kernel
theorem dL_law__827 : decode cL_law_ 827 = .ok (.iconst 5, 1) := by decide +kernel
theorem dL_law__828 : decode cL_law_ 828 = .ok (.iadd, 1) := by decide +kernel
theorem dL_law__829 : decode cL_law_ 829 = .ok (.iaload, 1) := by decide +kernel
theorem dL_law__830 : decode cL_law_ 830 = .ok (.aload_n 0, 1) := by decide +kernel
theorem dL_law__831 : decode cL_law_ 831 = .ok (.iload 4, 2) := by decide +kernel
theorem dL_law__833 : decode cL_law_ 833 = .ok (.bipush 6, 2) := by decide +kernel
theorem dL_law__835 : decode cL_law_ 835 = .ok (.iadd, 1) := by decide +kernel
theorem dL_law__836 : decode cL_law_ 836 = .ok (.iaload, 1) := by decide +kernel
theorem dL_law__837 : decode cL_law_ 837 = .ok (.aload_n 0, 1) := by decide +kernel
theorem dL_law__838 : decode cL_law_ 838 = .ok (.iload 4, 2) := by decide +kernel
theorem dL_law__840 : decode cL_law_ 840 = .ok (.bipush 7, 2) := by decide +kernel
theorem dL_law__842 : decode cL_law_ 842 = .ok (.iadd, 1) := by decide +kernel
theorem dL_law__843 : decode cL_law_ 843 = .ok (.iaload, 1) := by decide +kernel
theorem dL_law__844 : decode cL_law_ 844 = .ok (.aload_n 0, 1) := by decide +kernel
theorem dL_law__845 : decode cL_law_ 845 = .ok (.iload 4, 2) := by decide +kernel
theorem dL_law__847 : decode cL_law_ 847 = .ok (.bipush 8, 2) := by decide +kernel
theorem dL_law__849 : decode cL_law_ 849 = .ok (.iadd, 1) := by decide +kernel
theorem dL_law__850 : decode cL_law_ 850 = .ok (.iaload, 1) := by decide +kernel
theorem dL_law__851 : decode cL_law_ 851 = .ok (.aload_n 3, 1) := by decide +kernel
theorem dL_law__852 : decode cL_law_ 852 = .ok (.invokestatic 166, 3) := by decide +kernel
theorem dL_law__855 : decode cL_law_ 855 = .ok (.istore 5, 2) := by decide +kernel
theorem dL_law__857 : decode cL_law_ 857 = .ok (.aload_n 2, 1) := by decide +kernel
theorem dL_law__858 : decode cL_law_ 858 = .ok (.aload_n 0, 1) := by decide +kernel
theorem dL_law__859 : decode cL_law_ 859 = .ok (.iload 4, 2) := by decide +kernel
theorem dL_law__861 : decode cL_law_ 861 = .ok (.iconst 1, 1) := by decide +kernel
theorem dL_law__862 : decode cL_law_ 862 = .ok (.iadd, 1) := by decide +kernel
theorem dL_law__863 : decode cL_law_ 863 = .ok (.iaload, 1) := by decide +kernel
theorem dL_law__864 : decode cL_law_ 864 = .ok (.aload_n 0, 1) := by decide +kernel
theorem dL_law__865 : decode cL_law_ 865 = .ok (.iload 4, 2) := by decide +kernel
theorem dL_law__867 : decode cL_law_ 867 = .ok (.iconst 2, 1) := by decide +kernel
theorem dL_law__868 : decode cL_law_ 868 = .ok (.iadd, 1) := by decide +kernel
theorem dL_law__869 : decode cL_law_ 869 = .ok (.iaload, 1) := by decide +kernel
theorem dL_law__870 : decode cL_law_ 870 = .ok (.aload_n 0, 1) := by decide +kernel
theorem dL_law__871 : decode cL_law_ 871 = .ok (.iload 4, 2) := by decide +kernel
theorem dL_law__873 : decode cL_law_ 873 = .ok (.iconst 3, 1) := by decide +kernel
theorem dL_law__874 : decode cL_law_ 874 = .ok (.iadd, 1) := by decide +kernel
theorem dL_law__875 : decode cL_law_ 875 = .ok (.iaload, 1) := by decide +kernel
theorem dL_law__876 : decode cL_law_ 876 = .ok (.aload_n 0, 1) := by decide +kernel
theorem dL_law__877 : decode cL_law_ 877 = .ok (.iload 4, 2) := by decide +kernel
theorem dL_law__879 : decode cL_law_ 879 = .ok (.iconst 4, 1) := by decide +kernel
theorem dL_law__880 : decode cL_law_ 880 = .ok (.iadd, 1) := by decide +kernel
theorem dL_law__881 : decode cL_law_ 881 = .ok (.iaload, 1) := by decide +kernel
theorem dL_law__882 : decode cL_law_ 882 = .ok (.aload_n 0, 1) := by decide +kernel
theorem dL_law__883 : decode cL_law_ 883 = .ok (.iload 4, 2) := by decide +kernel
theorem dL_law__885 : decode cL_law_ 885 = .ok (.iconst 5, 1) := by decide +kernel
theorem dL_law__886 : decode cL_law_ 886 = .ok (.iadd, 1) := by decide +kernel
theorem dL_law__887 : decode cL_law_ 887 = .ok (.iaload, 1) := by decide +kernel
theorem dL_law__888 : decode cL_law_ 888 = .ok (.aload_n 0, 1) := by decide +kernel
theorem dL_law__889 : decode cL_law_ 889 = .ok (.iload 4, 2) := by decide +kernel
theorem dL_law__891 : decode cL_law_ 891 = .ok (.bipush 6, 2) := by decide +kernel
theorem dL_law__893 : decode cL_law_ 893 = .ok (.iadd, 1) := by decide +kernel
theorem dL_law__894 : decode cL_law_ 894 = .ok (.iaload, 1) := by decide +kernel
theorem dL_law__895 : decode cL_law_ 895 = .ok (.aload_n 0, 1) := by decide +kernel
theorem dL_law__896 : decode cL_law_ 896 = .ok (.iload 4, 2) := by decide +kernel
theorem dL_law__898 : decode cL_law_ 898 = .ok (.bipush 7, 2) := by decide +kernel
theorem dL_law__900 : decode cL_law_ 900 = .ok (.iadd, 1) := by decide +kernel
theorem dL_law__901 : decode cL_law_ 901 = .ok (.iaload, 1) := by decide +kernel
theorem dL_law__902 : decode cL_law_ 902 = .ok (.aload_n 0, 1) := by decide +kernel
theorem dL_law__903 : decode cL_law_ 903 = .ok (.iload 4, 2) := by decide +kernel
theorem dL_law__905 : decode cL_law_ 905 = .ok (.bipush 8, 2) := by decide +kernel
theorem dL_law__907 : decode cL_law_ 907 = .ok (.iadd, 1) := by decide +kernel
theorem dL_law__908 : decode cL_law_ 908 = .ok (.iaload, 1) := by decide +kernel
theorem dL_law__909 : decode cL_law_ 909 = .ok (.invokevirtual 169, 3) := by decide +kernel
theorem dL_law__912 : decode cL_law_ 912 = .ok (.istore 6, 2) := by decide +kernel
theorem dL_law__914 : decode cL_law_ 914 = .ok (.aload_n 2, 1) := by decide +kernel
theorem dL_law__915 : decode cL_law_ 915 = .ok (.invokevirtual 132, 3) := by decide +kernel
theorem dL_law__918 : decode cL_law_ 918 = .ok (.iload 5, 2) := by decide +kernel
theorem dL_law__920 : decode cL_law_ 920 = .ok (.if_icmp .eq 5, 3) := by decide +kernel
theorem dL_law__923 : decode cL_law_ 923 = .ok (.iconst 0, 1) := by decide +kernel
theorem dL_law__924 : decode cL_law_ 924 = .ok (.ireturn, 1) := by decide +kernel
theorem dL_law__925 : decode cL_law_ 925 = .ok (.iload 5, 2) := by decide +kernel
theorem dL_law__927 : decode cL_law_ 927 = .ok (.ifCond .ne 15, 3) := by decide +kernel
theorem dL_law__930 : decode cL_law_ 930 = .ok (.aload_n 3, 1) := by decide +kernel
theorem dL_law__931 : decode cL_law_ 931 = .ok (.iconst 0, 1) := by decide +kernel
theorem dL_law__932 : decode cL_law_ 932 = .ok (.laload, 1) := by decide +kernel
theorem dL_law__933 : decode cL_law_ 933 = .ok (.iload 6, 2) := by decide +kernel
theorem dL_law__935 : decode cL_law_ 935 = .ok (.i2l, 1) := by decide +kernel
theorem dL_law__936 : decode cL_law_ 936 = .ok (.lcmp, 1) := by decide +kernel
theorem dL_law__937 : decode cL_law_ 937 = .ok (.ifCond .eq 5, 3) := by decide +kernel
theorem dL_law__940 : decode cL_law_ 940 = .ok (.iconst 0, 1) := by decide +kernel
theorem dL_law__941 : decode cL_law_ 941 = .ok (.ireturn, 1) := by decide +kernel
theorem dL_law__942 : decode cL_law_ 942 = .ok (.goto 1688, 3) := by decide +kernel
theorem dL_law__945 : decode cL_law_ 945 = .ok (.aload_n 1, 1) := by decide +kernel
theorem dL_law__946 : decode cL_law_ 946 = .ok (.aload_n 0, 1) := by decide +kernel
theorem dL_law__947 : decode cL_law_ 947 = .ok (.iload 4, 2) := by decide +kernel
theorem dL_law__949 : decode cL_law_ 949 = .ok (.iconst 1, 1) := by decide +kernel
theorem dL_law__950 : decode cL_law_ 950 = .ok (.iadd, 1) := by decide +kernel
theorem dL_law__951 : decode cL_law_ 951 = .ok (.iaload, 1) := by decide +kernel
theorem dL_law__952 : decode cL_law_ 952 = .ok (.aload_n 0, 1) := by decide +kernel
theorem dL_law__953 : decode cL_law_ 953 = .ok (.iload 4, 2) := by decide +kernel
theorem dL_law__955 : decode cL_law_ 955 = .ok (.iconst 2, 1) := by decide +kernel
theorem dL_law__956 : decode cL_law_ 956 = .ok (.iadd, 1) := by decide +kernel
theorem dL_law__957 : decode cL_law_ 957 = .ok (.iaload, 1) := by decide +kernel
theorem dL_law__958 : decode cL_law_ 958 = .ok (.aload_n 0, 1) := by decide +kernel
theorem dL_law__959 : decode cL_law_ 959 = .ok (.iload 4, 2) := by decide +kernel
theorem dL_law__961 : decode cL_law_ 961 = .ok (.iconst 3, 1) := by decide +kernel
theorem dL_law__962 : decode cL_law_ 962 = .ok (.iadd, 1) := by decide +kernel
theorem dL_law__963 : decode cL_law_ 963 = .ok (.iaload, 1) := by decide +kernel
theorem dL_law__964 : decode cL_law_ 964 = .ok (.aload_n 3, 1) := by decide +kernel
theorem dL_law__965 : decode cL_law_ 965 = .ok (.invokestatic 170, 3) := by decide +kernel
theorem dL_law__968 : decode cL_law_ 968 = .ok (.istore 5, 2) := by decide +kernel
theorem dL_law__970 : decode cL_law_ 970 = .ok (.aload_n 2, 1) := by decide +kernel
theorem dL_law__971 : decode cL_law_ 971 = .ok (.aload_n 0, 1) := by decide +kernel
theorem dL_law__972 : decode cL_law_ 972 = .ok (.iload 4, 2) := by decide +kernel
theorem dL_law__974 : decode cL_law_ 974 = .ok (.iconst 1, 1) := by decide +kernel
theorem dL_law__975 : decode cL_law_ 975 = .ok (.iadd, 1) := by decide +kernel
theorem dL_law__976 : decode cL_law_ 976 = .ok (.iaload, 1) := by decide +kernel
theorem dL_law__977 : decode cL_law_ 977 = .ok (.aload_n 0, 1) := by decide +kernel
theorem dL_law__978 : decode cL_law_ 978 = .ok (.iload 4, 2) := by decide +kernel
theorem dL_law__980 : decode cL_law_ 980 = .ok (.iconst 2, 1) := by decide +kernel
theorem dL_law__981 : decode cL_law_ 981 = .ok (.iadd, 1) := by decide +kernel
theorem dL_law__982 : decode cL_law_ 982 = .ok (.iaload, 1) := by decide +kernel
theorem dL_law__983 : decode cL_law_ 983 = .ok (.aload_n 0, 1) := by decide +kernel
theorem dL_law__984 : decode cL_law_ 984 = .ok (.iload 4, 2) := by decide +kernel
theorem dL_law__986 : decode cL_law_ 986 = .ok (.iconst 3, 1) := by decide +kernel
theorem dL_law__987 : decode cL_law_ 987 = .ok (.iadd, 1) := by decide +kernel
theorem dL_law__988 : decode cL_law_ 988 = .ok (.iaload, 1) := by decide +kernel
theorem dL_law__989 : decode cL_law_ 989 = .ok (.invokevirtual 173, 3) := by decide +kernel
theorem dL_law__992 : decode cL_law_ 992 = .ok (.istore 6, 2) := by decide +kernel
theorem dL_law__994 : decode cL_law_ 994 = .ok (.aload_n 2, 1) := by decide +kernel
theorem dL_law__995 : decode cL_law_ 995 = .ok (.invokevirtual 132, 3) := by decide +kernel
theorem dL_law__998 : decode cL_law_ 998 = .ok (.iload 5, 2) := by decide +kernel
theorem dL_law__1000 : decode cL_law_ 1000 = .ok (.if_icmp .eq 5, 3) := by decide +kernel
theorem dL_law__1003 : decode cL_law_ 1003 = .ok (.iconst 0, 1) := by decide +kernel
theorem dL_law__1004 : decode cL_law_ 1004 = .ok (.ireturn, 1) := by decide +kernel
theorem dL_law__1005 : decode cL_law_ 1005 = .ok (.iload 5, 2) := by decide +kernel
theorem dL_law__1007 : decode cL_law_ 1007 = .ok (.ifCond .ne 22, 3) := by decide +kernel
theorem dL_law__1010 : decode cL_law_ 1010 = .ok (.aload_n 3, 1) := by decide +kernel
theorem dL_law__1011 : decode cL_law_ 1011 = .ok (.iconst 0, 1) := by decide +kernel
theorem dL_law__1012 : decode cL_law_ 1012 = .ok (.laload, 1) := by decide +kernel
theorem dL_law__1013 : decode cL_law_ 1013 = .ok (.iload 6, 2) := by decide +kernel
theorem dL_law__1015 : decode cL_law_ 1015 = .ok (.ifCond .eq 7, 3) := by decide +kernel
theorem dL_law__1018 : decode cL_law_ 1018 = .ok (.lconst 1, 1) := by decide +kernel
theorem dL_law__1019 : decode cL_law_ 1019 = .ok (.goto 4, 3) := by decide +kernel
theorem dL_law__1022 : decode cL_law_ 1022 = .ok (.lconst 0, 1) := by decide +kernel
theorem dL_law__1023 : decode cL_law_ 1023 = .ok (.lcmp, 1) := by decide +kernel
theorem dL_law__1024 : decode cL_law_ 1024 = .ok (.ifCond .eq 5, 3) := by decide +kernel
theorem dL_law__1027 : decode cL_law_ 1027 = .ok (.iconst 0, 1) := by decide +kernel
theorem dL_law__1028 : decode cL_law_ 1028 = .ok (.ireturn, 1) := by decide +kernel
theorem dL_law__1029 : decode cL_law_ 1029 = .ok (.goto 1601, 3) := by decide +kernel
theorem dL_law__1032 : decode cL_law_ 1032 = .ok (.aload_n 1, 1) := by decide +kernel
theorem dL_law__1033 : decode cL_law_ 1033 = .ok (.aload_n 0, 1) := by decide +kernel
theorem dL_law__1034 : decode cL_law_ 1034 = .ok (.iload 4, 2) := by decide +kernel
theorem dL_law__1036 : decode cL_law_ 1036 = .ok (.iconst 1, 1) := by decide +kernel
theorem dL_law__1037 : decode cL_law_ 1037 = .ok (.iadd, 1) := by decide +kernel
theorem dL_law__1038 : decode cL_law_ 1038 = .ok (.iaload, 1) := by decide +kernel
theorem dL_law__1039 : decode cL_law_ 1039 = .ok (.aload_n 0, 1) := by decide +kernel
theorem dL_law__1040 : decode cL_law_ 1040 = .ok (.iload 4, 2) := by decide +kernel
theorem dL_law__1042 : decode cL_law_ 1042 = .ok (.iconst 2, 1) := by decide +kernel
theorem dL_law__1043 : decode cL_law_ 1043 = .ok (.iadd, 1) := by decide +kernel
theorem dL_law__1044 : decode cL_law_ 1044 = .ok (.iaload, 1) := by decide +kernel
theorem dL_law__1045 : decode cL_law_ 1045 = .ok (.aload_n 3, 1) := by decide +kernel
theorem dL_law__1046 : decode cL_law_ 1046 = .ok (.invokestatic 174, 3) := by decide +kernel
theorem dL_law__1049 : decode cL_law_ 1049 = .ok (.istore 5, 2) := by decide +kernel
theorem dL_law__1051 : decode cL_law_ 1051 = .ok (.aload_n 2, 1) := by decide +kernel
theorem dL_law__1052 : decode cL_law_ 1052 = .ok (.aload_n 0, 1) := by decide +kernel
theorem dL_law__1053 : decode cL_law_ 1053 = .ok (.iload 4, 2) := by decide +kernel
theorem dL_law__1055 : decode cL_law_ 1055 = .ok (.iconst 1, 1) := by decide +kernel
theorem dL_law__1056 : decode cL_law_ 1056 = .ok (.iadd, 1) := by decide +kernel
theorem dL_law__1057 : decode cL_law_ 1057 = .ok (.iaload, 1) := by decide +kernel
theorem dL_law__1058 : decode cL_law_ 1058 = .ok (.aload_n 0, 1) := by decide +kernel
theorem dL_law__1059 : decode cL_law_ 1059 = .ok (.iload 4, 2) := by decide +kernel
theorem dL_law__1061 : decode cL_law_ 1061 = .ok (.iconst 2, 1) := by decide +kernel
theorem dL_law__1062 : decode cL_law_ 1062 = .ok (.iadd, 1) := by decide +kernel
theorem dL_law__1063 : decode cL_law_ 1063 = .ok (.iaload, 1) := by decide +kernel
theorem dL_law__1064 : decode cL_law_ 1064 = .ok (.invokevirtual 176, 3) := by decide +kernel
theorem dL_law__1067 : decode cL_law_ 1067 = .ok (.istore 6, 2) := by decide +kernel
theorem dL_law__1069 : decode cL_law_ 1069 = .ok (.aload_n 2, 1) := by decide +kernel
theorem dL_law__1070 : decode cL_law_ 1070 = .ok (.invokevirtual 132, 3) := by decide +kernel
theorem dL_law__1073 : decode cL_law_ 1073 = .ok (.iload 5, 2) := by decide +kernel
theorem dL_law__1075 : decode cL_law_ 1075 = .ok (.if_icmp .eq 5, 3) := by decide +kernel
theorem dL_law__1078 : decode cL_law_ 1078 = .ok (.iconst 0, 1) := by decide +kernel
theorem dL_law__1079 : decode cL_law_ 1079 = .ok (.ireturn, 1) := by decide +kernel
theorem dL_law__1080 : decode cL_law_ 1080 = .ok (.iload 5, 2) := by decide +kernel
theorem dL_law__1082 : decode cL_law_ 1082 = .ok (.ifCond .ne 15, 3) := by decide +kernel
theorem dL_law__1085 : decode cL_law_ 1085 = .ok (.aload_n 3, 1) := by decide +kernel
theorem dL_law__1086 : decode cL_law_ 1086 = .ok (.iconst 0, 1) := by decide +kernel
theorem dL_law__1087 : decode cL_law_ 1087 = .ok (.laload, 1) := by decide +kernel
theorem dL_law__1088 : decode cL_law_ 1088 = .ok (.iload 6, 2) := by decide +kernel
theorem dL_law__1090 : decode cL_law_ 1090 = .ok (.i2l, 1) := by decide +kernel
theorem dL_law__1091 : decode cL_law_ 1091 = .ok (.lcmp, 1) := by decide +kernel
theorem dL_law__1092 : decode cL_law_ 1092 = .ok (.ifCond .eq 5, 3) := by decide +kernel
theorem dL_law__1095 : decode cL_law_ 1095 = .ok (.iconst 0, 1) := by decide +kernel
theorem dL_law__1096 : decode cL_law_ 1096 = .ok (.ireturn, 1) := by decide +kernel
theorem dL_law__1097 : decode cL_law_ 1097 = .ok (.goto 1533, 3) := by decide +kernel
theorem dL_law__1100 : decode cL_law_ 1100 = .ok (.aload_n 1, 1) := by decide +kernel
theorem dL_law__1101 : decode cL_law_ 1101 = .ok (.aload_n 0, 1) := by decide +kernel
theorem dL_law__1102 : decode cL_law_ 1102 = .ok (.iload 4, 2) := by decide +kernel
theorem dL_law__1104 : decode cL_law_ 1104 = .ok (.iconst 1, 1) := by decide +kernel
theorem dL_law__1105 : decode cL_law_ 1105 = .ok (.iadd, 1) := by decide +kernel
theorem dL_law__1106 : decode cL_law_ 1106 = .ok (.iaload, 1) := by decide +kernel
theorem dL_law__1107 : decode cL_law_ 1107 = .ok (.aload_n 0, 1) := by decide +kernel
theorem dL_law__1108 : decode cL_law_ 1108 = .ok (.iload 4, 2) := by decide +kernel
theorem dL_law__1110 : decode cL_law_ 1110 = .ok (.iconst 2, 1) := by decide +kernel
theorem dL_law__1111 : decode cL_law_ 1111 = .ok (.iadd, 1) := by decide +kernel
theorem dL_law__1112 : decode cL_law_ 1112 = .ok (.iaload, 1) := by decide +kernel
theorem dL_law__1113 : decode cL_law_ 1113 = .ok (.aload_n 0, 1) := by decide +kernel
theorem dL_law__1114 : decode cL_law_ 1114 = .ok (.iload 4, 2) := by decide +kernel
theorem dL_law__1116 : decode cL_law_ 1116 = .ok (.iconst 3, 1) := by decide +kernel
theorem dL_law__1117 : decode cL_law_ 1117 = .ok (.iadd, 1) := by decide +kernel
theorem dL_law__1118 : decode cL_law_ 1118 = .ok (.iaload, 1) := by decide +kernel
theorem dL_law__1119 : decode cL_law_ 1119 = .ok (.aload_n 0, 1) := by decide +kernel
theorem dL_law__1120 : decode cL_law_ 1120 = .ok (.iload 4, 2) := by decide +kernel
theorem dL_law__1122 : decode cL_law_ 1122 = .ok (.iconst 4, 1) := by decide +kernel
theorem dL_law__1123 : decode cL_law_ 1123 = .ok (.iadd, 1) := by decide +kernel
theorem dL_law__1124 : decode cL_law_ 1124 = .ok (.iaload, 1) := by decide +kernel
theorem dL_law__1125 : decode cL_law_ 1125 = .ok (.aload_n 3, 1) := by decide +kernel
theorem dL_law__1126 : decode cL_law_ 1126 = .ok (.invokestatic 177, 3) := by decide +kernel
theorem dL_law__1129 : decode cL_law_ 1129 = .ok (.istore 5, 2) := by decide +kernel
theorem dL_law__1131 : decode cL_law_ 1131 = .ok (.aload_n 2, 1) := by decide +kernel
theorem dL_law__1132 : decode cL_law_ 1132 = .ok (.aload_n 0, 1) := by decide +kernel
theorem dL_law__1133 : decode cL_law_ 1133 = .ok (.iload 4, 2) := by decide +kernel
theorem dL_law__1135 : decode cL_law_ 1135 = .ok (.iconst 1, 1) := by decide +kernel
theorem dL_law__1136 : decode cL_law_ 1136 = .ok (.iadd, 1) := by decide +kernel
theorem dL_law__1137 : decode cL_law_ 1137 = .ok (.iaload, 1) := by decide +kernel
theorem dL_law__1138 : decode cL_law_ 1138 = .ok (.aload_n 0, 1) := by decide +kernel
theorem dL_law__1139 : decode cL_law_ 1139 = .ok (.iload 4, 2) := by decide +kernel
theorem dL_law__1141 : decode cL_law_ 1141 = .ok (.iconst 2, 1) := by decide +kernel
theorem dL_law__1142 : decode cL_law_ 1142 = .ok (.iadd, 1) := by decide +kernel
theorem dL_law__1143 : decode cL_law_ 1143 = .ok (.iaload, 1) := by decide +kernel
theorem dL_law__1144 : decode cL_law_ 1144 = .ok (.aload_n 0, 1) := by decide +kernel
theorem dL_law__1145 : decode cL_law_ 1145 = .ok (.iload 4, 2) := by decide +kernel
theorem dL_law__1147 : decode cL_law_ 1147 = .ok (.iconst 3, 1) := by decide +kernel
theorem dL_law__1148 : decode cL_law_ 1148 = .ok (.iadd, 1) := by decide +kernel
theorem dL_law__1149 : decode cL_law_ 1149 = .ok (.iaload, 1) := by decide +kernel
theorem dL_law__1150 : decode cL_law_ 1150 = .ok (.aload_n 0, 1) := by decide +kernel
theorem dL_law__1151 : decode cL_law_ 1151 = .ok (.iload 4, 2) := by decide +kernel
theorem dL_law__1153 : decode cL_law_ 1153 = .ok (.iconst 4, 1) := by decide +kernel
theorem dL_law__1154 : decode cL_law_ 1154 = .ok (.iadd, 1) := by decide +kernel
theorem dL_law__1155 : decode cL_law_ 1155 = .ok (.iaload, 1) := by decide +kernel
theorem dL_law__1156 : decode cL_law_ 1156 = .ok (.invokevirtual 180, 3) := by decide +kernel
theorem dL_law__1159 : decode cL_law_ 1159 = .ok (.istore 6, 2) := by decide +kernel
theorem dL_law__1161 : decode cL_law_ 1161 = .ok (.aload_n 2, 1) := by decide +kernel
theorem dL_law__1162 : decode cL_law_ 1162 = .ok (.invokevirtual 132, 3) := by decide +kernel
theorem dL_law__1165 : decode cL_law_ 1165 = .ok (.iload 5, 2) := by decide +kernel
theorem dL_law__1167 : decode cL_law_ 1167 = .ok (.if_icmp .eq 5, 3) := by decide +kernel
theorem dL_law__1170 : decode cL_law_ 1170 = .ok (.iconst 0, 1) := by decide +kernel
theorem dL_law__1171 : decode cL_law_ 1171 = .ok (.ireturn, 1) := by decide +kernel
theorem dL_law__1172 : decode cL_law_ 1172 = .ok (.iload 5, 2) := by decide +kernel
theorem dL_law__1174 : decode cL_law_ 1174 = .ok (.ifCond .ne 15, 3) := by decide +kernel
theorem dL_law__1177 : decode cL_law_ 1177 = .ok (.aload_n 3, 1) := by decide +kernel
theorem dL_law__1178 : decode cL_law_ 1178 = .ok (.iconst 0, 1) := by decide +kernel
theorem dL_law__1179 : decode cL_law_ 1179 = .ok (.laload, 1) := by decide +kernel
theorem dL_law__1180 : decode cL_law_ 1180 = .ok (.iload 6, 2) := by decide +kernel
theorem dL_law__1182 : decode cL_law_ 1182 = .ok (.i2l, 1) := by decide +kernel
theorem dL_law__1183 : decode cL_law_ 1183 = .ok (.lcmp, 1) := by decide +kernel
theorem dL_law__1184 : decode cL_law_ 1184 = .ok (.ifCond .eq 5, 3) := by decide +kernel
theorem dL_law__1187 : decode cL_law_ 1187 = .ok (.iconst 0, 1) := by decide +kernel
theorem dL_law__1188 : decode cL_law_ 1188 = .ok (.ireturn, 1) := by decide +kernel
theorem dL_law__1189 : decode cL_law_ 1189 = .ok (.goto 1441, 3) := by decide +kernel
theorem dL_law__1192 : decode cL_law_ 1192 = .ok (.aload_n 1, 1) := by decide +kernel
theorem dL_law__1193 : decode cL_law_ 1193 = .ok (.aload_n 0, 1) := by decide +kernel
theorem dL_law__1194 : decode cL_law_ 1194 = .ok (.iload 4, 2) := by decide +kernel
theorem dL_law__1196 : decode cL_law_ 1196 = .ok (.iconst 1, 1) := by decide +kernel
theorem dL_law__1197 : decode cL_law_ 1197 = .ok (.iadd, 1) := by decide +kernel
theorem dL_law__1198 : decode cL_law_ 1198 = .ok (.iaload, 1) := by decide +kernel
theorem dL_law__1199 : decode cL_law_ 1199 = .ok (.aload_n 3, 1) := by decide +kernel
theorem dL_law__1200 : decode cL_law_ 1200 = .ok (.invokestatic 181, 3) := by decide +kernel
theorem dL_law__1203 : decode cL_law_ 1203 = .ok (.istore 5, 2) := by decide +kernel
theorem dL_law__1205 : decode cL_law_ 1205 = .ok (.aload_n 2, 1) := by decide +kernel
theorem dL_law__1206 : decode cL_law_ 1206 = .ok (.aload_n 0, 1) := by decide +kernel
theorem dL_law__1207 : decode cL_law_ 1207 = .ok (.iload 4, 2) := by decide +kernel
theorem dL_law__1209 : decode cL_law_ 1209 = .ok (.iconst 1, 1) := by decide +kernel
theorem dL_law__1210 : decode cL_law_ 1210 = .ok (.iadd, 1) := by decide +kernel
theorem dL_law__1211 : decode cL_law_ 1211 = .ok (.iaload, 1) := by decide +kernel
theorem dL_law__1212 : decode cL_law_ 1212 = .ok (.invokevirtual 183, 3) := by decide +kernel
theorem dL_law__1215 : decode cL_law_ 1215 = .ok (.istore 6, 2) := by decide +kernel
theorem dL_law__1217 : decode cL_law_ 1217 = .ok (.aload_n 2, 1) := by decide +kernel
theorem dL_law__1218 : decode cL_law_ 1218 = .ok (.invokevirtual 132, 3) := by decide +kernel
theorem dL_law__1221 : decode cL_law_ 1221 = .ok (.iload 5, 2) := by decide +kernel
theorem dL_law__1223 : decode cL_law_ 1223 = .ok (.if_icmp .eq 5, 3) := by decide +kernel
theorem dL_law__1226 : decode cL_law_ 1226 = .ok (.iconst 0, 1) := by decide +kernel
theorem dL_law__1227 : decode cL_law_ 1227 = .ok (.ireturn, 1) := by decide +kernel
theorem dL_law__1228 : decode cL_law_ 1228 = .ok (.iload 5, 2) := by decide +kernel
theorem dL_law__1230 : decode cL_law_ 1230 = .ok (.ifCond .ne 15, 3) := by decide +kernel
theorem dL_law__1233 : decode cL_law_ 1233 = .ok (.aload_n 3, 1) := by decide +kernel
theorem dL_law__1234 : decode cL_law_ 1234 = .ok (.iconst 0, 1) := by decide +kernel
theorem dL_law__1235 : decode cL_law_ 1235 = .ok (.laload, 1) := by decide +kernel
theorem dL_law__1236 : decode cL_law_ 1236 = .ok (.iload 6, 2) := by decide +kernel
theorem dL_law__1238 : decode cL_law_ 1238 = .ok (.i2l, 1) := by decide +kernel
theorem dL_law__1239 : decode cL_law_ 1239 = .ok (.lcmp, 1) := by decide +kernel
theorem dL_law__1240 : decode cL_law_ 1240 = .ok (.ifCond .eq 5, 3) := by decide +kernel
theorem dL_law__1243 : decode cL_law_ 1243 = .ok (.iconst 0, 1) := by decide +kernel
theorem dL_law__1244 : decode cL_law_ 1244 = .ok (.ireturn, 1) := by decide +kernel
theorem dL_law__1245 : decode cL_law_ 1245 = .ok (.goto 1385, 3) := by decide +kernel
theorem dL_law__1248 : decode cL_law_ 1248 = .ok (.aload_n 1, 1) := by decide +kernel
theorem dL_law__1249 : decode cL_law_ 1249 = .ok (.aload_n 0, 1) := by decide +kernel
theorem dL_law__1250 : decode cL_law_ 1250 = .ok (.iload 4, 2) := by decide +kernel
theorem dL_law__1252 : decode cL_law_ 1252 = .ok (.iconst 1, 1) := by decide +kernel
theorem dL_law__1253 : decode cL_law_ 1253 = .ok (.iadd, 1) := by decide +kernel
theorem dL_law__1254 : decode cL_law_ 1254 = .ok (.iaload, 1) := by decide +kernel
theorem dL_law__1255 : decode cL_law_ 1255 = .ok (.aload_n 3, 1) := by decide +kernel
theorem dL_law__1256 : decode cL_law_ 1256 = .ok (.invokestatic 184, 3) := by decide +kernel
theorem dL_law__1259 : decode cL_law_ 1259 = .ok (.istore 5, 2) := by decide +kernel
theorem dL_law__1261 : decode cL_law_ 1261 = .ok (.aload_n 2, 1) := by decide +kernel
theorem dL_law__1262 : decode cL_law_ 1262 = .ok (.aload_n 0, 1) := by decide +kernel
theorem dL_law__1263 : decode cL_law_ 1263 = .ok (.iload 4, 2) := by decide +kernel
theorem dL_law__1265 : decode cL_law_ 1265 = .ok (.iconst 1, 1) := by decide +kernel
theorem dL_law__1266 : decode cL_law_ 1266 = .ok (.iadd, 1) := by decide +kernel
theorem dL_law__1267 : decode cL_law_ 1267 = .ok (.iaload, 1) := by decide +kernel
theorem dL_law__1268 : decode cL_law_ 1268 = .ok (.invokevirtual 186, 3) := by decide +kernel
theorem dL_law__1271 : decode cL_law_ 1271 = .ok (.istore 6, 2) := by decide +kernel
theorem dL_law__1273 : decode cL_law_ 1273 = .ok (.aload_n 2, 1) := by decide +kernel
theorem dL_law__1274 : decode cL_law_ 1274 = .ok (.invokevirtual 132, 3) := by decide +kernel
theorem dL_law__1277 : decode cL_law_ 1277 = .ok (.iload 5, 2) := by decide +kernel
theorem dL_law__1279 : decode cL_law_ 1279 = .ok (.if_icmp .eq 5, 3) := by decide +kernel
theorem dL_law__1282 : decode cL_law_ 1282 = .ok (.iconst 0, 1) := by decide +kernel
theorem dL_law__1283 : decode cL_law_ 1283 = .ok (.ireturn, 1) := by decide +kernel
theorem dL_law__1284 : decode cL_law_ 1284 = .ok (.iload 5, 2) := by decide +kernel
theorem dL_law__1286 : decode cL_law_ 1286 = .ok (.ifCond .ne 15, 3) := by decide +kernel
theorem dL_law__1289 : decode cL_law_ 1289 = .ok (.aload_n 3, 1) := by decide +kernel
theorem dL_law__1290 : decode cL_law_ 1290 = .ok (.iconst 0, 1) := by decide +kernel
theorem dL_law__1291 : decode cL_law_ 1291 = .ok (.laload, 1) := by decide +kernel
theorem dL_law__1292 : decode cL_law_ 1292 = .ok (.iload 6, 2) := by decide +kernel
theorem dL_law__1294 : decode cL_law_ 1294 = .ok (.i2l, 1) := by decide +kernel
theorem dL_law__1295 : decode cL_law_ 1295 = .ok (.lcmp, 1) := by decide +kernel
theorem dL_law__1296 : decode cL_law_ 1296 = .ok (.ifCond .eq 5, 3) := by decide +kernel
theorem dL_law__1299 : decode cL_law_ 1299 = .ok (.iconst 0, 1) := by decide +kernel
theorem dL_law__1300 : decode cL_law_ 1300 = .ok (.ireturn, 1) := by decide +kernel
theorem dL_law__1301 : decode cL_law_ 1301 = .ok (.goto 1329, 3) := by decide +kernel
theorem dL_law__1304 : decode cL_law_ 1304 = .ok (.aload_n 1, 1) := by decide +kernel
theorem dL_law__1305 : decode cL_law_ 1305 = .ok (.aload_n 0, 1) := by decide +kernel
theorem dL_law__1306 : decode cL_law_ 1306 = .ok (.iload 4, 2) := by decide +kernel
theorem dL_law__1308 : decode cL_law_ 1308 = .ok (.iconst 1, 1) := by decide +kernel
theorem dL_law__1309 : decode cL_law_ 1309 = .ok (.iadd, 1) := by decide +kernel
theorem dL_law__1310 : decode cL_law_ 1310 = .ok (.iaload, 1) := by decide +kernel
theorem dL_law__1311 : decode cL_law_ 1311 = .ok (.aload_n 3, 1) := by decide +kernel
theorem dL_law__1312 : decode cL_law_ 1312 = .ok (.invokestatic 187, 3) := by decide +kernel
theorem dL_law__1315 : decode cL_law_ 1315 = .ok (.istore 5, 2) := by decide +kernel
theorem dL_law__1317 : decode cL_law_ 1317 = .ok (.aload_n 2, 1) := by decide +kernel
theorem dL_law__1318 : decode cL_law_ 1318 = .ok (.aload_n 0, 1) := by decide +kernel
theorem dL_law__1319 : decode cL_law_ 1319 = .ok (.iload 4, 2) := by decide +kernel
theorem dL_law__1321 : decode cL_law_ 1321 = .ok (.iconst 1, 1) := by decide +kernel
theorem dL_law__1322 : decode cL_law_ 1322 = .ok (.iadd, 1) := by decide +kernel
theorem dL_law__1323 : decode cL_law_ 1323 = .ok (.iaload, 1) := by decide +kernel
theorem dL_law__1324 : decode cL_law_ 1324 = .ok (.invokevirtual 189, 3) := by decide +kernel
theorem dL_law__1327 : decode cL_law_ 1327 = .ok (.istore 6, 2) := by decide +kernel
theorem dL_law__1329 : decode cL_law_ 1329 = .ok (.aload_n 2, 1) := by decide +kernel
theorem dL_law__1330 : decode cL_law_ 1330 = .ok (.invokevirtual 132, 3) := by decide +kernel
theorem dL_law__1333 : decode cL_law_ 1333 = .ok (.iload 5, 2) := by decide +kernel
theorem dL_law__1335 : decode cL_law_ 1335 = .ok (.if_icmp .eq 5, 3) := by decide +kernel
theorem dL_law__1338 : decode cL_law_ 1338 = .ok (.iconst 0, 1) := by decide +kernel
theorem dL_law__1339 : decode cL_law_ 1339 = .ok (.ireturn, 1) := by decide +kernel
theorem dL_law__1340 : decode cL_law_ 1340 = .ok (.iload 5, 2) := by decide +kernel
theorem dL_law__1342 : decode cL_law_ 1342 = .ok (.ifCond .ne 15, 3) := by decide +kernel
theorem dL_law__1345 : decode cL_law_ 1345 = .ok (.aload_n 3, 1) := by decide +kernel
theorem dL_law__1346 : decode cL_law_ 1346 = .ok (.iconst 0, 1) := by decide +kernel
theorem dL_law__1347 : decode cL_law_ 1347 = .ok (.laload, 1) := by decide +kernel
theorem dL_law__1348 : decode cL_law_ 1348 = .ok (.iload 6, 2) := by decide +kernel
theorem dL_law__1350 : decode cL_law_ 1350 = .ok (.i2l, 1) := by decide +kernel
theorem dL_law__1351 : decode cL_law_ 1351 = .ok (.lcmp, 1) := by decide +kernel
theorem dL_law__1352 : decode cL_law_ 1352 = .ok (.ifCond .eq 5, 3) := by decide +kernel
theorem dL_law__1355 : decode cL_law_ 1355 = .ok (.iconst 0, 1) := by decide +kernel
theorem dL_law__1356 : decode cL_law_ 1356 = .ok (.ireturn, 1) := by decide +kernel
theorem dL_law__1357 : decode cL_law_ 1357 = .ok (.goto 1273, 3) := by decide +kernel
theorem dL_law__1360 : decode cL_law_ 1360 = .ok (.aload_n 1, 1) := by decide +kernel
theorem dL_law__1361 : decode cL_law_ 1361 = .ok (.aload_n 0, 1) := by decide +kernel
theorem dL_law__1362 : decode cL_law_ 1362 = .ok (.iload 4, 2) := by decide +kernel
theorem dL_law__1364 : decode cL_law_ 1364 = .ok (.iconst 1, 1) := by decide +kernel
theorem dL_law__1365 : decode cL_law_ 1365 = .ok (.iadd, 1) := by decide +kernel
theorem dL_law__1366 : decode cL_law_ 1366 = .ok (.iaload, 1) := by decide +kernel
theorem dL_law__1367 : decode cL_law_ 1367 = .ok (.aload_n 3, 1) := by decide +kernel
theorem dL_law__1368 : decode cL_law_ 1368 = .ok (.invokestatic 190, 3) := by decide +kernel
theorem dL_law__1371 : decode cL_law_ 1371 = .ok (.istore 5, 2) := by decide +kernel
theorem dL_law__1373 : decode cL_law_ 1373 = .ok (.aload_n 2, 1) := by decide +kernel
theorem dL_law__1374 : decode cL_law_ 1374 = .ok (.aload_n 0, 1) := by decide +kernel
theorem dL_law__1375 : decode cL_law_ 1375 = .ok (.iload 4, 2) := by decide +kernel
theorem dL_law__1377 : decode cL_law_ 1377 = .ok (.iconst 1, 1) := by decide +kernel
theorem dL_law__1378 : decode cL_law_ 1378 = .ok (.iadd, 1) := by decide +kernel
theorem dL_law__1379 : decode cL_law_ 1379 = .ok (.iaload, 1) := by decide +kernel
theorem dL_law__1380 : decode cL_law_ 1380 = .ok (.invokevirtual 192, 3) := by decide +kernel
theorem dL_law__1383 : decode cL_law_ 1383 = .ok (.istore 6, 2) := by decide +kernel
theorem dL_law__1385 : decode cL_law_ 1385 = .ok (.aload_n 2, 1) := by decide +kernel
theorem dL_law__1386 : decode cL_law_ 1386 = .ok (.invokevirtual 132, 3) := by decide +kernel
theorem dL_law__1389 : decode cL_law_ 1389 = .ok (.iload 5, 2) := by decide +kernel
theorem dL_law__1391 : decode cL_law_ 1391 = .ok (.if_icmp .eq 5, 3) := by decide +kernel
theorem dL_law__1394 : decode cL_law_ 1394 = .ok (.iconst 0, 1) := by decide +kernel
theorem dL_law__1395 : decode cL_law_ 1395 = .ok (.ireturn, 1) := by decide +kernel
theorem dL_law__1396 : decode cL_law_ 1396 = .ok (.iload 5, 2) := by decide +kernel
theorem dL_law__1398 : decode cL_law_ 1398 = .ok (.ifCond .ne 15, 3) := by decide +kernel
theorem dL_law__1401 : decode cL_law_ 1401 = .ok (.aload_n 3, 1) := by decide +kernel
theorem dL_law__1402 : decode cL_law_ 1402 = .ok (.iconst 0, 1) := by decide +kernel
theorem dL_law__1403 : decode cL_law_ 1403 = .ok (.laload, 1) := by decide +kernel
theorem dL_law__1404 : decode cL_law_ 1404 = .ok (.iload 6, 2) := by decide +kernel
theorem dL_law__1406 : decode cL_law_ 1406 = .ok (.i2l, 1) := by decide +kernel
theorem dL_law__1407 : decode cL_law_ 1407 = .ok (.lcmp, 1) := by decide +kernel
theorem dL_law__1408 : decode cL_law_ 1408 = .ok (.ifCond .eq 5, 3) := by decide +kernel
theorem dL_law__1411 : decode cL_law_ 1411 = .ok (.iconst 0, 1) := by decide +kernel
theorem dL_law__1412 : decode cL_law_ 1412 = .ok (.ireturn, 1) := by decide +kernel
theorem dL_law__1413 : decode cL_law_ 1413 = .ok (.goto 1217, 3) := by decide +kernel
theorem dL_law__1416 : decode cL_law_ 1416 = .ok (.aload_n 1, 1) := by decide +kernel
