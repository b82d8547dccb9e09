/-! The law's entries. -/
theorem g172 : zg zcL 172 = some (.aload_n 1, 1, 0, 0, .null) := by decide +kernel
theorem g173 : zg zcL 173 = some (.aload_n 0, 1, 0, 0, .null) := by decide +kernel
theorem g174 : zg zcL 174 = some (.iload_n 3, 1, 0, 0, .null) := by decide +kernel
theorem g175 : zg zcL 175 = some (.iconst 1, 1, 0, 0, .null) := by decide +kernel
theorem g176 : zg zcL 176 = some (.iadd, 1, 0, 0, .null) := by decide +kernel
theorem g177 : zg zcL 177 = some (.iaload, 1, 0, 0, .null) := by decide +kernel
theorem g178 : zg zcL 178 = some (.aload_n 0, 1, 0, 0, .null) := by decide +kernel
theorem g179 : zg zcL 179 = some (.iload_n 3, 1, 0, 0, .null) := by decide +kernel
theorem g180 : zg zcL 180 = some (.iconst 2, 1, 0, 0, .null) := by decide +kernel
theorem g181 : zg zcL 181 = some (.iadd, 1, 0, 0, .null) := by decide +kernel
theorem g182 : zg zcL 182 = some (.iaload, 1, 0, 0, .null) := by decide +kernel
theorem g183 : zg zcL 183 = some (.aload_n 0, 1, 0, 0, .null) := by decide +kernel
theorem g184 : zg zcL 184 = some (.iload_n 3, 1, 0, 0, .null) := by decide +kernel
theorem g185 : zg zcL 185 = some (.iconst 3, 1, 0, 0, .null) := by decide +kernel
theorem g186 : zg zcL 186 = some (.iadd, 1, 0, 0, .null) := by decide +kernel
theorem g187 : zg zcL 187 = some (.iaload, 1, 0, 0, .null) := by decide +kernel
theorem g188 : zg zcL 188 = some (.aload_n 0, 1, 0, 0, .null) := by decide +kernel
theorem g189 : zg zcL 189 = some (.iload_n 3, 1, 0, 0, .null) := by decide +kernel
theorem g190 : zg zcL 190 = some (.iconst 4, 1, 0, 0, .null) := by decide +kernel
theorem g191 : zg zcL 191 = some (.iadd, 1, 0, 0, .null) := by decide +kernel
theorem g192 : zg zcL 192 = some (.iaload, 1, 0, 0, .null) := by decide +kernel
theorem g193 : zg zcL 193 = some (.aload_n 0, 1, 0, 0, .null) := by decide +kernel
theorem g194 : zg zcL 194 = some (.iload_n 3, 1, 0, 0, .null) := by decide +kernel
theorem g195 : zg zcL 195 = some (.iconst 5, 1, 0, 0, .null) := by decide +kernel
theorem g196 : zg zcL 196 = some (.iadd, 1, 0, 0, .null) := by decide +kernel
theorem g197 : zg zcL 197 = some (.iaload, 1, 0, 0, .null) := by decide +kernel
theorem g198 : zg zcL 198 = some (.invokevirtual 13, 3, 122, 0, .null) := by decide +kernel
theorem g201 : zg zcL 201 = some (.pop, 1, 0, 0, .null) := by decide +kernel
theorem g202 : zg zcL 202 = some (.aload_n 2, 1, 0, 0, .null) := by decide +kernel
theorem g203 : zg zcL 203 = some (.aload_n 0, 1, 0, 0, .null) := by decide +kernel
theorem g204 : zg zcL 204 = some (.iload_n 3, 1, 0, 0, .null) := by decide +kernel
theorem g205 : zg zcL 205 = some (.iconst 1, 1, 0, 0, .null) := by decide +kernel
theorem g206 : zg zcL 206 = some (.iadd, 1, 0, 0, .null) := by decide +kernel
theorem g207 : zg zcL 207 = some (.iaload, 1, 0, 0, .null) := by decide +kernel
theorem g208 : zg zcL 208 = some (.aload_n 0, 1, 0, 0, .null) := by decide +kernel
theorem g209 : zg zcL 209 = some (.iload_n 3, 1, 0, 0, .null) := by decide +kernel
theorem g210 : zg zcL 210 = some (.iconst 2, 1, 0, 0, .null) := by decide +kernel
theorem g211 : zg zcL 211 = some (.iadd, 1, 0, 0, .null) := by decide +kernel
theorem g212 : zg zcL 212 = some (.iaload, 1, 0, 0, .null) := by decide +kernel
theorem g213 : zg zcL 213 = some (.aload_n 0, 1, 0, 0, .null) := by decide +kernel
theorem g214 : zg zcL 214 = some (.iload_n 3, 1, 0, 0, .null) := by decide +kernel
theorem g215 : zg zcL 215 = some (.iconst 3, 1, 0, 0, .null) := by decide +kernel
theorem g216 : zg zcL 216 = some (.iadd, 1, 0, 0, .null) := by decide +kernel
theorem g217 : zg zcL 217 = some (.iaload, 1, 0, 0, .null) := by decide +kernel
theorem g218 : zg zcL 218 = some (.aload_n 0, 1, 0, 0, .null) := by decide +kernel
theorem g219 : zg zcL 219 = some (.iload_n 3, 1, 0, 0, .null) := by decide +kernel
theorem g220 : zg zcL 220 = some (.iconst 4, 1, 0, 0, .null) := by decide +kernel
theorem g221 : zg zcL 221 = some (.iadd, 1, 0, 0, .null) := by decide +kernel
theorem g222 : zg zcL 222 = some (.iaload, 1, 0, 0, .null) := by decide +kernel
theorem g223 : zg zcL 223 = some (.aload_n 0, 1, 0, 0, .null) := by decide +kernel
theorem g224 : zg zcL 224 = some (.iload_n 3, 1, 0, 0, .null) := by decide +kernel
theorem g225 : zg zcL 225 = some (.iconst 5, 1, 0, 0, .null) := by decide +kernel
theorem g226 : zg zcL 226 = some (.iadd, 1, 0, 0, .null) := by decide +kernel
theorem g227 : zg zcL 227 = some (.iaload, 1, 0, 0, .null) := by decide +kernel
theorem g228 : zg zcL 228 = some (.invokevirtual 17, 3, 161, 0, .null) := by decide +kernel
theorem g231 : zg zcL 231 = some (.pop, 1, 0, 0, .null) := by decide +kernel
theorem g232 : zg zcL 232 = some (.goto 809, 3, 1041, 0, .null) := by decide +kernel
theorem g235 : zg zcL 235 = some (.aload_n 1, 1, 0, 0, .null) := by decide +kernel
theorem g236 : zg zcL 236 = some (.aload_n 0, 1, 0, 0, .null) := by decide +kernel
theorem g237 : zg zcL 237 = some (.iload_n 3, 1, 0, 0, .null) := by decide +kernel
theorem g238 : zg zcL 238 = some (.iconst 1, 1, 0, 0, .null) := by decide +kernel
theorem g239 : zg zcL 239 = some (.iadd, 1, 0, 0, .null) := by decide +kernel
theorem g240 : zg zcL 240 = some (.iaload, 1, 0, 0, .null) := by decide +kernel
theorem g241 : zg zcL 241 = some (.invokevirtual 18, 3, 124, 0, .null) := by decide +kernel
theorem g244 : zg zcL 244 = some (.pop, 1, 0, 0, .null) := by decide +kernel
theorem g245 : zg zcL 245 = some (.aload_n 2, 1, 0, 0, .null) := by decide +kernel
theorem g246 : zg zcL 246 = some (.aload_n 0, 1, 0, 0, .null) := by decide +kernel
theorem g247 : zg zcL 247 = some (.iload_n 3, 1, 0, 0, .null) := by decide +kernel
theorem g248 : zg zcL 248 = some (.iconst 1, 1, 0, 0, .null) := by decide +kernel
theorem g249 : zg zcL 249 = some (.iadd, 1, 0, 0, .null) := by decide +kernel
theorem g250 : zg zcL 250 = some (.iaload, 1, 0, 0, .null) := by decide +kernel
theorem g251 : zg zcL 251 = some (.invokevirtual 22, 3, 162, 0, .null) := by decide +kernel
theorem g254 : zg zcL 254 = some (.pop, 1, 0, 0, .null) := by decide +kernel
theorem g255 : zg zcL 255 = some (.goto 786, 3, 1041, 0, .null) := by decide +kernel
theorem g258 : zg zcL 258 = some (.aload_n 1, 1, 0, 0, .null) := by decide +kernel
theorem g259 : zg zcL 259 = some (.invokevirtual 23, 3, 125, 0, .null) := by decide +kernel
theorem g262 : zg zcL 262 = some (.pop, 1, 0, 0, .null) := by decide +kernel
theorem g263 : zg zcL 263 = some (.aload_n 2, 1, 0, 0, .null) := by decide +kernel
theorem g264 : zg zcL 264 = some (.invokevirtual 27, 3, 198, 0, .null) := by decide +kernel
theorem g267 : zg zcL 267 = some (.pop, 1, 0, 0, .null) := by decide +kernel
theorem g268 : zg zcL 268 = some (.goto 773, 3, 1041, 0, .null) := by decide +kernel
theorem g271 : zg zcL 271 = some (.aload_n 1, 1, 0, 0, .null) := by decide +kernel
theorem g272 : zg zcL 272 = some (.invokevirtual 28, 3, 126, 0, .null) := by decide +kernel
theorem g275 : zg zcL 275 = some (.pop, 1, 0, 0, .null) := by decide +kernel
theorem g276 : zg zcL 276 = some (.aload_n 2, 1, 0, 0, .null) := by decide +kernel
theorem g277 : zg zcL 277 = some (.invokevirtual 31, 3, 197, 0, .null) := by decide +kernel
theorem g280 : zg zcL 280 = some (.pop, 1, 0, 0, .null) := by decide +kernel
theorem g281 : zg zcL 281 = some (.goto 760, 3, 1041, 0, .null) := by decide +kernel
theorem g284 : zg zcL 284 = some (.aload_n 1, 1, 0, 0, .null) := by decide +kernel
theorem g285 : zg zcL 285 = some (.aload_n 0, 1, 0, 0, .null) := by decide +kernel
theorem g286 : zg zcL 286 = some (.iload_n 3, 1, 0, 0, .null) := by decide +kernel
theorem g287 : zg zcL 287 = some (.iconst 1, 1, 0, 0, .null) := by decide +kernel
theorem g288 : zg zcL 288 = some (.iadd, 1, 0, 0, .null) := by decide +kernel
theorem g289 : zg zcL 289 = some (.iaload, 1, 0, 0, .null) := by decide +kernel
theorem g290 : zg zcL 290 = some (.aload_n 0, 1, 0, 0, .null) := by decide +kernel
theorem g291 : zg zcL 291 = some (.iload_n 3, 1, 0, 0, .null) := by decide +kernel
theorem g292 : zg zcL 292 = some (.iconst 2, 1, 0, 0, .null) := by decide +kernel
theorem g293 : zg zcL 293 = some (.iadd, 1, 0, 0, .null) := by decide +kernel
theorem g294 : zg zcL 294 = some (.iaload, 1, 0, 0, .null) := by decide +kernel
theorem g295 : zg zcL 295 = some (.invokevirtual 32, 3, 128, 0, .null) := by decide +kernel
theorem g298 : zg zcL 298 = some (.pop, 1, 0, 0, .null) := by decide +kernel
theorem g299 : zg zcL 299 = some (.aload_n 2, 1, 0, 0, .null) := by decide +kernel
theorem g300 : zg zcL 300 = some (.aload_n 0, 1, 0, 0, .null) := by decide +kernel
theorem g301 : zg zcL 301 = some (.iload_n 3, 1, 0, 0, .null) := by decide +kernel
theorem g302 : zg zcL 302 = some (.iconst 1, 1, 0, 0, .null) := by decide +kernel
theorem g303 : zg zcL 303 = some (.iadd, 1, 0, 0, .null) := by decide +kernel
theorem g304 : zg zcL 304 = some (.iaload, 1, 0, 0, .null) := by decide +kernel
theorem g305 : zg zcL 305 = some (.aload_n 0, 1, 0, 0, .null) := by decide +kernel
theorem g306 : zg zcL 306 = some (.iload_n 3, 1, 0, 0, .null) := by decide +kernel
theorem g307 : zg zcL 307 = some (.iconst 2, 1, 0, 0, .null) := by decide +kernel
theorem g308 : zg zcL 308 = some (.iadd, 1, 0, 0, .null) := by decide +kernel
theorem g309 : zg zcL 309 = some (.iaload, 1, 0, 0, .null) := by decide +kernel
theorem g310 : zg zcL 310 = some (.invokevirtual 36, 3, 217, 0, .null) := by decide +kernel
theorem g313 : zg zcL 313 = some (.pop, 1, 0, 0, .null) := by decide +kernel
theorem g314 : zg zcL 314 = some (.goto 727, 3, 1041, 0, .null) := by decide +kernel
theorem g317 : zg zcL 317 = some (.aload_n 1, 1, 0, 0, .null) := by decide +kernel
theorem g318 : zg zcL 318 = some (.aload_n 0, 1, 0, 0, .null) := by decide +kernel
theorem g319 : zg zcL 319 = some (.iload_n 3, 1, 0, 0, .null) := by decide +kernel
theorem g320 : zg zcL 320 = some (.iconst 1, 1, 0, 0, .null) := by decide +kernel
theorem g321 : zg zcL 321 = some (.iadd, 1, 0, 0, .null) := by decide +kernel
theorem g322 : zg zcL 322 = some (.iaload, 1, 0, 0, .null) := by decide +kernel
theorem g323 : zg zcL 323 = some (.aload_n 0, 1, 0, 0, .null) := by decide +kernel
theorem g324 : zg zcL 324 = some (.iload_n 3, 1, 0, 0, .null) := by decide +kernel
theorem g325 : zg zcL 325 = some (.iconst 2, 1, 0, 0, .null) := by decide +kernel
theorem g326 : zg zcL 326 = some (.iadd, 1, 0, 0, .null) := by decide +kernel
theorem g327 : zg zcL 327 = some (.iaload, 1, 0, 0, .null) := by decide +kernel
theorem g328 : zg zcL 328 = some (.invokevirtual 37, 3, 129, 0, .null) := by decide +kernel
theorem g331 : zg zcL 331 = some (.pop, 1, 0, 0, .null) := by decide +kernel
theorem g332 : zg zcL 332 = some (.aload_n 2, 1, 0, 0, .null) := by decide +kernel
theorem g333 : zg zcL 333 = some (.aload_n 0, 1, 0, 0, .null) := by decide +kernel
theorem g334 : zg zcL 334 = some (.iload_n 3, 1, 0, 0, .null) := by decide +kernel
theorem g335 : zg zcL 335 = some (.iconst 1, 1, 0, 0, .null) := by decide +kernel
theorem g336 : zg zcL 336 = some (.iadd, 1, 0, 0, .null) := by decide +kernel
theorem g337 : zg zcL 337 = some (.iaload, 1, 0, 0, .null) := by decide +kernel
theorem g338 : zg zcL 338 = some (.aload_n 0, 1, 0, 0, .null) := by decide +kernel
theorem g339 : zg zcL 339 = some (.iload_n 3, 1, 0, 0, .null) := by decide +kernel
theorem g340 : zg zcL 340 = some (.iconst 2, 1, 0, 0, .null) := by decide +kernel
theorem g341 : zg zcL 341 = some (.iadd, 1, 0, 0, .null) := by decide +kernel
theorem g342 : zg zcL 342 = some (.iaload, 1, 0, 0, .null) := by decide +kernel
theorem g343 : zg zcL 343 = some (.invokevirtual 40, 3, 218, 0, .null) := by decide +kernel
theorem g346 : zg zcL 346 = some (.pop, 1, 0, 0, .null) := by decide +kernel
theorem g347 : zg zcL 347 = some (.goto 694, 3, 1041, 0, .null) := by decide +kernel
theorem g350 : zg zcL 350 = some (.aload_n 1, 1, 0, 0, .null) := by decide +kernel
theorem g351 : zg zcL 351 = some (.aload_n 0, 1, 0, 0, .null) := by decide +kernel
theorem g352 : zg zcL 352 = some (.iload_n 3, 1, 0, 0, .null) := by decide +kernel
theorem g353 : zg zcL 353 = some (.iconst 1, 1, 0, 0, .null) := by decide +kernel
theorem g354 : zg zcL 354 = some (.iadd, 1, 0, 0, .null) := by decide +kernel
theorem g355 : zg zcL 355 = some (.iaload, 1, 0, 0, .null) := by decide +kernel
theorem g356 : zg zcL 356 = some (.aload_n 0, 1, 0, 0, .null) := by decide +kernel
theorem g357 : zg zcL 357 = some (.iload_n 3, 1, 0, 0, .null) := by decide +kernel
theorem g358 : zg zcL 358 = some (.iconst 2, 1, 0, 0, .null) := by decide +kernel
theorem g359 : zg zcL 359 = some (.iadd, 1, 0, 0, .null) := by decide +kernel
theorem g360 : zg zcL 360 = some (.iaload, 1, 0, 0, .null) := by decide +kernel
theorem g361 : zg zcL 361 = some (.aload_n 0, 1, 0, 0, .null) := by decide +kernel
theorem g362 : zg zcL 362 = some (.iload_n 3, 1, 0, 0, .null) := by decide +kernel
theorem g363 : zg zcL 363 = some (.iconst 3, 1, 0, 0, .null) := by decide +kernel
theorem g364 : zg zcL 364 = some (.iadd, 1, 0, 0, .null) := by decide +kernel
theorem g365 : zg zcL 365 = some (.iaload, 1, 0, 0, .null) := by decide +kernel
theorem g366 : zg zcL 366 = some (.invokevirtual 41, 3, 130, 0, .null) := by decide +kernel
theorem g369 : zg zcL 369 = some (.pop, 1, 0, 0, .null) := by decide +kernel
theorem g370 : zg zcL 370 = some (.aload_n 2, 1, 0, 0, .null) := by decide +kernel
theorem g371 : zg zcL 371 = some (.aload_n 0, 1, 0, 0, .null) := by decide +kernel
theorem g372 : zg zcL 372 = some (.iload_n 3, 1, 0, 0, .null) := by decide +kernel
theorem g373 : zg zcL 373 = some (.iconst 1, 1, 0, 0, .null) := by decide +kernel
theorem g374 : zg zcL 374 = some (.iadd, 1, 0, 0, .null) := by decide +kernel
theorem g375 : zg zcL 375 = some (.iaload, 1, 0, 0, .null) := by decide +kernel
theorem g376 : zg zcL 376 = some (.aload_n 0, 1, 0, 0, .null) := by decide +kernel
theorem g377 : zg zcL 377 = some (.iload_n 3, 1, 0, 0, .null) := by decide +kernel
theorem g378 : zg zcL 378 = some (.iconst 2, 1, 0, 0, .null) := by decide +kernel
theorem g379 : zg zcL 379 = some (.iadd, 1, 0, 0, .null) := by decide +kernel
theorem g380 : zg zcL 380 = some (.iaload, 1, 0, 0, .null) := by decide +kernel
theorem g381 : zg zcL 381 = some (.aload_n 0, 1, 0, 0, .null) := by decide +kernel
theorem g382 : zg zcL 382 = some (.iload_n 3, 1, 0, 0, .null) := by decide +kernel
theorem g383 : zg zcL 383 = some (.iconst 3, 1, 0, 0, .null) := by decide +kernel
theorem g384 : zg zcL 384 = some (.iadd, 1, 0, 0, .null) := by decide +kernel
theorem g385 : zg zcL 385 = some (.iaload, 1, 0, 0, .null) := by decide +kernel
theorem g386 : zg zcL 386 = some (.invokevirtual 45, 3, 219, 0, .null) := by decide +kernel
theorem g389 : zg zcL 389 = some (.pop, 1, 0, 0, .null) := by decide +kernel
theorem g390 : zg zcL 390 = some (.goto 651, 3, 1041, 0, .null) := by decide +kernel
theorem g393 : zg zcL 393 = some (.aload_n 1, 1, 0, 0, .null) := by decide +kernel
theorem g394 : zg zcL 394 = some (.aload_n 0, 1, 0, 0, .null) := by decide +kernel
theorem g395 : zg zcL 395 = some (.iload_n 3, 1, 0, 0, .null) := by decide +kernel
theorem g396 : zg zcL 396 = some (.iconst 1, 1, 0, 0, .null) := by decide +kernel
theorem g397 : zg zcL 397 = some (.iadd, 1, 0, 0, .null) := by decide +kernel
theorem g398 : zg zcL 398 = some (.iaload, 1, 0, 0, .null) := by decide +kernel
theorem g399 : zg zcL 399 = some (.aload_n 0, 1, 0, 0, .null) := by decide +kernel
theorem g400 : zg zcL 400 = some (.iload_n 3, 1, 0, 0, .null) := by decide +kernel
theorem g401 : zg zcL 401 = some (.iconst 2, 1, 0, 0, .null) := by decide +kernel
theorem g402 : zg zcL 402 = some (.iadd, 1, 0, 0, .null) := by decide +kernel
theorem g403 : zg zcL 403 = some (.iaload, 1, 0, 0, .null) := by decide +kernel
theorem g404 : zg zcL 404 = some (.invokevirtual 46, 3, 131, 0, .null) := by decide +kernel
theorem g407 : zg zcL 407 = some (.pop, 1, 0, 0, .null) := by decide +kernel
theorem g408 : zg zcL 408 = some (.aload_n 2, 1, 0, 0, .null) := by decide +kernel
theorem g409 : zg zcL 409 = some (.aload_n 0, 1, 0, 0, .null) := by decide +kernel
theorem g410 : zg zcL 410 = some (.iload_n 3, 1, 0, 0, .null) := by decide +kernel
theorem g411 : zg zcL 411 = some (.iconst 1, 1, 0, 0, .null) := by decide +kernel
theorem g412 : zg zcL 412 = some (.iadd, 1, 0, 0, .null) := by decide +kernel
theorem g413 : zg zcL 413 = some (.iaload, 1, 0, 0, .null) := by decide +kernel
theorem g414 : zg zcL 414 = some (.aload_n 0, 1, 0, 0, .null) := by decide +kernel
theorem g415 : zg zcL 415 = some (.iload_n 3, 1, 0, 0, .null) := by decide +kernel
theorem g416 : zg zcL 416 = some (.iconst 2, 1, 0, 0, .null) := by decide +kernel
theorem g417 : zg zcL 417 = some (.iadd, 1, 0, 0, .null) := by decide +kernel
theorem g418 : zg zcL 418 = some (.iaload, 1, 0, 0, .null) := by decide +kernel
theorem g419 : zg zcL 419 = some (.invokevirtual 49, 3, 226, 0, .null) := by decide +kernel
theorem g422 : zg zcL 422 = some (.pop, 1, 0, 0, .null) := by decide +kernel
theorem g423 : zg zcL 423 = some (.goto 618, 3, 1041, 0, .null) := by decide +kernel
theorem g426 : zg zcL 426 = some (.aload_n 1, 1, 0, 0, .null) := by decide +kernel
theorem g427 : zg zcL 427 = some (.aload_n 0, 1, 0, 0, .null) := by decide +kernel
theorem g428 : zg zcL 428 = some (.iload_n 3, 1, 0, 0, .null) := by decide +kernel
theorem g429 : zg zcL 429 = some (.iconst 1, 1, 0, 0, .null) := by decide +kernel
theorem g430 : zg zcL 430 = some (.iadd, 1, 0, 0, .null) := by decide +kernel
theorem g431 : zg zcL 431 = some (.iaload, 1, 0, 0, .null) := by decide +kernel
theorem g432 : zg zcL 432 = some (.invokevirtual 50, 3, 132, 0, .null) := by decide +kernel
theorem g435 : zg zcL 435 = some (.pop, 1, 0, 0, .null) := by decide +kernel
theorem g436 : zg zcL 436 = some (.aload_n 2, 1, 0, 0, .null) := by decide +kernel
theorem g437 : zg zcL 437 = some (.aload_n 0, 1, 0, 0, .null) := by decide +kernel
theorem g438 : zg zcL 438 = some (.iload_n 3, 1, 0, 0, .null) := by decide +kernel
theorem g439 : zg zcL 439 = some (.iconst 1, 1, 0, 0, .null) := by decide +kernel
theorem g440 : zg zcL 440 = some (.iadd, 1, 0, 0, .null) := by decide +kernel
theorem g441 : zg zcL 441 = some (.iaload, 1, 0, 0, .null) := by decide +kernel
theorem g442 : zg zcL 442 = some (.invokevirtual 53, 3, 227, 0, .null) := by decide +kernel
theorem g445 : zg zcL 445 = some (.pop, 1, 0, 0, .null) := by decide +kernel
theorem g446 : zg zcL 446 = some (.goto 595, 3, 1041, 0, .null) := by decide +kernel
theorem g449 : zg zcL 449 = some (.aload_n 1, 1, 0, 0, .null) := by decide +kernel
theorem g450 : zg zcL 450 = some (.aload_n 0, 1, 0, 0, .null) := by decide +kernel
theorem g451 : zg zcL 451 = some (.iload_n 3, 1, 0, 0, .null) := by decide +kernel
theorem g452 : zg zcL 452 = some (.iconst 1, 1, 0, 0, .null) := by decide +kernel
theorem g453 : zg zcL 453 = some (.iadd, 1, 0, 0, .null) := by decide +kernel
theorem g454 : zg zcL 454 = some (.iaload, 1, 0, 0, .null) := by decide +kernel
theorem g455 : zg zcL 455 = some (.invokevirtual 54, 3, 133, 0, .null) := by decide +kernel
theorem g458 : zg zcL 458 = some (.pop, 1, 0, 0, .null) := by decide +kernel
theorem g459 : zg zcL 459 = some (.aload_n 2, 1, 0, 0, .null) := by decide +kernel
theorem g460 : zg zcL 460 = some (.aload_n 0, 1, 0, 0, .null) := by decide +kernel
theorem g461 : zg zcL 461 = some (.iload_n 3, 1, 0, 0, .null) := by decide +kernel
theorem g462 : zg zcL 462 = some (.iconst 1, 1, 0, 0, .null) := by decide +kernel
theorem g463 : zg zcL 463 = some (.iadd, 1, 0, 0, .null) := by decide +kernel
theorem g464 : zg zcL 464 = some (.iaload, 1, 0, 0, .null) := by decide +kernel
theorem g465 : zg zcL 465 = some (.invokevirtual 57, 3, 228, 0, .null) := by decide +kernel
theorem g468 : zg zcL 468 = some (.pop, 1, 0, 0, .null) := by decide +kernel
theorem g469 : zg zcL 469 = some (.goto 572, 3, 1041, 0, .null) := by decide +kernel
theorem g472 : zg zcL 472 = some (.aload_n 1, 1, 0, 0, .null) := by decide +kernel
theorem g473 : zg zcL 473 = some (.aload_n 0, 1, 0, 0, .null) := by decide +kernel
theorem g474 : zg zcL 474 = some (.iload_n 3, 1, 0, 0, .null) := by decide +kernel
theorem g475 : zg zcL 475 = some (.iconst 1, 1, 0, 0, .null) := by decide +kernel
theorem g476 : zg zcL 476 = some (.iadd, 1, 0, 0, .null) := by decide +kernel
theorem g477 : zg zcL 477 = some (.iaload, 1, 0, 0, .null) := by decide +kernel
theorem g478 : zg zcL 478 = some (.aload_n 0, 1, 0, 0, .null) := by decide +kernel
theorem g479 : zg zcL 479 = some (.iload_n 3, 1, 0, 0, .null) := by decide +kernel
theorem g480 : zg zcL 480 = some (.iconst 2, 1, 0, 0, .null) := by decide +kernel
theorem g481 : zg zcL 481 = some (.iadd, 1, 0, 0, .null) := by decide +kernel
theorem g482 : zg zcL 482 = some (.iaload, 1, 0, 0, .null) := by decide +kernel
theorem g483 : zg zcL 483 = some (.invokevirtual 58, 3, 134, 0, .null) := by decide +kernel
theorem g486 : zg zcL 486 = some (.pop, 1, 0, 0, .null) := by decide +kernel
theorem g487 : zg zcL 487 = some (.aload_n 2, 1, 0, 0, .null) := by decide +kernel
theorem g488 : zg zcL 488 = some (.aload_n 0, 1, 0, 0, .null) := by decide +kernel
theorem g489 : zg zcL 489 = some (.iload_n 3, 1, 0, 0, .null) := by decide +kernel
theorem g490 : zg zcL 490 = some (.iconst 1, 1, 0, 0, .null) := by decide +kernel
theorem g491 : zg zcL 491 = some (.iadd, 1, 0, 0, .null) := by decide +kernel
theorem g492 : zg zcL 492 = some (.iaload, 1, 0, 0, .null) := by decide +kernel
theorem g493 : zg zcL 493 = some (.aload_n 0, 1, 0, 0, .null) := by decide +kernel
theorem g494 : zg zcL 494 = some (.iload_n 3, 1, 0, 0, .null) := by decide +kernel
theorem g495 : zg zcL 495 = some (.iconst 2, 1, 0, 0, .null) := by decide +kernel
theorem g496 : zg zcL 496 = some (.iadd, 1, 0, 0, .null) := by decide +kernel
theorem g497 : zg zcL 497 = some (.iaload, 1, 0, 0, .null) := by decide +kernel
theorem g498 : zg zcL 498 = some (.invokevirtual 62, 3, 230, 0, .null) := by decide +kernel
theorem g501 : zg zcL 501 = some (.pop, 1, 0, 0, .null) := by decide +kernel
theorem g502 : zg zcL 502 = some (.goto 539, 3, 1041, 0, .null) := by decide +kernel
theorem g505 : zg zcL 505 = some (.aload_n 1, 1, 0, 0, .null) := by decide +kernel
theorem g506 : zg zcL 506 = some (.invokevirtual 63, 3, 135, 0, .null) := by decide +kernel
theorem g509 : zg zcL 509 = some (.aload_n 2, 1, 0, 0, .null) := by decide +kernel
theorem g510 : zg zcL 510 = some (.invokevirtual 66, 3, 242, 0, .null) := by decide +kernel
theorem g513 : zg zcL 513 = some (.if_icmp .eq 528, 3, 1041, 0, .null) := by decide +kernel
theorem g518 : zg zcL 518 = some (.aload_n 1, 1, 0, 0, .null) := by decide +kernel
theorem g519 : zg zcL 519 = some (.aload_n 0, 1, 0, 0, .null) := by decide +kernel
theorem g520 : zg zcL 520 = some (.iload_n 3, 1, 0, 0, .null) := by decide +kernel
theorem g521 : zg zcL 521 = some (.iconst 1, 1, 0, 0, .null) := by decide +kernel
theorem g522 : zg zcL 522 = some (.iadd, 1, 0, 0, .null) := by decide +kernel
theorem g523 : zg zcL 523 = some (.iaload, 1, 0, 0, .null) := by decide +kernel
theorem g524 : zg zcL 524 = some (.aload_n 0, 1, 0, 0, .null) := by decide +kernel
theorem g525 : zg zcL 525 = some (.iload_n 3, 1, 0, 0, .null) := by decide +kernel
theorem g526 : zg zcL 526 = some (.iconst 2, 1, 0, 0, .null) := by decide +kernel
theorem g527 : zg zcL 527 = some (.iadd, 1, 0, 0, .null) := by decide +kernel
theorem g528 : zg zcL 528 = some (.iaload, 1, 0, 0, .null) := by decide +kernel
theorem g529 : zg zcL 529 = some (.invokevirtual 67, 3, 136, 0, .null) := by decide +kernel
theorem g532 : zg zcL 532 = some (.pop, 1, 0, 0, .null) := by decide +kernel
theorem g533 : zg zcL 533 = some (.aload_n 2, 1, 0, 0, .null) := by decide +kernel
theorem g534 : zg zcL 534 = some (.aload_n 0, 1, 0, 0, .null) := by decide +kernel
theorem g535 : zg zcL 535 = some (.iload_n 3, 1, 0, 0, .null) := by decide +kernel
theorem g536 : zg zcL 536 = some (.iconst 1, 1, 0, 0, .null) := by decide +kernel
theorem g537 : zg zcL 537 = some (.iadd, 1, 0, 0, .null) := by decide +kernel
theorem g538 : zg zcL 538 = some (.iaload, 1, 0, 0, .null) := by decide +kernel
theorem g539 : zg zcL 539 = some (.aload_n 0, 1, 0, 0, .null) := by decide +kernel
theorem g540 : zg zcL 540 = some (.iload_n 3, 1, 0, 0, .null) := by decide +kernel
theorem g541 : zg zcL 541 = some (.iconst 2, 1, 0, 0, .null) := by decide +kernel
theorem g542 : zg zcL 542 = some (.iadd, 1, 0, 0, .null) := by decide +kernel
theorem g543 : zg zcL 543 = some (.iaload, 1, 0, 0, .null) := by decide +kernel
theorem g544 : zg zcL 544 = some (.invokevirtual 70, 3, 232, 0, .null) := by decide +kernel
theorem g547 : zg zcL 547 = some (.pop, 1, 0, 0, .null) := by decide +kernel
theorem g548 : zg zcL 548 = some (.goto 493, 3, 1041, 0, .null) := by decide +kernel
theorem g551 : zg zcL 551 = some (.aload_n 1, 1, 0, 0, .null) := by decide +kernel
theorem g552 : zg zcL 552 = some (.invokevirtual 71, 3, 137, 0, .null) := by decide +kernel
theorem g555 : zg zcL 555 = some (.pop, 1, 0, 0, .null) := by decide +kernel
theorem g556 : zg zcL 556 = some (.aload_n 2, 1, 0, 0, .null) := by decide +kernel
theorem g557 : zg zcL 557 = some (.invokevirtual 74, 3, 234, 0, .null) := by decide +kernel
theorem g560 : zg zcL 560 = some (.pop, 1, 0, 0, .null) := by decide +kernel
theorem g561 : zg zcL 561 = some (.goto 480, 3, 1041, 0, .null) := by decide +kernel
theorem g564 : zg zcL 564 = some (.aload_n 1, 1, 0, 0, .null) := by decide +kernel
theorem g565 : zg zcL 565 = some (.invokevirtual 75, 3, 138, 0, .null) := by decide +kernel
theorem g568 : zg zcL 568 = some (.pop, 1, 0, 0, .null) := by decide +kernel
theorem g569 : zg zcL 569 = some (.aload_n 2, 1, 0, 0, .null) := by decide +kernel
theorem g570 : zg zcL 570 = some (.invokevirtual 78, 3, 221, 0, .null) := by decide +kernel
theorem g573 : zg zcL 573 = some (.pop, 1, 0, 0, .null) := by decide +kernel
theorem g574 : zg zcL 574 = some (.goto 467, 3, 1041, 0, .null) := by decide +kernel
theorem g577 : zg zcL 577 = some (.aload_n 1, 1, 0, 0, .null) := by decide +kernel
theorem g578 : zg zcL 578 = some (.aload_n 0, 1, 0, 0, .null) := by decide +kernel
theorem g579 : zg zcL 579 = some (.iload_n 3, 1, 0, 0, .null) := by decide +kernel
theorem g580 : zg zcL 580 = some (.iconst 1, 1, 0, 0, .null) := by decide +kernel
theorem g581 : zg zcL 581 = some (.iadd, 1, 0, 0, .null) := by decide +kernel
theorem g582 : zg zcL 582 = some (.iaload, 1, 0, 0, .null) := by decide +kernel
theorem g583 : zg zcL 583 = some (.aload_n 0, 1, 0, 0, .null) := by decide +kernel
theorem g584 : zg zcL 584 = some (.iload_n 3, 1, 0, 0, .null) := by decide +kernel
theorem g585 : zg zcL 585 = some (.iconst 2, 1, 0, 0, .null) := by decide +kernel
theorem g586 : zg zcL 586 = some (.iadd, 1, 0, 0, .null) := by decide +kernel
theorem g587 : zg zcL 587 = some (.iaload, 1, 0, 0, .null) := by decide +kernel
theorem g588 : zg zcL 588 = some (.invokevirtual 79, 3, 139, 0, .null) := by decide +kernel
theorem g591 : zg zcL 591 = some (.pop, 1, 0, 0, .null) := by decide +kernel
theorem g592 : zg zcL 592 = some (.aload_n 2, 1, 0, 0, .null) := by decide +kernel
theorem g593 : zg zcL 593 = some (.aload_n 0, 1, 0, 0, .null) := by decide +kernel
theorem g594 : zg zcL 594 = some (.iload_n 3, 1, 0, 0, .null) := by decide +kernel
theorem g595 : zg zcL 595 = some (.iconst 1, 1, 0, 0, .null) := by decide +kernel
theorem g596 : zg zcL 596 = some (.iadd, 1, 0, 0, .null) := by decide +kernel
theorem g597 : zg zcL 597 = some (.iaload, 1, 0, 0, .null) := by decide +kernel
theorem g598 : zg zcL 598 = some (.aload_n 0, 1, 0, 0, .null) := by decide +kernel
theorem g599 : zg zcL 599 = some (.iload_n 3, 1, 0, 0, .null) := by decide +kernel
theorem g600 : zg zcL 600 = some (.iconst 2, 1, 0, 0, .null) := by decide +kernel
theorem g601 : zg zcL 601 = some (.iadd, 1, 0, 0, .null) := by decide +kernel
theorem g602 : zg zcL 602 = some (.iaload, 1, 0, 0, .null) := by decide +kernel
theorem g603 : zg zcL 603 = some (.invokevirtual 82, 3, 248, 0, .null) := by decide +kernel
theorem g606 : zg zcL 606 = some (.pop, 1, 0, 0, .null) := by decide +kernel
theorem g607 : zg zcL 607 = some (.goto 434, 3, 1041, 0, .null) := by decide +kernel
theorem g610 : zg zcL 610 = some (.aload_n 1, 1, 0, 0, .null) := by decide +kernel
theorem g611 : zg zcL 611 = some (.aload_n 0, 1, 0, 0, .null) := by decide +kernel
theorem g612 : zg zcL 612 = some (.iload_n 3, 1, 0, 0, .null) := by decide +kernel
theorem g613 : zg zcL 613 = some (.iconst 1, 1, 0, 0, .null) := by decide +kernel
theorem g614 : zg zcL 614 = some (.iadd, 1, 0, 0, .null) := by decide +kernel
theorem g615 : zg zcL 615 = some (.iaload, 1, 0, 0, .null) := by decide +kernel
theorem g616 : zg zcL 616 = some (.aload_n 0, 1, 0, 0, .null) := by decide +kernel
theorem g617 : zg zcL 617 = some (.iload_n 3, 1, 0, 0, .null) := by decide +kernel
theorem g618 : zg zcL 618 = some (.iconst 2, 1, 0, 0, .null) := by decide +kernel
theorem g619 : zg zcL 619 = some (.iadd, 1, 0, 0, .null) := by decide +kernel
theorem g620 : zg zcL 620 = some (.iaload, 1, 0, 0, .null) := by decide +kernel
theorem g621 : zg zcL 621 = some (.aload_n 0, 1, 0, 0, .null) := by decide +kernel
theorem g622 : zg zcL 622 = some (.iload_n 3, 1, 0, 0, .null) := by decide +kernel
theorem g623 : zg zcL 623 = some (.iconst 3, 1, 0, 0, .null) := by decide +kernel
theorem g624 : zg zcL 624 = some (.iadd, 1, 0, 0, .null) := by decide +kernel
theorem g625 : zg zcL 625 = some (.iaload, 1, 0, 0, .null) := by decide +kernel
theorem g626 : zg zcL 626 = some (.ifCond .eq 7, 3, 633, 0, .null) := by decide +kernel
theorem g629 : zg zcL 629 = some (.iconst 1, 1, 0, 0, .null) := by decide +kernel
theorem g630 : zg zcL 630 = some (.goto 4, 3, 634, 0, .null) := by decide +kernel
theorem g633 : zg zcL 633 = some (.iconst 0, 1, 0, 0, .null) := by decide +kernel
theorem g634 : zg zcL 634 = some (.aload_n 0, 1, 0, 0, .null) := by decide +kernel
theorem g635 : zg zcL 635 = some (.iload_n 3, 1, 0, 0, .null) := by decide +kernel
theorem g636 : zg zcL 636 = some (.iconst 4, 1, 0, 0, .null) := by decide +kernel
theorem g637 : zg zcL 637 = some (.iadd, 1, 0, 0, .null) := by decide +kernel
theorem g638 : zg zcL 638 = some (.iaload, 1, 0, 0, .null) := by decide +kernel
theorem g639 : zg zcL 639 = some (.invokevirtual 83, 3, 141, 0, .null) := by decide +kernel
theorem g642 : zg zcL 642 = some (.pop, 1, 0, 0, .null) := by decide +kernel
theorem g643 : zg zcL 643 = some (.aload_n 2, 1, 0, 0, .null) := by decide +kernel
theorem g644 : zg zcL 644 = some (.aload_n 0, 1, 0, 0, .null) := by decide +kernel
theorem g645 : zg zcL 645 = some (.iload_n 3, 1, 0, 0, .null) := by decide +kernel
theorem g646 : zg zcL 646 = some (.iconst 1, 1, 0, 0, .null) := by decide +kernel
theorem g647 : zg zcL 647 = some (.iadd, 1, 0, 0, .null) := by decide +kernel
theorem g648 : zg zcL 648 = some (.iaload, 1, 0, 0, .null) := by decide +kernel
theorem g649 : zg zcL 649 = some (.aload_n 0, 1, 0, 0, .null) := by decide +kernel
theorem g650 : zg zcL 650 = some (.iload_n 3, 1, 0, 0, .null) := by decide +kernel
theorem g651 : zg zcL 651 = some (.iconst 2, 1, 0, 0, .null) := by decide +kernel
theorem g652 : zg zcL 652 = some (.iadd, 1, 0, 0, .null) := by decide +kernel
theorem g653 : zg zcL 653 = some (.iaload, 1, 0, 0, .null) := by decide +kernel
theorem g654 : zg zcL 654 = some (.aload_n 0, 1, 0, 0, .null) := by decide +kernel
theorem g655 : zg zcL 655 = some (.iload_n 3, 1, 0, 0, .null) := by decide +kernel
theorem g656 : zg zcL 656 = some (.iconst 3, 1, 0, 0, .null) := by decide +kernel
theorem g657 : zg zcL 657 = some (.iadd, 1, 0, 0, .null) := by decide +kernel
theorem g658 : zg zcL 658 = some (.iaload, 1, 0, 0, .null) := by decide +kernel
theorem g659 : zg zcL 659 = some (.ifCond .eq 7, 3, 666, 0, .null) := by decide +kernel
theorem g662 : zg zcL 662 = some (.iconst 1, 1, 0, 0, .null) := by decide +kernel
theorem g663 : zg zcL 663 = some (.goto 4, 3, 667, 0, .null) := by decide +kernel
theorem g666 : zg zcL 666 = some (.iconst 0, 1, 0, 0, .null) := by decide +kernel
theorem g667 : zg zcL 667 = some (.aload_n 0, 1, 0, 0, .null) := by decide +kernel
theorem g668 : zg zcL 668 = some (.iload_n 3, 1, 0, 0, .null) := by decide +kernel
theorem g669 : zg zcL 669 = some (.iconst 4, 1, 0, 0, .null) := by decide +kernel
theorem g670 : zg zcL 670 = some (.iadd, 1, 0, 0, .null) := by decide +kernel
theorem g671 : zg zcL 671 = some (.iaload, 1, 0, 0, .null) := by decide +kernel
theorem g672 : zg zcL 672 = some (.invokevirtual 87, 3, 252, 0, .null) := by decide +kernel
theorem g675 : zg zcL 675 = some (.pop, 1, 0, 0, .null) := by decide +kernel
theorem g676 : zg zcL 676 = some (.goto 365, 3, 1041, 0, .null) := by decide +kernel
theorem g679 : zg zcL 679 = some (.aload_n 1, 1, 0, 0, .null) := by decide +kernel
theorem g680 : zg zcL 680 = some (.aload_n 0, 1, 0, 0, .null) := by decide +kernel
theorem g681 : zg zcL 681 = some (.iload_n 3, 1, 0, 0, .null) := by decide +kernel
theorem g682 : zg zcL 682 = some (.iconst 1, 1, 0, 0, .null) := by decide +kernel
theorem g683 : zg zcL 683 = some (.iadd, 1, 0, 0, .null) := by decide +kernel
theorem g684 : zg zcL 684 = some (.iaload, 1, 0, 0, .null) := by decide +kernel
theorem g685 : zg zcL 685 = some (.invokevirtual 88, 3, 142, 0, .null) := by decide +kernel
theorem g688 : zg zcL 688 = some (.pop, 1, 0, 0, .null) := by decide +kernel
theorem g689 : zg zcL 689 = some (.aload_n 2, 1, 0, 0, .null) := by decide +kernel
theorem g690 : zg zcL 690 = some (.aload_n 0, 1, 0, 0, .null) := by decide +kernel
theorem g691 : zg zcL 691 = some (.iload_n 3, 1, 0, 0, .null) := by decide +kernel
theorem g692 : zg zcL 692 = some (.iconst 1, 1, 0, 0, .null) := by decide +kernel
theorem g693 : zg zcL 693 = some (.iadd, 1, 0, 0, .null) := by decide +kernel
theorem g694 : zg zcL 694 = some (.iaload, 1, 0, 0, .null) := by decide +kernel
theorem g695 : zg zcL 695 = some (.invokevirtual 91, 3, 257, 0, .null) := by decide +kernel
theorem g698 : zg zcL 698 = some (.pop, 1, 0, 0, .null) := by decide +kernel
theorem g699 : zg zcL 699 = some (.goto 342, 3, 1041, 0, .null) := by decide +kernel
theorem g702 : zg zcL 702 = some (.aload_n 1, 1, 0, 0, .null) := by decide +kernel
theorem g703 : zg zcL 703 = some (.aload_n 0, 1, 0, 0, .null) := by decide +kernel
theorem g704 : zg zcL 704 = some (.iload_n 3, 1, 0, 0, .null) := by decide +kernel
theorem g705 : zg zcL 705 = some (.iconst 1, 1, 0, 0, .null) := by decide +kernel
theorem g706 : zg zcL 706 = some (.iadd, 1, 0, 0, .null) := by decide +kernel
theorem g707 : zg zcL 707 = some (.iaload, 1, 0, 0, .null) := by decide +kernel
theorem g708 : zg zcL 708 = some (.invokevirtual 92, 3, 143, 0, .null) := by decide +kernel
theorem g711 : zg zcL 711 = some (.pop, 1, 0, 0, .null) := by decide +kernel
theorem g712 : zg zcL 712 = some (.aload_n 2, 1, 0, 0, .null) := by decide +kernel
theorem g713 : zg zcL 713 = some (.aload_n 0, 1, 0, 0, .null) := by decide +kernel
theorem g714 : zg zcL 714 = some (.iload_n 3, 1, 0, 0, .null) := by decide +kernel
theorem g715 : zg zcL 715 = some (.iconst 1, 1, 0, 0, .null) := by decide +kernel
theorem g716 : zg zcL 716 = some (.iadd, 1, 0, 0, .null) := by decide +kernel
theorem g717 : zg zcL 717 = some (.iaload, 1, 0, 0, .null) := by decide +kernel
theorem g718 : zg zcL 718 = some (.invokevirtual 95, 3, 258, 0, .null) := by decide +kernel
theorem g721 : zg zcL 721 = some (.pop, 1, 0, 0, .null) := by decide +kernel
theorem g722 : zg zcL 722 = some (.goto 319, 3, 1041, 0, .null) := by decide +kernel
theorem g725 : zg zcL 725 = some (.aload_n 1, 1, 0, 0, .null) := by decide +kernel
theorem g726 : zg zcL 726 = some (.aload_n 0, 1, 0, 0, .null) := by decide +kernel
theorem g727 : zg zcL 727 = some (.iload_n 3, 1, 0, 0, .null) := by decide +kernel
theorem g728 : zg zcL 728 = some (.iconst 1, 1, 0, 0, .null) := by decide +kernel
theorem g729 : zg zcL 729 = some (.iadd, 1, 0, 0, .null) := by decide +kernel
theorem g730 : zg zcL 730 = some (.iaload, 1, 0, 0, .null) := by decide +kernel
theorem g731 : zg zcL 731 = some (.aload_n 0, 1, 0, 0, .null) := by decide +kernel
theorem g732 : zg zcL 732 = some (.iload_n 3, 1, 0, 0, .null) := by decide +kernel
theorem g733 : zg zcL 733 = some (.iconst 2, 1, 0, 0, .null) := by decide +kernel
theorem g734 : zg zcL 734 = some (.iadd, 1, 0, 0, .null) := by decide +kernel
theorem g735 : zg zcL 735 = some (.iaload, 1, 0, 0, .null) := by decide +kernel
theorem g736 : zg zcL 736 = some (.invokevirtual 96, 3, 144, 0, .null) := by decide +kernel
theorem g739 : zg zcL 739 = some (.pop, 1, 0, 0, .null) := by decide +kernel
theorem g740 : zg zcL 740 = some (.aload_n 2, 1, 0, 0, .null) := by decide +kernel
theorem g741 : zg zcL 741 = some (.aload_n 0, 1, 0, 0, .null) := by decide +kernel
theorem g742 : zg zcL 742 = some (.iload_n 3, 1, 0, 0, .null) := by decide +kernel
theorem g743 : zg zcL 743 = some (.iconst 1, 1, 0, 0, .null) := by decide +kernel
theorem g744 : zg zcL 744 = some (.iadd, 1, 0, 0, .null) := by decide +kernel
theorem g745 : zg zcL 745 = some (.iaload, 1, 0, 0, .null) := by decide +kernel
theorem g746 : zg zcL 746 = some (.aload_n 0, 1, 0, 0, .null) := by decide +kernel
theorem g747 : zg zcL 747 = some (.iload_n 3, 1, 0, 0, .null) := by decide +kernel
theorem g748 : zg zcL 748 = some (.iconst 2, 1, 0, 0, .null) := by decide +kernel
theorem g749 : zg zcL 749 = some (.iadd, 1, 0, 0, .null) := by decide +kernel
theorem g750 : zg zcL 750 = some (.iaload, 1, 0, 0, .null) := by decide +kernel
theorem g751 : zg zcL 751 = some (.invokevirtual 99, 3, 261, 0, .null) := by decide +kernel
theorem g754 : zg zcL 754 = some (.pop, 1, 0, 0, .null) := by decide +kernel
theorem g755 : zg zcL 755 = some (.goto 286, 3, 1041, 0, .null) := by decide +kernel
theorem g758 : zg zcL 758 = some (.aload_n 1, 1, 0, 0, .null) := by decide +kernel
theorem g759 : zg zcL 759 = some (.aload_n 0, 1, 0, 0, .null) := by decide +kernel
theorem g760 : zg zcL 760 = some (.iload_n 3, 1, 0, 0, .null) := by decide +kernel
theorem g761 : zg zcL 761 = some (.iconst 1, 1, 0, 0, .null) := by decide +kernel
theorem g762 : zg zcL 762 = some (.iadd, 1, 0, 0, .null) := by decide +kernel
theorem g763 : zg zcL 763 = some (.iaload, 1, 0, 0, .null) := by decide +kernel
theorem g764 : zg zcL 764 = some (.invokevirtual 100, 3, 145, 0, .null) := by decide +kernel
theorem g767 : zg zcL 767 = some (.pop, 1, 0, 0, .null) := by decide +kernel
theorem g768 : zg zcL 768 = some (.aload_n 2, 1, 0, 0, .null) := by decide +kernel
theorem g769 : zg zcL 769 = some (.aload_n 0, 1, 0, 0, .null) := by decide +kernel
theorem g770 : zg zcL 770 = some (.iload_n 3, 1, 0, 0, .null) := by decide +kernel
theorem g771 : zg zcL 771 = some (.iconst 1, 1, 0, 0, .null) := by decide +kernel
theorem g772 : zg zcL 772 = some (.iadd, 1, 0, 0, .null) := by decide +kernel
theorem g773 : zg zcL 773 = some (.iaload, 1, 0, 0, .null) := by decide +kernel
theorem g774 : zg zcL 774 = some (.invokevirtual 103, 3, 262, 0, .null) := by decide +kernel
theorem g777 : zg zcL 777 = some (.pop, 1, 0, 0, .null) := by decide +kernel
theorem g778 : zg zcL 778 = some (.goto 263, 3, 1041, 0, .null) := by decide +kernel
theorem g781 : zg zcL 781 = some (.aload_n 1, 1, 0, 0, .null) := by decide +kernel
theorem g782 : zg zcL 782 = some (.aload_n 0, 1, 0, 0, .null) := by decide +kernel
theorem g783 : zg zcL 783 = some (.iload_n 3, 1, 0, 0, .null) := by decide +kernel
theorem g784 : zg zcL 784 = some (.iconst 1, 1, 0, 0, .null) := by decide +kernel
theorem g785 : zg zcL 785 = some (.iadd, 1, 0, 0, .null) := by decide +kernel
theorem g786 : zg zcL 786 = some (.iaload, 1, 0, 0, .null) := by decide +kernel
theorem g787 : zg zcL 787 = some (.invokevirtual 104, 3, 146, 0, .null) := by decide +kernel
theorem g790 : zg zcL 790 = some (.pop, 1, 0, 0, .null) := by decide +kernel
theorem g791 : zg zcL 791 = some (.aload_n 2, 1, 0, 0, .null) := by decide +kernel
theorem g792 : zg zcL 792 = some (.aload_n 0, 1, 0, 0, .null) := by decide +kernel
theorem g793 : zg zcL 793 = some (.iload_n 3, 1, 0, 0, .null) := by decide +kernel
theorem g794 : zg zcL 794 = some (.iconst 1, 1, 0, 0, .null) := by decide +kernel
theorem g795 : zg zcL 795 = some (.iadd, 1, 0, 0, .null) := by decide +kernel
theorem g796 : zg zcL 796 = some (.iaload, 1, 0, 0, .null) := by decide +kernel
theorem g797 : zg zcL 797 = some (.invokevirtual 107, 3, 264, 0, .null) := by decide +kernel
theorem g800 : zg zcL 800 = some (.pop, 1, 0, 0, .null) := by decide +kernel
theorem g801 : zg zcL 801 = some (.goto 240, 3, 1041, 0, .null) := by decide +kernel
theorem g804 : zg zcL 804 = some (.aload_n 1, 1, 0, 0, .null) := by decide +kernel
theorem g805 : zg zcL 805 = some (.aload_n 0, 1, 0, 0, .null) := by decide +kernel
theorem g806 : zg zcL 806 = some (.iload_n 3, 1, 0, 0, .null) := by decide +kernel
theorem g807 : zg zcL 807 = some (.iconst 1, 1, 0, 0, .null) := by decide +kernel
theorem g808 : zg zcL 808 = some (.iadd, 1, 0, 0, .null) := by decide +kernel
theorem g809 : zg zcL 809 = some (.iaload, 1, 0, 0, .null) := by decide +kernel
theorem g810 : zg zcL 810 = some (.invokevirtual 108, 3, 147, 0, .null) := by decide +kernel
theorem g813 : zg zcL 813 = some (.pop, 1, 0, 0, .null) := by decide +kernel
theorem g814 : zg zcL 814 = some (.aload_n 2, 1, 0, 0, .null) := by decide +kernel
theorem g815 : zg zcL 815 = some (.aload_n 0, 1, 0, 0, .null) := by decide +kernel
theorem g816 : zg zcL 816 = some (.iload_n 3, 1, 0, 0, .null) := by decide +kernel
theorem g817 : zg zcL 817 = some (.iconst 1, 1, 0, 0, .null) := by decide +kernel
theorem g818 : zg zcL 818 = some (.iadd, 1, 0, 0, .null) := by decide +kernel
theorem g819 : zg zcL 819 = some (.iaload, 1, 0, 0, .null) := by decide +kernel
theorem g820 : zg zcL 820 = some (.invokevirtual 111, 3, 265, 0, .null) := by decide +kernel
theorem g823 : zg zcL 823 = some (.pop, 1, 0, 0, .null) := by decide +kernel
theorem g824 : zg zcL 824 = some (.goto 217, 3, 1041, 0, .null) := by decide +kernel
theorem g827 : zg zcL 827 = some (.aload_n 1, 1, 0, 0, .null) := by decide +kernel
theorem g828 : zg zcL 828 = some (.aload_n 0, 1, 0, 0, .null) := by decide +kernel
theorem g829 : zg zcL 829 = some (.iload_n 3, 1, 0, 0, .null) := by decide +kernel
theorem g830 : zg zcL 830 = some (.iconst 1, 1, 0, 0, .null) := by decide +kernel
theorem g831 : zg zcL 831 = some (.iadd, 1, 0, 0, .null) := by decide +kernel
theorem g832 : zg zcL 832 = some (.iaload, 1, 0, 0, .null) := by decide +kernel
theorem g833 : zg zcL 833 = some (.aload_n 0, 1, 0, 0, .null) := by decide +kernel
theorem g834 : zg zcL 834 = some (.iload_n 3, 1, 0, 0, .null) := by decide +kernel
theorem g835 : zg zcL 835 = some (.iconst 2, 1, 0, 0, .null) := by decide +kernel
theorem g836 : zg zcL 836 = some (.iadd, 1, 0, 0, .null) := by decide +kernel
theorem g837 : zg zcL 837 = some (.iaload, 1, 0, 0, .null) := by decide +kernel
theorem g838 : zg zcL 838 = some (.invokevirtual 112, 3, 148, 0, .null) := by decide +kernel
theorem g841 : zg zcL 841 = some (.pop, 1, 0, 0, .null) := by decide +kernel
theorem g842 : zg zcL 842 = some (.aload_n 2, 1, 0, 0, .null) := by decide +kernel
theorem g843 : zg zcL 843 = some (.aload_n 0, 1, 0, 0, .null) := by decide +kernel
theorem g844 : zg zcL 844 = some (.iload_n 3, 1, 0, 0, .null) := by decide +kernel
theorem g845 : zg zcL 845 = some (.iconst 1, 1, 0, 0, .null) := by decide +kernel
theorem g846 : zg zcL 846 = some (.iadd, 1, 0, 0, .null) := by decide +kernel
theorem g847 : zg zcL 847 = some (.iaload, 1, 0, 0, .null) := by decide +kernel
theorem g848 : zg zcL 848 = some (.aload_n 0, 1, 0, 0, .null) := by decide +kernel
theorem g849 : zg zcL 849 = some (.iload_n 3, 1, 0, 0, .null) := by decide +kernel
theorem g850 : zg zcL 850 = some (.iconst 2, 1, 0, 0, .null) := by decide +kernel
theorem g851 : zg zcL 851 = some (.iadd, 1, 0, 0, .null) := by decide +kernel
theorem g852 : zg zcL 852 = some (.iaload, 1, 0, 0, .null) := by decide +kernel
theorem g853 : zg zcL 853 = some (.invokevirtual 115, 3, 267, 0, .null) := by decide +kernel
theorem g856 : zg zcL 856 = some (.pop, 1, 0, 0, .null) := by decide +kernel
theorem g857 : zg zcL 857 = some (.goto 184, 3, 1041, 0, .null) := by decide +kernel
theorem g860 : zg zcL 860 = some (.aload_n 1, 1, 0, 0, .null) := by decide +kernel
theorem g861 : zg zcL 861 = some (.aload_n 0, 1, 0, 0, .null) := by decide +kernel
theorem g862 : zg zcL 862 = some (.iload_n 3, 1, 0, 0, .null) := by decide +kernel
theorem g863 : zg zcL 863 = some (.iconst 1, 1, 0, 0, .null) := by decide +kernel
theorem g864 : zg zcL 864 = some (.iadd, 1, 0, 0, .null) := by decide +kernel
theorem g865 : zg zcL 865 = some (.iaload, 1, 0, 0, .null) := by decide +kernel
theorem g866 : zg zcL 866 = some (.invokevirtual 116, 3, 149, 0, .null) := by decide +kernel
theorem g869 : zg zcL 869 = some (.pop, 1, 0, 0, .null) := by decide +kernel
theorem g870 : zg zcL 870 = some (.aload_n 2, 1, 0, 0, .null) := by decide +kernel
theorem g871 : zg zcL 871 = some (.aload_n 0, 1, 0, 0, .null) := by decide +kernel
theorem g872 : zg zcL 872 = some (.iload_n 3, 1, 0, 0, .null) := by decide +kernel
theorem g873 : zg zcL 873 = some (.iconst 1, 1, 0, 0, .null) := by decide +kernel
theorem g874 : zg zcL 874 = some (.iadd, 1, 0, 0, .null) := by decide +kernel
theorem g875 : zg zcL 875 = some (.iaload, 1, 0, 0, .null) := by decide +kernel
theorem g876 : zg zcL 876 = some (.invokevirtual 119, 3, 269, 0, .null) := by decide +kernel
theorem g879 : zg zcL 879 = some (.pop, 1, 0, 0, .null) := by decide +kernel
theorem g880 : zg zcL 880 = some (.goto 161, 3, 1041, 0, .null) := by decide +kernel
theorem g883 : zg zcL 883 = some (.aload_n 1, 1, 0, 0, .null) := by decide +kernel
theorem g884 : zg zcL 884 = some (.aload_n 0, 1, 0, 0, .null) := by decide +kernel
theorem g885 : zg zcL 885 = some (.iload_n 3, 1, 0, 0, .null) := by decide +kernel
theorem g886 : zg zcL 886 = some (.iconst 1, 1, 0, 0, .null) := by decide +kernel
theorem g887 : zg zcL 887 = some (.iadd, 1, 0, 0, .null) := by decide +kernel
theorem g888 : zg zcL 888 = some (.iaload, 1, 0, 0, .null) := by decide +kernel
theorem g889 : zg zcL 889 = some (.invokevirtual 120, 3, 150, 0, .null) := by decide +kernel
theorem g892 : zg zcL 892 = some (.pop, 1, 0, 0, .null) := by decide +kernel
theorem g893 : zg zcL 893 = some (.aload_n 2, 1, 0, 0, .null) := by decide +kernel
theorem g894 : zg zcL 894 = some (.aload_n 0, 1, 0, 0, .null) := by decide +kernel
theorem g895 : zg zcL 895 = some (.iload_n 3, 1, 0, 0, .null) := by decide +kernel
theorem g896 : zg zcL 896 = some (.iconst 1, 1, 0, 0, .null) := by decide +kernel
theorem g897 : zg zcL 897 = some (.iadd, 1, 0, 0, .null) := by decide +kernel
theorem g898 : zg zcL 898 = some (.iaload, 1, 0, 0, .null) := by decide +kernel
theorem g899 : zg zcL 899 = some (.invokevirtual 123, 3, 272, 0, .null) := by decide +kernel
theorem g902 : zg zcL 902 = some (.pop, 1, 0, 0, .null) := by decide +kernel
theorem g903 : zg zcL 903 = some (.goto 138, 3, 1041, 0, .null) := by decide +kernel
theorem g906 : zg zcL 906 = some (.aload_n 1, 1, 0, 0, .null) := by decide +kernel
theorem g907 : zg zcL 907 = some (.aload_n 0, 1, 0, 0, .null) := by decide +kernel
theorem g908 : zg zcL 908 = some (.iload_n 3, 1, 0, 0, .null) := by decide +kernel
theorem g909 : zg zcL 909 = some (.iconst 1, 1, 0, 0, .null) := by decide +kernel
theorem g910 : zg zcL 910 = some (.iadd, 1, 0, 0, .null) := by decide +kernel
theorem g911 : zg zcL 911 = some (.iaload, 1, 0, 0, .null) := by decide +kernel
theorem g912 : zg zcL 912 = some (.invokevirtual 124, 3, 152, 0, .null) := by decide +kernel
theorem g915 : zg zcL 915 = some (.pop, 1, 0, 0, .null) := by decide +kernel
theorem g916 : zg zcL 916 = some (.aload_n 2, 1, 0, 0, .null) := by decide +kernel
theorem g917 : zg zcL 917 = some (.aload_n 0, 1, 0, 0, .null) := by decide +kernel
theorem g918 : zg zcL 918 = some (.iload_n 3, 1, 0, 0, .null) := by decide +kernel
theorem g919 : zg zcL 919 = some (.iconst 1, 1, 0, 0, .null) := by decide +kernel
theorem g920 : zg zcL 920 = some (.iadd, 1, 0, 0, .null) := by decide +kernel
theorem g921 : zg zcL 921 = some (.iaload, 1, 0, 0, .null) := by decide +kernel
theorem g922 : zg zcL 922 = some (.invokevirtual 127, 3, 273, 0, .null) := by decide +kernel
theorem g925 : zg zcL 925 = some (.pop, 1, 0, 0, .null) := by decide +kernel
theorem g926 : zg zcL 926 = some (.goto 115, 3, 1041, 0, .null) := by decide +kernel
theorem g929 : zg zcL 929 = some (.aload_n 1, 1, 0, 0, .null) := by decide +kernel
theorem g930 : zg zcL 930 = some (.aload_n 0, 1, 0, 0, .null) := by decide +kernel
theorem g931 : zg zcL 931 = some (.iload_n 3, 1, 0, 0, .null) := by decide +kernel
theorem g932 : zg zcL 932 = some (.iconst 1, 1, 0, 0, .null) := by decide +kernel
theorem g933 : zg zcL 933 = some (.iadd, 1, 0, 0, .null) := by decide +kernel
theorem g934 : zg zcL 934 = some (.iaload, 1, 0, 0, .null) := by decide +kernel
theorem g935 : zg zcL 935 = some (.aload_n 0, 1, 0, 0, .null) := by decide +kernel
theorem g936 : zg zcL 936 = some (.iload_n 3, 1, 0, 0, .null) := by decide +kernel
theorem g937 : zg zcL 937 = some (.iconst 2, 1, 0, 0, .null) := by decide +kernel
theorem g938 : zg zcL 938 = some (.iadd, 1, 0, 0, .null) := by decide +kernel
theorem g939 : zg zcL 939 = some (.iaload, 1, 0, 0, .null) := by decide +kernel
theorem g940 : zg zcL 940 = some (.aload_n 0, 1, 0, 0, .null) := by decide +kernel
theorem g941 : zg zcL 941 = some (.iload_n 3, 1, 0, 0, .null) := by decide +kernel
theorem g942 : zg zcL 942 = some (.iconst 3, 1, 0, 0, .null) := by decide +kernel
theorem g943 : zg zcL 943 = some (.iadd, 1, 0, 0, .null) := by decide +kernel
theorem g944 : zg zcL 944 = some (.iaload, 1, 0, 0, .null) := by decide +kernel
theorem g945 : zg zcL 945 = some (.invokevirtual 128, 3, 153, 0, .null) := by decide +kernel
theorem g948 : zg zcL 948 = some (.pop, 1, 0, 0, .null) := by decide +kernel
theorem g949 : zg zcL 949 = some (.aload_n 2, 1, 0, 0, .null) := by decide +kernel
theorem g950 : zg zcL 950 = some (.aload_n 0, 1, 0, 0, .null) := by decide +kernel
theorem g951 : zg zcL 951 = some (.iload_n 3, 1, 0, 0, .null) := by decide +kernel
theorem g952 : zg zcL 952 = some (.iconst 1, 1, 0, 0, .null) := by decide +kernel
theorem g953 : zg zcL 953 = some (.iadd, 1, 0, 0, .null) := by decide +kernel
theorem g954 : zg zcL 954 = some (.iaload, 1, 0, 0, .null) := by decide +kernel
theorem g955 : zg zcL 955 = some (.aload_n 0, 1, 0, 0, .null) := by decide +kernel
theorem g956 : zg zcL 956 = some (.iload_n 3, 1, 0, 0, .null) := by decide +kernel
theorem g957 : zg zcL 957 = some (.iconst 2, 1, 0, 0, .null) := by decide +kernel
theorem g958 : zg zcL 958 = some (.iadd, 1, 0, 0, .null) := by decide +kernel
theorem g959 : zg zcL 959 = some (.iaload, 1, 0, 0, .null) := by decide +kernel
theorem g960 : zg zcL 960 = some (.aload_n 0, 1, 0, 0, .null) := by decide +kernel
theorem g961 : zg zcL 961 = some (.iload_n 3, 1, 0, 0, .null) := by decide +kernel
theorem g962 : zg zcL 962 = some (.iconst 3, 1, 0, 0, .null) := by decide +kernel
theorem g963 : zg zcL 963 = some (.iadd, 1, 0, 0, .null) := by decide +kernel
theorem g964 : zg zcL 964 = some (.iaload, 1, 0, 0, .null) := by decide +kernel
theorem g965 : zg zcL 965 = some (.invokevirtual 131, 3, 276, 0, .null) := by decide +kernel
theorem g968 : zg zcL 968 = some (.pop, 1, 0, 0, .null) := by decide +kernel
theorem g969 : zg zcL 969 = some (.goto 72, 3, 1041, 0, .null) := by decide +kernel
theorem g972 : zg zcL 972 = some (.aload_n 1, 1, 0, 0, .null) := by decide +kernel
theorem g973 : zg zcL 973 = some (.aload_n 0, 1, 0, 0, .null) := by decide +kernel
theorem g974 : zg zcL 974 = some (.iload_n 3, 1, 0, 0, .null) := by decide +kernel
theorem g975 : zg zcL 975 = some (.iconst 1, 1, 0, 0, .null) := by decide +kernel
theorem g976 : zg zcL 976 = some (.iadd, 1, 0, 0, .null) := by decide +kernel
theorem g977 : zg zcL 977 = some (.iaload, 1, 0, 0, .null) := by decide +kernel
theorem g978 : zg zcL 978 = some (.invokevirtual 132, 3, 154, 0, .null) := by decide +kernel
theorem g981 : zg zcL 981 = some (.pop, 1, 0, 0, .null) := by decide +kernel
theorem g982 : zg zcL 982 = some (.aload_n 2, 1, 0, 0, .null) := by decide +kernel
theorem g983 : zg zcL 983 = some (.aload_n 0, 1, 0, 0, .null) := by decide +kernel
theorem g984 : zg zcL 984 = some (.iload_n 3, 1, 0, 0, .null) := by decide +kernel
theorem g985 : zg zcL 985 = some (.iconst 1, 1, 0, 0, .null) := by decide +kernel
theorem g986 : zg zcL 986 = some (.iadd, 1, 0, 0, .null) := by decide +kernel
theorem g987 : zg zcL 987 = some (.iaload, 1, 0, 0, .null) := by decide +kernel
theorem g988 : zg zcL 988 = some (.invokevirtual 135, 3, 277, 0, .null) := by decide +kernel
theorem g991 : zg zcL 991 = some (.pop, 1, 0, 0, .null) := by decide +kernel
theorem g992 : zg zcL 992 = some (.goto 49, 3, 1041, 0, .null) := by decide +kernel
theorem g995 : zg zcL 995 = some (.aload_n 1, 1, 0, 0, .null) := by decide +kernel
theorem g996 : zg zcL 996 = some (.aload_n 0, 1, 0, 0, .null) := by decide +kernel
theorem g997 : zg zcL 997 = some (.iload_n 3, 1, 0, 0, .null) := by decide +kernel
theorem g998 : zg zcL 998 = some (.iconst 1, 1, 0, 0, .null) := by decide +kernel
theorem g999 : zg zcL 999 = some (.iadd, 1, 0, 0, .null) := by decide +kernel
theorem g1000 : zg zcL 1000 = some (.iaload, 1, 0, 0, .null) := by decide +kernel
theorem g1001 : zg zcL 1001 = some (.invokevirtual 136, 3, 155, 0, .null) := by decide +kernel
theorem g1004 : zg zcL 1004 = some (.pop, 1, 0, 0, .null) := by decide +kernel
theorem g1005 : zg zcL 1005 = some (.aload_n 2, 1, 0, 0, .null) := by decide +kernel
theorem g1006 : zg zcL 1006 = some (.aload_n 0, 1, 0, 0, .null) := by decide +kernel
theorem g1007 : zg zcL 1007 = some (.iload_n 3, 1, 0, 0, .null) := by decide +kernel
theorem g1008 : zg zcL 1008 = some (.iconst 1, 1, 0, 0, .null) := by decide +kernel
theorem g1009 : zg zcL 1009 = some (.iadd, 1, 0, 0, .null) := by decide +kernel
theorem g1010 : zg zcL 1010 = some (.iaload, 1, 0, 0, .null) := by decide +kernel
theorem g1011 : zg zcL 1011 = some (.invokevirtual 139, 3, 278, 0, .null) := by decide +kernel
theorem g1014 : zg zcL 1014 = some (.pop, 1, 0, 0, .null) := by decide +kernel
theorem g1015 : zg zcL 1015 = some (.goto 26, 3, 1041, 0, .null) := by decide +kernel
theorem g1018 : zg zcL 1018 = some (.aload_n 1, 1, 0, 0, .null) := by decide +kernel
theorem g1019 : zg zcL 1019 = some (.aload_n 0, 1, 0, 0, .null) := by decide +kernel
theorem g1020 : zg zcL 1020 = some (.iload_n 3, 1, 0, 0, .null) := by decide +kernel
theorem g1021 : zg zcL 1021 = some (.iconst 1, 1, 0, 0, .null) := by decide +kernel
theorem g1022 : zg zcL 1022 = some (.iadd, 1, 0, 0, .null) := by decide +kernel
theorem g1023 : zg zcL 1023 = some (.iaload, 1, 0, 0, .null) := by decide +kernel
theorem g1024 : zg zcL 1024 = some (.invokevirtual 140, 3, 156, 0, .null) := by decide +kernel
theorem g1027 : zg zcL 1027 = some (.pop, 1, 0, 0, .null) := by decide +kernel
theorem g1028 : zg zcL 1028 = some (.aload_n 2, 1, 0, 0, .null) := by decide +kernel
theorem g1029 : zg zcL 1029 = some (.aload_n 0, 1, 0, 0, .null) := by decide +kernel
theorem g1030 : zg zcL 1030 = some (.iload_n 3, 1, 0, 0, .null) := by decide +kernel
theorem g1031 : zg zcL 1031 = some (.iconst 1, 1, 0, 0, .null) := by decide +kernel
theorem g1032 : zg zcL 1032 = some (.iadd, 1, 0, 0, .null) := by decide +kernel
theorem g1033 : zg zcL 1033 = some (.iaload, 1, 0, 0, .null) := by decide +kernel
theorem g1034 : zg zcL 1034 = some (.invokevirtual 143, 3, 279, 0, .null) := by decide +kernel
theorem g1037 : zg zcL 1037 = some (.pop, 1, 0, 0, .null) := by decide +kernel
theorem g1038 : zg zcL 1038 = some (.goto 3, 3, 1041, 0, .null) := by decide +kernel
/-! A turn of the law, case by case. -/
section LTU
variable {L : Nat} {xs : Nat → Int32} {hp hp1 hp2 : zHp} {lv : List (Nat × Value)} {i x1 x2 : Int32} {I : Nat} {r : zRe} {st : List Value}
theorem l_arg {pc : Nat} {k : Nat} (h1 : zg zcL pc = some (.aload_n 0, 1, 0, 0, .null)) (h2 : zg zcL (pc + 1) = some (.iload_n 3, 1, 0, 0, .null)) (h3 : zg zcL (pc + 2) = some (.iconst (k : Int), 1, 0, 0, .null)) (h4 : zg zcL (pc + 3) = some (.iadd, 1, 0, 0, .null)) (h5 : zg zcL (pc + 4) = some (.iaload, 1, 0, 0, .null)) (l0 : zld lv 0 = some (.ref 1000)) (l3 : zld lv 3 = some (.int i)) (hi : i.toInt = (I : Int)) (hk : I + k < L) (k5 : k ≤ 5) (hL : L ≤ 3072) (K : zR (some (L, xs)) 20 4 ret zcL (pc + 5, lv, .int (xs (I + k)) :: st) hp r) : zR (some (L, xs)) 20 4 ret zcL (pc, lv, st) hp r := by
  refine q_lr (k := 1) (i := 0) (x := 1000) (q := (.aload_n 0, 1, 0, 0, .null)) h1 (fun _ => rfl) l0 ?_
  refine q_li (k := 1) (i := 3) (q := (.iload_n 3, 1, 0, 0, .null)) h2 (fun _ => rfl) l3 ?_
  refine r_s (fr' := (pc + 1 + 1 + 1, lv, .int (Int32.ofInt (k : Int)) :: .int i :: .ref 1000 :: st)) (hp' := hp) (q := (.iconst (k : Int), 1, 0, 0, .null)) h3 (fun _ => rfl) (Nat.le_refl _) ?_
  refine r_s (fr' := (pc + 1 + 1 + 1 + 1, lv, .int (i + Int32.ofInt (k : Int)) :: .ref 1000 :: st)) (hp' := hp) (q := (.iadd, 1, 0, 0, .null)) h4 (fun _ => rfl) (Nat.le_refl _) ?_
  have ek : (Int32.ofInt (k : Int)).toInt = (k : Int) := by
    have : k = 0 ∨ k = 1 ∨ k = 2 ∨ k = 3 ∨ k = 4 ∨ k = 5 := by omega
    rcases this with rfl | rfl | rfl | rfl | rfl | rfl <;> rfl
  have e : (i + Int32.ofInt (k : Int)).toInt = (I : Int) + (k : Int) := (xa1 (by rw [ek]; omega) (by rw [ek]; omega)).trans (by rw [ek, hi])
  have en : (i + Int32.ofInt (k : Int)).toNatClampNeg = I + k := by
    show (i + Int32.ofInt (k : Int)).toInt.toNat = I + k
    omega
  refine q_sil (i := 1000) (n := L) (f := xs) h5 (by decide) rfl (xib_t (by omega) (by omega)) ?_
  rw [en]
  exact K
set_option maxRecDepth 20000 in
theorem lt0 (l0 : zld lv 0 = some (.ref 1000)) (l1 : zld lv 1 = some (.ref 0)) (l2 : zld lv 2 = some (.ref 70)) (l3 : zld lv 3 = some (.int i)) (hi : i.toInt = (I : Int)) (h6 : I + 6 ≤ L) (hL : L ≤ 3072) (k1 : zKd 0 hp = some 10) (k2 : zKd 70 hp1 = some 11) (z1 : zCan 20 122 [.ref 0, .int (xs (I + 1)), .int (xs (I + 2)), .int (xs (I + 3)), .int (xs (I + 4)), .int (xs (I + 5))] hp (some (.int x1), hp1)) (n1 : hp.1 ≤ hp1.1) (z2 : zCan 20 161 [.ref 70, .int (xs (I + 1)), .int (xs (I + 2)), .int (xs (I + 3)), .int (xs (I + 4)), .int (xs (I + 5))] hp1 (some (.int x2), hp2)) (n2 : hp1.1 ≤ hp2.1) (K : zR (some (L, xs)) 20 4 ret zcL (1041, lv, []) hp2 r) : zR (some (L, xs)) 20 4 ret zcL (172, lv, []) hp r := by
  refine q_lr (k := 1) (i := 1) (q := (.aload_n 1, 1, 0, 0, .null)) g172 (fun _ => rfl) l1 ?_
  refine l_arg (pc := 173) (k := 1) g173 g174 g175 g176 g177 l0 l3 hi (by omega) (by decide) hL ?_
  refine l_arg (pc := 178) (k := 2) g178 g179 g180 g181 g182 l0 l3 hi (by omega) (by decide) hL ?_
  refine l_arg (pc := 183) (k := 3) g183 g184 g185 g186 g187 l0 l3 hi (by omega) (by decide) hL ?_
  refine l_arg (pc := 188) (k := 4) g188 g189 g190 g191 g192 l0 l3 hi (by omega) (by decide) hL ?_
  refine l_arg (pc := 193) (k := 5) g193 g194 g195 g196 g197 l0 l3 hi (by omega) (by decide) hL ?_
  refine r_call (ix := 0) (as := [.int (xs (I + 1)), .int (xs (I + 2)), .int (xs (I + 3)), .int (xs (I + 4)), .int (xs (I + 5))]) (rest := []) (rv := some (.int x1)) (hp' := hp1) (pc := 198) g198 (show zar 122 = (5, 10) by decide +kernel) rfl rfl rfl k1 (Nat.le_of_ble_eq_true rfl) z1 n1 ?_
  refine r_s (fr' := (202, lv, [])) (hp' := hp1) (q := (.pop, 1, 0, 0, .null)) g201 (fun _ => rfl) (Nat.le_refl _) ?_
  refine q_lr (k := 1) (i := 2) (q := (.aload_n 2, 1, 0, 0, .null)) g202 (fun _ => rfl) l2 ?_
  refine l_arg (pc := 203) (k := 1) g203 g204 g205 g206 g207 l0 l3 hi (by omega) (by decide) hL ?_
  refine l_arg (pc := 208) (k := 2) g208 g209 g210 g211 g212 l0 l3 hi (by omega) (by decide) hL ?_
  refine l_arg (pc := 213) (k := 3) g213 g214 g215 g216 g217 l0 l3 hi (by omega) (by decide) hL ?_
  refine l_arg (pc := 218) (k := 4) g218 g219 g220 g221 g222 l0 l3 hi (by omega) (by decide) hL ?_
  refine l_arg (pc := 223) (k := 5) g223 g224 g225 g226 g227 l0 l3 hi (by omega) (by decide) hL ?_
  refine r_call (ix := 70) (as := [.int (xs (I + 1)), .int (xs (I + 2)), .int (xs (I + 3)), .int (xs (I + 4)), .int (xs (I + 5))]) (rest := []) (rv := some (.int x2)) (hp' := hp2) (pc := 228) g228 (show zar 161 = (5, 11) by decide +kernel) rfl rfl rfl k2 (Nat.le_of_ble_eq_true rfl) z2 n2 ?_
  refine r_s (fr' := (232, lv, [])) (hp' := hp2) (q := (.pop, 1, 0, 0, .null)) g231 (fun _ => rfl) (Nat.le_refl _) ?_
  exact r_s (fr' := (1041, lv, [])) (hp' := hp2) (q := (.goto 809, 3, 1041, 0, .null)) g232 (fun _ => rfl) (Nat.le_refl _) K
set_option maxRecDepth 20000 in
theorem lt1 (l0 : zld lv 0 = some (.ref 1000)) (l1 : zld lv 1 = some (.ref 0)) (l2 : zld lv 2 = some (.ref 70)) (l3 : zld lv 3 = some (.int i)) (hi : i.toInt = (I : Int)) (h6 : I + 6 ≤ L) (hL : L ≤ 3072) (k1 : zKd 0 hp = some 10) (k2 : zKd 70 hp1 = some 11) (z1 : zCan 20 124 [.ref 0, .int (xs (I + 1))] hp (some (.int x1), hp1)) (n1 : hp.1 ≤ hp1.1) (z2 : zCan 20 162 [.ref 70, .int (xs (I + 1))] hp1 (some (.int x2), hp2)) (n2 : hp1.1 ≤ hp2.1) (K : zR (some (L, xs)) 20 4 ret zcL (1041, lv, []) hp2 r) : zR (some (L, xs)) 20 4 ret zcL (235, lv, []) hp r := by
  refine q_lr (k := 1) (i := 1) (q := (.aload_n 1, 1, 0, 0, .null)) g235 (fun _ => rfl) l1 ?_
  refine l_arg (pc := 236) (k := 1) g236 g237 g238 g239 g240 l0 l3 hi (by omega) (by decide) hL ?_
  refine r_call (ix := 0) (as := [.int (xs (I + 1))]) (rest := []) (rv := some (.int x1)) (hp' := hp1) (pc := 241) g241 (show zar 124 = (1, 10) by decide +kernel) rfl rfl rfl k1 (Nat.le_of_ble_eq_true rfl) z1 n1 ?_
  refine r_s (fr' := (245, lv, [])) (hp' := hp1) (q := (.pop, 1, 0, 0, .null)) g244 (fun _ => rfl) (Nat.le_refl _) ?_
  refine q_lr (k := 1) (i := 2) (q := (.aload_n 2, 1, 0, 0, .null)) g245 (fun _ => rfl) l2 ?_
  refine l_arg (pc := 246) (k := 1) g246 g247 g248 g249 g250 l0 l3 hi (by omega) (by decide) hL ?_
  refine r_call (ix := 70) (as := [.int (xs (I + 1))]) (rest := []) (rv := some (.int x2)) (hp' := hp2) (pc := 251) g251 (show zar 162 = (1, 11) by decide +kernel) rfl rfl rfl k2 (Nat.le_of_ble_eq_true rfl) z2 n2 ?_
  refine r_s (fr' := (255, lv, [])) (hp' := hp2) (q := (.pop, 1, 0, 0, .null)) g254 (fun _ => rfl) (Nat.le_refl _) ?_
  exact r_s (fr' := (1041, lv, [])) (hp' := hp2) (q := (.goto 786, 3, 1041, 0, .null)) g255 (fun _ => rfl) (Nat.le_refl _) K
set_option maxRecDepth 20000 in
theorem lt2 (l0 : zld lv 0 = some (.ref 1000)) (l1 : zld lv 1 = some (.ref 0)) (l2 : zld lv 2 = some (.ref 70)) (l3 : zld lv 3 = some (.int i)) (hi : i.toInt = (I : Int)) (h6 : I + 6 ≤ L) (hL : L ≤ 3072) (k1 : zKd 0 hp = some 10) (k2 : zKd 70 hp1 = some 11) (z1 : zCan 20 125 [.ref 0] hp (some (.int x1), hp1)) (n1 : hp.1 ≤ hp1.1) (z2 : zCan 20 198 [.ref 70] hp1 (some (.int x2), hp2)) (n2 : hp1.1 ≤ hp2.1) (K : zR (some (L, xs)) 20 4 ret zcL (1041, lv, []) hp2 r) : zR (some (L, xs)) 20 4 ret zcL (258, lv, []) hp r := by
  refine q_lr (k := 1) (i := 1) (q := (.aload_n 1, 1, 0, 0, .null)) g258 (fun _ => rfl) l1 ?_
  refine r_call (ix := 0) (as := []) (rest := []) (rv := some (.int x1)) (hp' := hp1) (pc := 259) g259 (show zar 125 = (0, 10) by decide +kernel) rfl rfl rfl k1 (Nat.le_of_ble_eq_true rfl) z1 n1 ?_
  refine r_s (fr' := (263, lv, [])) (hp' := hp1) (q := (.pop, 1, 0, 0, .null)) g262 (fun _ => rfl) (Nat.le_refl _) ?_
  refine q_lr (k := 1) (i := 2) (q := (.aload_n 2, 1, 0, 0, .null)) g263 (fun _ => rfl) l2 ?_
  refine r_call (ix := 70) (as := []) (rest := []) (rv := some (.int x2)) (hp' := hp2) (pc := 264) g264 (show zar 198 = (0, 11) by decide +kernel) rfl rfl rfl k2 (Nat.le_of_ble_eq_true rfl) z2 n2 ?_
  refine r_s (fr' := (268, lv, [])) (hp' := hp2) (q := (.pop, 1, 0, 0, .null)) g267 (fun _ => rfl) (Nat.le_refl _) ?_
  exact r_s (fr' := (1041, lv, [])) (hp' := hp2) (q := (.goto 773, 3, 1041, 0, .null)) g268 (fun _ => rfl) (Nat.le_refl _) K
set_option maxRecDepth 20000 in
theorem lt3 (l0 : zld lv 0 = some (.ref 1000)) (l1 : zld lv 1 = some (.ref 0)) (l2 : zld lv 2 = some (.ref 70)) (l3 : zld lv 3 = some (.int i)) (hi : i.toInt = (I : Int)) (h6 : I + 6 ≤ L) (hL : L ≤ 3072) (k1 : zKd 0 hp = some 10) (k2 : zKd 70 hp1 = some 11) (z1 : zCan 20 126 [.ref 0] hp (some (.int x1), hp1)) (n1 : hp.1 ≤ hp1.1) (z2 : zCan 20 197 [.ref 70] hp1 (some (.int x2), hp2)) (n2 : hp1.1 ≤ hp2.1) (K : zR (some (L, xs)) 20 4 ret zcL (1041, lv, []) hp2 r) : zR (some (L, xs)) 20 4 ret zcL (271, lv, []) hp r := by
  refine q_lr (k := 1) (i := 1) (q := (.aload_n 1, 1, 0, 0, .null)) g271 (fun _ => rfl) l1 ?_
  refine r_call (ix := 0) (as := []) (rest := []) (rv := some (.int x1)) (hp' := hp1) (pc := 272) g272 (show zar 126 = (0, 10) by decide +kernel) rfl rfl rfl k1 (Nat.le_of_ble_eq_true rfl) z1 n1 ?_
  refine r_s (fr' := (276, lv, [])) (hp' := hp1) (q := (.pop, 1, 0, 0, .null)) g275 (fun _ => rfl) (Nat.le_refl _) ?_
  refine q_lr (k := 1) (i := 2) (q := (.aload_n 2, 1, 0, 0, .null)) g276 (fun _ => rfl) l2 ?_
  refine r_call (ix := 70) (as := []) (rest := []) (rv := some (.int x2)) (hp' := hp2) (pc := 277) g277 (show zar 197 = (0, 11) by decide +kernel) rfl rfl rfl k2 (Nat.le_of_ble_eq_true rfl) z2 n2 ?_
  refine r_s (fr' := (281, lv, [])) (hp' := hp2) (q := (.pop, 1, 0, 0, .null)) g280 (fun _ => rfl) (Nat.le_refl _) ?_
  exact r_s (fr' := (1041, lv, [])) (hp' := hp2) (q := (.goto 760, 3, 1041, 0, .null)) g281 (fun _ => rfl) (Nat.le_refl _) K
set_option maxRecDepth 20000 in
theorem lt4 (l0 : zld lv 0 = some (.ref 1000)) (l1 : zld lv 1 = some (.ref 0)) (l2 : zld lv 2 = some (.ref 70)) (l3 : zld lv 3 = some (.int i)) (hi : i.toInt = (I : Int)) (h6 : I + 6 ≤ L) (hL : L ≤ 3072) (k1 : zKd 0 hp = some 10) (k2 : zKd 70 hp1 = some 11) (z1 : zCan 20 128 [.ref 0, .int (xs (I + 1)), .int (xs (I + 2))] hp (some (.int x1), hp1)) (n1 : hp.1 ≤ hp1.1) (z2 : zCan 20 217 [.ref 70, .int (xs (I + 1)), .int (xs (I + 2))] hp1 (some (.int x2), hp2)) (n2 : hp1.1 ≤ hp2.1) (K : zR (some (L, xs)) 20 4 ret zcL (1041, lv, []) hp2 r) : zR (some (L, xs)) 20 4 ret zcL (284, lv, []) hp r := by
  refine q_lr (k := 1) (i := 1) (q := (.aload_n 1, 1, 0, 0, .null)) g284 (fun _ => rfl) l1 ?_
  refine l_arg (pc := 285) (k := 1) g285 g286 g287 g288 g289 l0 l3 hi (by omega) (by decide) hL ?_
  refine l_arg (pc := 290) (k := 2) g290 g291 g292 g293 g294 l0 l3 hi (by omega) (by decide) hL ?_
  refine r_call (ix := 0) (as := [.int (xs (I + 1)), .int (xs (I + 2))]) (rest := []) (rv := some (.int x1)) (hp' := hp1) (pc := 295) g295 (show zar 128 = (2, 10) by decide +kernel) rfl rfl rfl k1 (Nat.le_of_ble_eq_true rfl) z1 n1 ?_
  refine r_s (fr' := (299, lv, [])) (hp' := hp1) (q := (.pop, 1, 0, 0, .null)) g298 (fun _ => rfl) (Nat.le_refl _) ?_
  refine q_lr (k := 1) (i := 2) (q := (.aload_n 2, 1, 0, 0, .null)) g299 (fun _ => rfl) l2 ?_
  refine l_arg (pc := 300) (k := 1) g300 g301 g302 g303 g304 l0 l3 hi (by omega) (by decide) hL ?_
  refine l_arg (pc := 305) (k := 2) g305 g306 g307 g308 g309 l0 l3 hi (by omega) (by decide) hL ?_
  refine r_call (ix := 70) (as := [.int (xs (I + 1)), .int (xs (I + 2))]) (rest := []) (rv := some (.int x2)) (hp' := hp2) (pc := 310) g310 (show zar 217 = (2, 11) by decide +kernel) rfl rfl rfl k2 (Nat.le_of_ble_eq_true rfl) z2 n2 ?_
  refine r_s (fr' := (314, lv, [])) (hp' := hp2) (q := (.pop, 1, 0, 0, .null)) g313 (fun _ => rfl) (Nat.le_refl _) ?_
  exact r_s (fr' := (1041, lv, [])) (hp' := hp2) (q := (.goto 727, 3, 1041, 0, .null)) g314 (fun _ => rfl) (Nat.le_refl _) K
set_option maxRecDepth 20000 in
theorem lt5 (l0 : zld lv 0 = some (.ref 1000)) (l1 : zld lv 1 = some (.ref 0)) (l2 : zld lv 2 = some (.ref 70)) (l3 : zld lv 3 = some (.int i)) (hi : i.toInt = (I : Int)) (h6 : I + 6 ≤ L) (hL : L ≤ 3072) (k1 : zKd 0 hp = some 10) (k2 : zKd 70 hp1 = some 11) (z1 : zCan 20 129 [.ref 0, .int (xs (I + 1)), .int (xs (I + 2))] hp (some (.int x1), hp1)) (n1 : hp.1 ≤ hp1.1) (z2 : zCan 20 218 [.ref 70, .int (xs (I + 1)), .int (xs (I + 2))] hp1 (some (.int x2), hp2)) (n2 : hp1.1 ≤ hp2.1) (K : zR (some (L, xs)) 20 4 ret zcL (1041, lv, []) hp2 r) : zR (some (L, xs)) 20 4 ret zcL (317, lv, []) hp r := by
  refine q_lr (k := 1) (i := 1) (q := (.aload_n 1, 1, 0, 0, .null)) g317 (fun _ => rfl) l1 ?_
  refine l_arg (pc := 318) (k := 1) g318 g319 g320 g321 g322 l0 l3 hi (by omega) (by decide) hL ?_
  refine l_arg (pc := 323) (k := 2) g323 g324 g325 g326 g327 l0 l3 hi (by omega) (by decide) hL ?_
  refine r_call (ix := 0) (as := [.int (xs (I + 1)), .int (xs (I + 2))]) (rest := []) (rv := some (.int x1)) (hp' := hp1) (pc := 328) g328 (show zar 129 = (2, 10) by decide +kernel) rfl rfl rfl k1 (Nat.le_of_ble_eq_true rfl) z1 n1 ?_
  refine r_s (fr' := (332, lv, [])) (hp' := hp1) (q := (.pop, 1, 0, 0, .null)) g331 (fun _ => rfl) (Nat.le_refl _) ?_
  refine q_lr (k := 1) (i := 2) (q := (.aload_n 2, 1, 0, 0, .null)) g332 (fun _ => rfl) l2 ?_
  refine l_arg (pc := 333) (k := 1) g333 g334 g335 g336 g337 l0 l3 hi (by omega) (by decide) hL ?_
  refine l_arg (pc := 338) (k := 2) g338 g339 g340 g341 g342 l0 l3 hi (by omega) (by decide) hL ?_
  refine r_call (ix := 70) (as := [.int (xs (I + 1)), .int (xs (I + 2))]) (rest := []) (rv := some (.int x2)) (hp' := hp2) (pc := 343) g343 (show zar 218 = (2, 11) by decide +kernel) rfl rfl rfl k2 (Nat.le_of_ble_eq_true rfl) z2 n2 ?_
  refine r_s (fr' := (347, lv, [])) (hp' := hp2) (q := (.pop, 1, 0, 0, .null)) g346 (fun _ => rfl) (Nat.le_refl _) ?_
  exact r_s (fr' := (1041, lv, [])) (hp' := hp2) (q := (.goto 694, 3, 1041, 0, .null)) g347 (fun _ => rfl) (Nat.le_refl _) K
set_option maxRecDepth 20000 in
theorem lt6 (l0 : zld lv 0 = some (.ref 1000)) (l1 : zld lv 1 = some (.ref 0)) (l2 : zld lv 2 = some (.ref 70)) (l3 : zld lv 3 = some (.int i)) (hi : i.toInt = (I : Int)) (h6 : I + 6 ≤ L) (hL : L ≤ 3072) (k1 : zKd 0 hp = some 10) (k2 : zKd 70 hp1 = some 11) (z1 : zCan 20 130 [.ref 0, .int (xs (I + 1)), .int (xs (I + 2)), .int (xs (I + 3))] hp (some (.int x1), hp1)) (n1 : hp.1 ≤ hp1.1) (z2 : zCan 20 219 [.ref 70, .int (xs (I + 1)), .int (xs (I + 2)), .int (xs (I + 3))] hp1 (some (.int x2), hp2)) (n2 : hp1.1 ≤ hp2.1) (K : zR (some (L, xs)) 20 4 ret zcL (1041, lv, []) hp2 r) : zR (some (L, xs)) 20 4 ret zcL (350, lv, []) hp r := by
  refine q_lr (k := 1) (i := 1) (q := (.aload_n 1, 1, 0, 0, .null)) g350 (fun _ => rfl) l1 ?_
  refine l_arg (pc := 351) (k := 1) g351 g352 g353 g354 g355 l0 l3 hi (by omega) (by decide) hL ?_
  refine l_arg (pc := 356) (k := 2) g356 g357 g358 g359 g360 l0 l3 hi (by omega) (by decide) hL ?_
  refine l_arg (pc := 361) (k := 3) g361 g362 g363 g364 g365 l0 l3 hi (by omega) (by decide) hL ?_
  refine r_call (ix := 0) (as := [.int (xs (I + 1)), .int (xs (I + 2)), .int (xs (I + 3))]) (rest := []) (rv := some (.int x1)) (hp' := hp1) (pc := 366) g366 (show zar 130 = (3, 10) by decide +kernel) rfl rfl rfl k1 (Nat.le_of_ble_eq_true rfl) z1 n1 ?_
  refine r_s (fr' := (370, lv, [])) (hp' := hp1) (q := (.pop, 1, 0, 0, .null)) g369 (fun _ => rfl) (Nat.le_refl _) ?_
  refine q_lr (k := 1) (i := 2) (q := (.aload_n 2, 1, 0, 0, .null)) g370 (fun _ => rfl) l2 ?_
  refine l_arg (pc := 371) (k := 1) g371 g372 g373 g374 g375 l0 l3 hi (by omega) (by decide) hL ?_
  refine l_arg (pc := 376) (k := 2) g376 g377 g378 g379 g380 l0 l3 hi (by omega) (by decide) hL ?_
  refine l_arg (pc := 381) (k := 3) g381 g382 g383 g384 g385 l0 l3 hi (by omega) (by decide) hL ?_
  refine r_call (ix := 70) (as := [.int (xs (I + 1)), .int (xs (I + 2)), .int (xs (I + 3))]) (rest := []) (rv := some (.int x2)) (hp' := hp2) (pc := 386) g386 (show zar 219 = (3, 11) by decide +kernel) rfl rfl rfl k2 (Nat.le_of_ble_eq_true rfl) z2 n2 ?_
  refine r_s (fr' := (390, lv, [])) (hp' := hp2) (q := (.pop, 1, 0, 0, .null)) g389 (fun _ => rfl) (Nat.le_refl _) ?_
  exact r_s (fr' := (1041, lv, [])) (hp' := hp2) (q := (.goto 651, 3, 1041, 0, .null)) g390 (fun _ => rfl) (Nat.le_refl _) K
set_option maxRecDepth 20000 in
theorem lt7 (l0 : zld lv 0 = some (.ref 1000)) (l1 : zld lv 1 = some (.ref 0)) (l2 : zld lv 2 = some (.ref 70)) (l3 : zld lv 3 = some (.int i)) (hi : i.toInt = (I : Int)) (h6 : I + 6 ≤ L) (hL : L ≤ 3072) (k1 : zKd 0 hp = some 10) (k2 : zKd 70 hp1 = some 11) (z1 : zCan 20 131 [.ref 0, .int (xs (I + 1)), .int (xs (I + 2))] hp (some (.int x1), hp1)) (n1 : hp.1 ≤ hp1.1) (z2 : zCan 20 226 [.ref 70, .int (xs (I + 1)), .int (xs (I + 2))] hp1 (some (.int x2), hp2)) (n2 : hp1.1 ≤ hp2.1) (K : zR (some (L, xs)) 20 4 ret zcL (1041, lv, []) hp2 r) : zR (some (L, xs)) 20 4 ret zcL (393, lv, []) hp r := by
  refine q_lr (k := 1) (i := 1) (q := (.aload_n 1, 1, 0, 0, .null)) g393 (fun _ => rfl) l1 ?_
  refine l_arg (pc := 394) (k := 1) g394 g395 g396 g397 g398 l0 l3 hi (by omega) (by decide) hL ?_
  refine l_arg (pc := 399) (k := 2) g399 g400 g401 g402 g403 l0 l3 hi (by omega) (by decide) hL ?_
  refine r_call (ix := 0) (as := [.int (xs (I + 1)), .int (xs (I + 2))]) (rest := []) (rv := some (.int x1)) (hp' := hp1) (pc := 404) g404 (show zar 131 = (2, 10) by decide +kernel) rfl rfl rfl k1 (Nat.le_of_ble_eq_true rfl) z1 n1 ?_
  refine r_s (fr' := (408, lv, [])) (hp' := hp1) (q := (.pop, 1, 0, 0, .null)) g407 (fun _ => rfl) (Nat.le_refl _) ?_
  refine q_lr (k := 1) (i := 2) (q := (.aload_n 2, 1, 0, 0, .null)) g408 (fun _ => rfl) l2 ?_
  refine l_arg (pc := 409) (k := 1) g409 g410 g411 g412 g413 l0 l3 hi (by omega) (by decide) hL ?_
  refine l_arg (pc := 414) (k := 2) g414 g415 g416 g417 g418 l0 l3 hi (by omega) (by decide) hL ?_
  refine r_call (ix := 70) (as := [.int (xs (I + 1)), .int (xs (I + 2))]) (rest := []) (rv := some (.int x2)) (hp' := hp2) (pc := 419) g419 (show zar 226 = (2, 11) by decide +kernel) rfl rfl rfl k2 (Nat.le_of_ble_eq_true rfl) z2 n2 ?_
  refine r_s (fr' := (423, lv, [])) (hp' := hp2) (q := (.pop, 1, 0, 0, .null)) g422 (fun _ => rfl) (Nat.le_refl _) ?_
  exact r_s (fr' := (1041, lv, [])) (hp' := hp2) (q := (.goto 618, 3, 1041, 0, .null)) g423 (fun _ => rfl) (Nat.le_refl _) K
set_option maxRecDepth 20000 in
theorem lt8 (l0 : zld lv 0 = some (.ref 1000)) (l1 : zld lv 1 = some (.ref 0)) (l2 : zld lv 2 = some (.ref 70)) (l3 : zld lv 3 = some (.int i)) (hi : i.toInt = (I : Int)) (h6 : I + 6 ≤ L) (hL : L ≤ 3072) (k1 : zKd 0 hp = some 10) (k2 : zKd 70 hp1 = some 11) (z1 : zCan 20 132 [.ref 0, .int (xs (I + 1))] hp (some (.int x1), hp1)) (n1 : hp.1 ≤ hp1.1) (z2 : zCan 20 227 [.ref 70, .int (xs (I + 1))] hp1 (some (.int x2), hp2)) (n2 : hp1.1 ≤ hp2.1) (K : zR (some (L, xs)) 20 4 ret zcL (1041, lv, []) hp2 r) : zR (some (L, xs)) 20 4 ret zcL (426, lv, []) hp r := by
  refine q_lr (k := 1) (i := 1) (q := (.aload_n 1, 1, 0, 0, .null)) g426 (fun _ => rfl) l1 ?_
  refine l_arg (pc := 427) (k := 1) g427 g428 g429 g430 g431 l0 l3 hi (by omega) (by decide) hL ?_
  refine r_call (ix := 0) (as := [.int (xs (I + 1))]) (rest := []) (rv := some (.int x1)) (hp' := hp1) (pc := 432) g432 (show zar 132 = (1, 10) by decide +kernel) rfl rfl rfl k1 (Nat.le_of_ble_eq_true rfl) z1 n1 ?_
  refine r_s (fr' := (436, lv, [])) (hp' := hp1) (q := (.pop, 1, 0, 0, .null)) g435 (fun _ => rfl) (Nat.le_refl _) ?_
  refine q_lr (k := 1) (i := 2) (q := (.aload_n 2, 1, 0, 0, .null)) g436 (fun _ => rfl) l2 ?_
  refine l_arg (pc := 437) (k := 1) g437 g438 g439 g440 g441 l0 l3 hi (by omega) (by decide) hL ?_
  refine r_call (ix := 70) (as := [.int (xs (I + 1))]) (rest := []) (rv := some (.int x2)) (hp' := hp2) (pc := 442) g442 (show zar 227 = (1, 11) by decide +kernel) rfl rfl rfl k2 (Nat.le_of_ble_eq_true rfl) z2 n2 ?_
  refine r_s (fr' := (446, lv, [])) (hp' := hp2) (q := (.pop, 1, 0, 0, .null)) g445 (fun _ => rfl) (Nat.le_refl _) ?_
  exact r_s (fr' := (1041, lv, [])) (hp' := hp2) (q := (.goto 595, 3, 1041, 0, .null)) g446 (fun _ => rfl) (Nat.le_refl _) K
set_option maxRecDepth 20000 in
theorem lt9 (l0 : zld lv 0 = some (.ref 1000)) (l1 : zld lv 1 = some (.ref 0)) (l2 : zld lv 2 = some (.ref 70)) (l3 : zld lv 3 = some (.int i)) (hi : i.toInt = (I : Int)) (h6 : I + 6 ≤ L) (hL : L ≤ 3072) (k1 : zKd 0 hp = some 10) (k2 : zKd 70 hp1 = some 11) (z1 : zCan 20 133 [.ref 0, .int (xs (I + 1))] hp (some (.int x1), hp1)) (n1 : hp.1 ≤ hp1.1) (z2 : zCan 20 228 [.ref 70, .int (xs (I + 1))] hp1 (some (.int x2), hp2)) (n2 : hp1.1 ≤ hp2.1) (K : zR (some (L, xs)) 20 4 ret zcL (1041, lv, []) hp2 r) : zR (some (L, xs)) 20 4 ret zcL (449, lv, []) hp r := by
  refine q_lr (k := 1) (i := 1) (q := (.aload_n 1, 1, 0, 0, .null)) g449 (fun _ => rfl) l1 ?_
  refine l_arg (pc := 450) (k := 1) g450 g451 g452 g453 g454 l0 l3 hi (by omega) (by decide) hL ?_
  refine r_call (ix := 0) (as := [.int (xs (I + 1))]) (rest := []) (rv := some (.int x1)) (hp' := hp1) (pc := 455) g455 (show zar 133 = (1, 10) by decide +kernel) rfl rfl rfl k1 (Nat.le_of_ble_eq_true rfl) z1 n1 ?_
  refine r_s (fr' := (459, lv, [])) (hp' := hp1) (q := (.pop, 1, 0, 0, .null)) g458 (fun _ => rfl) (Nat.le_refl _) ?_
  refine q_lr (k := 1) (i := 2) (q := (.aload_n 2, 1, 0, 0, .null)) g459 (fun _ => rfl) l2 ?_
  refine l_arg (pc := 460) (k := 1) g460 g461 g462 g463 g464 l0 l3 hi (by omega) (by decide) hL ?_
  refine r_call (ix := 70) (as := [.int (xs (I + 1))]) (rest := []) (rv := some (.int x2)) (hp' := hp2) (pc := 465) g465 (show zar 228 = (1, 11) by decide +kernel) rfl rfl rfl k2 (Nat.le_of_ble_eq_true rfl) z2 n2 ?_
  refine r_s (fr' := (469, lv, [])) (hp' := hp2) (q := (.pop, 1, 0, 0, .null)) g468 (fun _ => rfl) (Nat.le_refl _) ?_
  exact r_s (fr' := (1041, lv, [])) (hp' := hp2) (q := (.goto 572, 3, 1041, 0, .null)) g469 (fun _ => rfl) (Nat.le_refl _) K
set_option maxRecDepth 20000 in
theorem lt10 (l0 : zld lv 0 = some (.ref 1000)) (l1 : zld lv 1 = some (.ref 0)) (l2 : zld lv 2 = some (.ref 70)) (l3 : zld lv 3 = some (.int i)) (hi : i.toInt = (I : Int)) (h6 : I + 6 ≤ L) (hL : L ≤ 3072) (k1 : zKd 0 hp = some 10) (k2 : zKd 70 hp1 = some 11) (z1 : zCan 20 134 [.ref 0, .int (xs (I + 1)), .int (xs (I + 2))] hp (some (.int x1), hp1)) (n1 : hp.1 ≤ hp1.1) (z2 : zCan 20 230 [.ref 70, .int (xs (I + 1)), .int (xs (I + 2))] hp1 (some (.int x2), hp2)) (n2 : hp1.1 ≤ hp2.1) (K : zR (some (L, xs)) 20 4 ret zcL (1041, lv, []) hp2 r) : zR (some (L, xs)) 20 4 ret zcL (472, lv, []) hp r := by
  refine q_lr (k := 1) (i := 1) (q := (.aload_n 1, 1, 0, 0, .null)) g472 (fun _ => rfl) l1 ?_
  refine l_arg (pc := 473) (k := 1) g473 g474 g475 g476 g477 l0 l3 hi (by omega) (by decide) hL ?_
  refine l_arg (pc := 478) (k := 2) g478 g479 g480 g481 g482 l0 l3 hi (by omega) (by decide) hL ?_
  refine r_call (ix := 0) (as := [.int (xs (I + 1)), .int (xs (I + 2))]) (rest := []) (rv := some (.int x1)) (hp' := hp1) (pc := 483) g483 (show zar 134 = (2, 10) by decide +kernel) rfl rfl rfl k1 (Nat.le_of_ble_eq_true rfl) z1 n1 ?_
  refine r_s (fr' := (487, lv, [])) (hp' := hp1) (q := (.pop, 1, 0, 0, .null)) g486 (fun _ => rfl) (Nat.le_refl _) ?_
  refine q_lr (k := 1) (i := 2) (q := (.aload_n 2, 1, 0, 0, .null)) g487 (fun _ => rfl) l2 ?_
  refine l_arg (pc := 488) (k := 1) g488 g489 g490 g491 g492 l0 l3 hi (by omega) (by decide) hL ?_
  refine l_arg (pc := 493) (k := 2) g493 g494 g495 g496 g497 l0 l3 hi (by omega) (by decide) hL ?_
  refine r_call (ix := 70) (as := [.int (xs (I + 1)), .int (xs (I + 2))]) (rest := []) (rv := some (.int x2)) (hp' := hp2) (pc := 498) g498 (show zar 230 = (2, 11) by decide +kernel) rfl rfl rfl k2 (Nat.le_of_ble_eq_true rfl) z2 n2 ?_
  refine r_s (fr' := (502, lv, [])) (hp' := hp2) (q := (.pop, 1, 0, 0, .null)) g501 (fun _ => rfl) (Nat.le_refl _) ?_
  exact r_s (fr' := (1041, lv, [])) (hp' := hp2) (q := (.goto 539, 3, 1041, 0, .null)) g502 (fun _ => rfl) (Nat.le_refl _) K
set_option maxRecDepth 20000 in
theorem lt11 (l0 : zld lv 0 = some (.ref 1000)) (l1 : zld lv 1 = some (.ref 0)) (l2 : zld lv 2 = some (.ref 70)) (l3 : zld lv 3 = some (.int i)) (hi : i.toInt = (I : Int)) (h6 : I + 6 ≤ L) (hL : L ≤ 3072) (k1 : zKd 0 hp = some 10) (k2 : zKd 70 hp1 = some 11) (z1 : zCan 20 135 [.ref 0] hp (some (.int x1), hp1)) (n1 : hp.1 ≤ hp1.1) (z2 : zCan 20 242 [.ref 70] hp1 (some (.int x2), hp2)) (n2 : hp1.1 ≤ hp2.1) (e : x1 = x2) (K : zR (some (L, xs)) 20 4 ret zcL (1041, lv, []) hp2 r) : zR (some (L, xs)) 20 4 ret zcL (505, lv, []) hp r := by
  refine q_lr (k := 1) (i := 1) (q := (.aload_n 1, 1, 0, 0, .null)) g505 (fun _ => rfl) l1 ?_
  refine r_call (ix := 0) (as := []) (rest := []) (rv := some (.int x1)) (hp' := hp1) (pc := 506) g506 (show zar 135 = (0, 10) by decide +kernel) rfl rfl rfl k1 (Nat.le_of_ble_eq_true rfl) z1 n1 ?_
  refine q_lr (k := 1) (i := 2) (q := (.aload_n 2, 1, 0, 0, .null)) g509 (fun _ => rfl) l2 ?_
  refine r_call (ix := 70) (as := []) (rest := [.int x1]) (rv := some (.int x2)) (hp' := hp2) (pc := 510) g510 (show zar 242 = (0, 11) by decide +kernel) rfl rfl rfl k2 (Nat.le_of_ble_eq_true rfl) z2 n2 ?_
  exact r_ifc (len := 3) (a := 1041) (b := 0) (v0 := .null) (cn := .eq) (off := 528) g513 (fun _ => K) (fun c => absurd e (zneq c))
set_option maxRecDepth 20000 in
theorem lt12 (l0 : zld lv 0 = some (.ref 1000)) (l1 : zld lv 1 = some (.ref 0)) (l2 : zld lv 2 = some (.ref 70)) (l3 : zld lv 3 = some (.int i)) (hi : i.toInt = (I : Int)) (h6 : I + 6 ≤ L) (hL : L ≤ 3072) (k1 : zKd 0 hp = some 10) (k2 : zKd 70 hp1 = some 11) (z1 : zCan 20 136 [.ref 0, .int (xs (I + 1)), .int (xs (I + 2))] hp (some (.int x1), hp1)) (n1 : hp.1 ≤ hp1.1) (z2 : zCan 20 232 [.ref 70, .int (xs (I + 1)), .int (xs (I + 2))] hp1 (some (.int x2), hp2)) (n2 : hp1.1 ≤ hp2.1) (K : zR (some (L, xs)) 20 4 ret zcL (1041, lv, []) hp2 r) : zR (some (L, xs)) 20 4 ret zcL (518, lv, []) hp r := by
  refine q_lr (k := 1) (i := 1) (q := (.aload_n 1, 1, 0, 0, .null)) g518 (fun _ => rfl) l1 ?_
  refine l_arg (pc := 519) (k := 1) g519 g520 g521 g522 g523 l0 l3 hi (by omega) (by decide) hL ?_
  refine l_arg (pc := 524) (k := 2) g524 g525 g526 g527 g528 l0 l3 hi (by omega) (by decide) hL ?_
  refine r_call (ix := 0) (as := [.int (xs (I + 1)), .int (xs (I + 2))]) (rest := []) (rv := some (.int x1)) (hp' := hp1) (pc := 529) g529 (show zar 136 = (2, 10) by decide +kernel) rfl rfl rfl k1 (Nat.le_of_ble_eq_true rfl) z1 n1 ?_
  refine r_s (fr' := (533, lv, [])) (hp' := hp1) (q := (.pop, 1, 0, 0, .null)) g532 (fun _ => rfl) (Nat.le_refl _) ?_
  refine q_lr (k := 1) (i := 2) (q := (.aload_n 2, 1, 0, 0, .null)) g533 (fun _ => rfl) l2 ?_
  refine l_arg (pc := 534) (k := 1) g534 g535 g536 g537 g538 l0 l3 hi (by omega) (by decide) hL ?_
  refine l_arg (pc := 539) (k := 2) g539 g540 g541 g542 g543 l0 l3 hi (by omega) (by decide) hL ?_
  refine r_call (ix := 70) (as := [.int (xs (I + 1)), .int (xs (I + 2))]) (rest := []) (rv := some (.int x2)) (hp' := hp2) (pc := 544) g544 (show zar 232 = (2, 11) by decide +kernel) rfl rfl rfl k2 (Nat.le_of_ble_eq_true rfl) z2 n2 ?_
  refine r_s (fr' := (548, lv, [])) (hp' := hp2) (q := (.pop, 1, 0, 0, .null)) g547 (fun _ => rfl) (Nat.le_refl _) ?_
  exact r_s (fr' := (1041, lv, [])) (hp' := hp2) (q := (.goto 493, 3, 1041, 0, .null)) g548 (fun _ => rfl) (Nat.le_refl _) K
set_option maxRecDepth 20000 in
theorem lt13 (l0 : zld lv 0 = some (.ref 1000)) (l1 : zld lv 1 = some (.ref 0)) (l2 : zld lv 2 = some (.ref 70)) (l3 : zld lv 3 = some (.int i)) (hi : i.toInt = (I : Int)) (h6 : I + 6 ≤ L) (hL : L ≤ 3072) (k1 : zKd 0 hp = some 10) (k2 : zKd 70 hp1 = some 11) (z1 : zCan 20 137 [.ref 0] hp (some (.int x1), hp1)) (n1 : hp.1 ≤ hp1.1) (z2 : zCan 20 234 [.ref 70] hp1 (some (.int x2), hp2)) (n2 : hp1.1 ≤ hp2.1) (K : zR (some (L, xs)) 20 4 ret zcL (1041, lv, []) hp2 r) : zR (some (L, xs)) 20 4 ret zcL (551, lv, []) hp r := by
  refine q_lr (k := 1) (i := 1) (q := (.aload_n 1, 1, 0, 0, .null)) g551 (fun _ => rfl) l1 ?_
  refine r_call (ix := 0) (as := []) (rest := []) (rv := some (.int x1)) (hp' := hp1) (pc := 552) g552 (show zar 137 = (0, 10) by decide +kernel) rfl rfl rfl k1 (Nat.le_of_ble_eq_true rfl) z1 n1 ?_
  refine r_s (fr' := (556, lv, [])) (hp' := hp1) (q := (.pop, 1, 0, 0, .null)) g555 (fun _ => rfl) (Nat.le_refl _) ?_
  refine q_lr (k := 1) (i := 2) (q := (.aload_n 2, 1, 0, 0, .null)) g556 (fun _ => rfl) l2 ?_
  refine r_call (ix := 70) (as := []) (rest := []) (rv := some (.int x2)) (hp' := hp2) (pc := 557) g557 (show zar 234 = (0, 11) by decide +kernel) rfl rfl rfl k2 (Nat.le_of_ble_eq_true rfl) z2 n2 ?_
  refine r_s (fr' := (561, lv, [])) (hp' := hp2) (q := (.pop, 1, 0, 0, .null)) g560 (fun _ => rfl) (Nat.le_refl _) ?_
  exact r_s (fr' := (1041, lv, [])) (hp' := hp2) (q := (.goto 480, 3, 1041, 0, .null)) g561 (fun _ => rfl) (Nat.le_refl _) K
set_option maxRecDepth 20000 in
theorem lt14 (l0 : zld lv 0 = some (.ref 1000)) (l1 : zld lv 1 = some (.ref 0)) (l2 : zld lv 2 = some (.ref 70)) (l3 : zld lv 3 = some (.int i)) (hi : i.toInt = (I : Int)) (h6 : I + 6 ≤ L) (hL : L ≤ 3072) (k1 : zKd 0 hp = some 10) (k2 : zKd 70 hp1 = some 11) (z1 : zCan 20 138 [.ref 0] hp (some (.int x1), hp1)) (n1 : hp.1 ≤ hp1.1) (z2 : zCan 20 221 [.ref 70] hp1 (some (.int x2), hp2)) (n2 : hp1.1 ≤ hp2.1) (K : zR (some (L, xs)) 20 4 ret zcL (1041, lv, []) hp2 r) : zR (some (L, xs)) 20 4 ret zcL (564, lv, []) hp r := by
  refine q_lr (k := 1) (i := 1) (q := (.aload_n 1, 1, 0, 0, .null)) g564 (fun _ => rfl) l1 ?_
  refine r_call (ix := 0) (as := []) (rest := []) (rv := some (.int x1)) (hp' := hp1) (pc := 565) g565 (show zar 138 = (0, 10) by decide +kernel) rfl rfl rfl k1 (Nat.le_of_ble_eq_true rfl) z1 n1 ?_
  refine r_s (fr' := (569, lv, [])) (hp' := hp1) (q := (.pop, 1, 0, 0, .null)) g568 (fun _ => rfl) (Nat.le_refl _) ?_
  refine q_lr (k := 1) (i := 2) (q := (.aload_n 2, 1, 0, 0, .null)) g569 (fun _ => rfl) l2 ?_
  refine r_call (ix := 70) (as := []) (rest := []) (rv := some (.int x2)) (hp' := hp2) (pc := 570) g570 (show zar 221 = (0, 11) by decide +kernel) rfl rfl rfl k2 (Nat.le_of_ble_eq_true rfl) z2 n2 ?_
  refine r_s (fr' := (574, lv, [])) (hp' := hp2) (q := (.pop, 1, 0, 0, .null)) g573 (fun _ => rfl) (Nat.le_refl _) ?_
  exact r_s (fr' := (1041, lv, [])) (hp' := hp2) (q := (.goto 467, 3, 1041, 0, .null)) g574 (fun _ => rfl) (Nat.le_refl _) K
set_option maxRecDepth 20000 in
theorem lt15 (l0 : zld lv 0 = some (.ref 1000)) (l1 : zld lv 1 = some (.ref 0)) (l2 : zld lv 2 = some (.ref 70)) (l3 : zld lv 3 = some (.int i)) (hi : i.toInt = (I : Int)) (h6 : I + 6 ≤ L) (hL : L ≤ 3072) (k1 : zKd 0 hp = some 10) (k2 : zKd 70 hp1 = some 11) (z1 : zCan 20 139 [.ref 0, .int (xs (I + 1)), .int (xs (I + 2))] hp (some (.int x1), hp1)) (n1 : hp.1 ≤ hp1.1) (z2 : zCan 20 248 [.ref 70, .int (xs (I + 1)), .int (xs (I + 2))] hp1 (some (.int x2), hp2)) (n2 : hp1.1 ≤ hp2.1) (K : zR (some (L, xs)) 20 4 ret zcL (1041, lv, []) hp2 r) : zR (some (L, xs)) 20 4 ret zcL (577, lv, []) hp r := by
  refine q_lr (k := 1) (i := 1) (q := (.aload_n 1, 1, 0, 0, .null)) g577 (fun _ => rfl) l1 ?_
  refine l_arg (pc := 578) (k := 1) g578 g579 g580 g581 g582 l0 l3 hi (by omega) (by decide) hL ?_
  refine l_arg (pc := 583) (k := 2) g583 g584 g585 g586 g587 l0 l3 hi (by omega) (by decide) hL ?_
  refine r_call (ix := 0) (as := [.int (xs (I + 1)), .int (xs (I + 2))]) (rest := []) (rv := some (.int x1)) (hp' := hp1) (pc := 588) g588 (show zar 139 = (2, 10) by decide +kernel) rfl rfl rfl k1 (Nat.le_of_ble_eq_true rfl) z1 n1 ?_
  refine r_s (fr' := (592, lv, [])) (hp' := hp1) (q := (.pop, 1, 0, 0, .null)) g591 (fun _ => rfl) (Nat.le_refl _) ?_
  refine q_lr (k := 1) (i := 2) (q := (.aload_n 2, 1, 0, 0, .null)) g592 (fun _ => rfl) l2 ?_
  refine l_arg (pc := 593) (k := 1) g593 g594 g595 g596 g597 l0 l3 hi (by omega) (by decide) hL ?_
  refine l_arg (pc := 598) (k := 2) g598 g599 g600 g601 g602 l0 l3 hi (by omega) (by decide) hL ?_
  refine r_call (ix := 70) (as := [.int (xs (I + 1)), .int (xs (I + 2))]) (rest := []) (rv := some (.int x2)) (hp' := hp2) (pc := 603) g603 (show zar 248 = (2, 11) by decide +kernel) rfl rfl rfl k2 (Nat.le_of_ble_eq_true rfl) z2 n2 ?_
  refine r_s (fr' := (607, lv, [])) (hp' := hp2) (q := (.pop, 1, 0, 0, .null)) g606 (fun _ => rfl) (Nat.le_refl _) ?_
  exact r_s (fr' := (1041, lv, [])) (hp' := hp2) (q := (.goto 434, 3, 1041, 0, .null)) g607 (fun _ => rfl) (Nat.le_refl _) K
set_option maxRecDepth 20000 in
theorem lt16 (l0 : zld lv 0 = some (.ref 1000)) (l1 : zld lv 1 = some (.ref 0)) (l2 : zld lv 2 = some (.ref 70)) (l3 : zld lv 3 = some (.int i)) (hi : i.toInt = (I : Int)) (h6 : I + 6 ≤ L) (hL : L ≤ 3072) (k1 : zKd 0 hp = some 10) (k2 : zKd 70 hp1 = some 11) (z1 : zCan 20 141 [.ref 0, .int (xs (I + 1)), .int (xs (I + 2)), .int (if xs (I + 3) = 0 then 0 else 1), .int (xs (I + 4))] hp (some (.int x1), hp1)) (n1 : hp.1 ≤ hp1.1) (z2 : zCan 20 252 [.ref 70, .int (xs (I + 1)), .int (xs (I + 2)), .int (if xs (I + 3) = 0 then 0 else 1), .int (xs (I + 4))] hp1 (some (.int x2), hp2)) (n2 : hp1.1 ≤ hp2.1) (K : zR (some (L, xs)) 20 4 ret zcL (1041, lv, []) hp2 r) : zR (some (L, xs)) 20 4 ret zcL (610, lv, []) hp r := by
  refine q_lr (k := 1) (i := 1) (q := (.aload_n 1, 1, 0, 0, .null)) g610 (fun _ => rfl) l1 ?_
  refine l_arg (pc := 611) (k := 1) g611 g612 g613 g614 g615 l0 l3 hi (by omega) (by decide) hL ?_
  refine l_arg (pc := 616) (k := 2) g616 g617 g618 g619 g620 l0 l3 hi (by omega) (by decide) hL ?_
  refine l_arg (pc := 621) (k := 3) g621 g622 g623 g624 g625 l0 l3 hi (by omega) (by decide) hL ?_
  have hz626 : ∀ {r : zRe}, zR (some (L, xs)) 20 4 ret zcL (634, lv, .int (if xs (I + 3) = 0 then 0 else 1) :: [.int (xs (I + 2)), .int (xs (I + 1)), .ref 0]) hp r → zR (some (L, xs)) 20 4 ret zcL (626, lv, .int (xs (I + 3)) :: [.int (xs (I + 2)), .int (xs (I + 1)), .ref 0]) hp r := by
    intro r K
    refine r_if (len := 3) (a := 633) (b := 0) (v0 := .null) (cn := .eq) (off := 7) g626 (fun c => ?_) (fun c => ?_)
    · rw [if_pos (zeq c)] at K
      exact r_s (fr' := (634, lv, .int 0 :: [.int (xs (I + 2)), .int (xs (I + 1)), .ref 0])) (hp' := hp) (q := (.iconst 0, 1, 0, 0, .null)) g633 (fun _ => rfl) (Nat.le_refl _) K
    · rw [if_neg (zneq c)] at K
      refine r_s (fr' := (630, lv, .int 1 :: [.int (xs (I + 2)), .int (xs (I + 1)), .ref 0])) (hp' := hp) (q := (.iconst 1, 1, 0, 0, .null)) g629 (fun _ => rfl) (Nat.le_refl _) ?_
      exact r_s (fr' := (634, lv, .int 1 :: [.int (xs (I + 2)), .int (xs (I + 1)), .ref 0])) (hp' := hp) (q := (.goto 4, 3, 634, 0, .null)) g630 (fun _ => rfl) (Nat.le_refl _) K
  refine hz626 ?_
  refine l_arg (pc := 634) (k := 4) g634 g635 g636 g637 g638 l0 l3 hi (by omega) (by decide) hL ?_
  refine r_call (ix := 0) (as := [.int (xs (I + 1)), .int (xs (I + 2)), .int (if xs (I + 3) = 0 then 0 else 1), .int (xs (I + 4))]) (rest := []) (rv := some (.int x1)) (hp' := hp1) (pc := 639) g639 (show zar 141 = (4, 10) by decide +kernel) rfl rfl rfl k1 (Nat.le_of_ble_eq_true rfl) z1 n1 ?_
  refine r_s (fr' := (643, lv, [])) (hp' := hp1) (q := (.pop, 1, 0, 0, .null)) g642 (fun _ => rfl) (Nat.le_refl _) ?_
  refine q_lr (k := 1) (i := 2) (q := (.aload_n 2, 1, 0, 0, .null)) g643 (fun _ => rfl) l2 ?_
  refine l_arg (pc := 644) (k := 1) g644 g645 g646 g647 g648 l0 l3 hi (by omega) (by decide) hL ?_
  refine l_arg (pc := 649) (k := 2) g649 g650 g651 g652 g653 l0 l3 hi (by omega) (by decide) hL ?_
  refine l_arg (pc := 654) (k := 3) g654 g655 g656 g657 g658 l0 l3 hi (by omega) (by decide) hL ?_
  have hz659 : ∀ {r : zRe}, zR (some (L, xs)) 20 4 ret zcL (667, lv, .int (if xs (I + 3) = 0 then 0 else 1) :: [.int (xs (I + 2)), .int (xs (I + 1)), .ref 70]) hp1 r → zR (some (L, xs)) 20 4 ret zcL (659, lv, .int (xs (I + 3)) :: [.int (xs (I + 2)), .int (xs (I + 1)), .ref 70]) hp1 r := by
    intro r K
    refine r_if (len := 3) (a := 666) (b := 0) (v0 := .null) (cn := .eq) (off := 7) g659 (fun c => ?_) (fun c => ?_)
    · rw [if_pos (zeq c)] at K
      exact r_s (fr' := (667, lv, .int 0 :: [.int (xs (I + 2)), .int (xs (I + 1)), .ref 70])) (hp' := hp1) (q := (.iconst 0, 1, 0, 0, .null)) g666 (fun _ => rfl) (Nat.le_refl _) K
    · rw [if_neg (zneq c)] at K
      refine r_s (fr' := (663, lv, .int 1 :: [.int (xs (I + 2)), .int (xs (I + 1)), .ref 70])) (hp' := hp1) (q := (.iconst 1, 1, 0, 0, .null)) g662 (fun _ => rfl) (Nat.le_refl _) ?_
      exact r_s (fr' := (667, lv, .int 1 :: [.int (xs (I + 2)), .int (xs (I + 1)), .ref 70])) (hp' := hp1) (q := (.goto 4, 3, 667, 0, .null)) g663 (fun _ => rfl) (Nat.le_refl _) K
  refine hz659 ?_
  refine l_arg (pc := 667) (k := 4) g667 g668 g669 g670 g671 l0 l3 hi (by omega) (by decide) hL ?_
  refine r_call (ix := 70) (as := [.int (xs (I + 1)), .int (xs (I + 2)), .int (if xs (I + 3) = 0 then 0 else 1), .int (xs (I + 4))]) (rest := []) (rv := some (.int x2)) (hp' := hp2) (pc := 672) g672 (show zar 252 = (4, 11) by decide +kernel) rfl rfl rfl k2 (Nat.le_of_ble_eq_true rfl) z2 n2 ?_
  refine r_s (fr' := (676, lv, [])) (hp' := hp2) (q := (.pop, 1, 0, 0, .null)) g675 (fun _ => rfl) (Nat.le_refl _) ?_
  exact r_s (fr' := (1041, lv, [])) (hp' := hp2) (q := (.goto 365, 3, 1041, 0, .null)) g676 (fun _ => rfl) (Nat.le_refl _) K
set_option maxRecDepth 20000 in
theorem lt17 (l0 : zld lv 0 = some (.ref 1000)) (l1 : zld lv 1 = some (.ref 0)) (l2 : zld lv 2 = some (.ref 70)) (l3 : zld lv 3 = some (.int i)) (hi : i.toInt = (I : Int)) (h6 : I + 6 ≤ L) (hL : L ≤ 3072) (k1 : zKd 0 hp = some 10) (k2 : zKd 70 hp1 = some 11) (z1 : zCan 20 142 [.ref 0, .int (xs (I + 1))] hp (some (.int x1), hp1)) (n1 : hp.1 ≤ hp1.1) (z2 : zCan 20 257 [.ref 70, .int (xs (I + 1))] hp1 (some (.int x2), hp2)) (n2 : hp1.1 ≤ hp2.1) (K : zR (some (L, xs)) 20 4 ret zcL (1041, lv, []) hp2 r) : zR (some (L, xs)) 20 4 ret zcL (679, lv, []) hp r := by
  refine q_lr (k := 1) (i := 1) (q := (.aload_n 1, 1, 0, 0, .null)) g679 (fun _ => rfl) l1 ?_
  refine l_arg (pc := 680) (k := 1) g680 g681 g682 g683 g684 l0 l3 hi (by omega) (by decide) hL ?_
  refine r_call (ix := 0) (as := [.int (xs (I + 1))]) (rest := []) (rv := some (.int x1)) (hp' := hp1) (pc := 685) g685 (show zar 142 = (1, 10) by decide +kernel) rfl rfl rfl k1 (Nat.le_of_ble_eq_true rfl) z1 n1 ?_
  refine r_s (fr' := (689, lv, [])) (hp' := hp1) (q := (.pop, 1, 0, 0, .null)) g688 (fun _ => rfl) (Nat.le_refl _) ?_
  refine q_lr (k := 1) (i := 2) (q := (.aload_n 2, 1, 0, 0, .null)) g689 (fun _ => rfl) l2 ?_
  refine l_arg (pc := 690) (k := 1) g690 g691 g692 g693 g694 l0 l3 hi (by omega) (by decide) hL ?_
  refine r_call (ix := 70) (as := [.int (xs (I + 1))]) (rest := []) (rv := some (.int x2)) (hp' := hp2) (pc := 695) g695 (show zar 257 = (1, 11) by decide +kernel) rfl rfl rfl k2 (Nat.le_of_ble_eq_true rfl) z2 n2 ?_
  refine r_s (fr' := (699, lv, [])) (hp' := hp2) (q := (.pop, 1, 0, 0, .null)) g698 (fun _ => rfl) (Nat.le_refl _) ?_
  exact r_s (fr' := (1041, lv, [])) (hp' := hp2) (q := (.goto 342, 3, 1041, 0, .null)) g699 (fun _ => rfl) (Nat.le_refl _) K
set_option maxRecDepth 20000 in
theorem lt18 (l0 : zld lv 0 = some (.ref 1000)) (l1 : zld lv 1 = some (.ref 0)) (l2 : zld lv 2 = some (.ref 70)) (l3 : zld lv 3 = some (.int i)) (hi : i.toInt = (I : Int)) (h6 : I + 6 ≤ L) (hL : L ≤ 3072) (k1 : zKd 0 hp = some 10) (k2 : zKd 70 hp1 = some 11) (z1 : zCan 20 143 [.ref 0, .int (xs (I + 1))] hp (some (.int x1), hp1)) (n1 : hp.1 ≤ hp1.1) (z2 : zCan 20 258 [.ref 70, .int (xs (I + 1))] hp1 (some (.int x2), hp2)) (n2 : hp1.1 ≤ hp2.1) (K : zR (some (L, xs)) 20 4 ret zcL (1041, lv, []) hp2 r) : zR (some (L, xs)) 20 4 ret zcL (702, lv, []) hp r := by
  refine q_lr (k := 1) (i := 1) (q := (.aload_n 1, 1, 0, 0, .null)) g702 (fun _ => rfl) l1 ?_
  refine l_arg (pc := 703) (k := 1) g703 g704 g705 g706 g707 l0 l3 hi (by omega) (by decide) hL ?_
  refine r_call (ix := 0) (as := [.int (xs (I + 1))]) (rest := []) (rv := some (.int x1)) (hp' := hp1) (pc := 708) g708 (show zar 143 = (1, 10) by decide +kernel) rfl rfl rfl k1 (Nat.le_of_ble_eq_true rfl) z1 n1 ?_
  refine r_s (fr' := (712, lv, [])) (hp' := hp1) (q := (.pop, 1, 0, 0, .null)) g711 (fun _ => rfl) (Nat.le_refl _) ?_
  refine q_lr (k := 1) (i := 2) (q := (.aload_n 2, 1, 0, 0, .null)) g712 (fun _ => rfl) l2 ?_
  refine l_arg (pc := 713) (k := 1) g713 g714 g715 g716 g717 l0 l3 hi (by omega) (by decide) hL ?_
  refine r_call (ix := 70) (as := [.int (xs (I + 1))]) (rest := []) (rv := some (.int x2)) (hp' := hp2) (pc := 718) g718 (show zar 258 = (1, 11) by decide +kernel) rfl rfl rfl k2 (Nat.le_of_ble_eq_true rfl) z2 n2 ?_
  refine r_s (fr' := (722, lv, [])) (hp' := hp2) (q := (.pop, 1, 0, 0, .null)) g721 (fun _ => rfl) (Nat.le_refl _) ?_
  exact r_s (fr' := (1041, lv, [])) (hp' := hp2) (q := (.goto 319, 3, 1041, 0, .null)) g722 (fun _ => rfl) (Nat.le_refl _) K
set_option maxRecDepth 20000 in
theorem lt19 (l0 : zld lv 0 = some (.ref 1000)) (l1 : zld lv 1 = some (.ref 0)) (l2 : zld lv 2 = some (.ref 70)) (l3 : zld lv 3 = some (.int i)) (hi : i.toInt = (I : Int)) (h6 : I + 6 ≤ L) (hL : L ≤ 3072) (k1 : zKd 0 hp = some 10) (k2 : zKd 70 hp1 = some 11) (z1 : zCan 20 144 [.ref 0, .int (xs (I + 1)), .int (xs (I + 2))] hp (some (.int x1), hp1)) (n1 : hp.1 ≤ hp1.1) (z2 : zCan 20 261 [.ref 70, .int (xs (I + 1)), .int (xs (I + 2))] hp1 (some (.int x2), hp2)) (n2 : hp1.1 ≤ hp2.1) (K : zR (some (L, xs)) 20 4 ret zcL (1041, lv, []) hp2 r) : zR (some (L, xs)) 20 4 ret zcL (725, lv, []) hp r := by
  refine q_lr (k := 1) (i := 1) (q := (.aload_n 1, 1, 0, 0, .null)) g725 (fun _ => rfl) l1 ?_
  refine l_arg (pc := 726) (k := 1) g726 g727 g728 g729 g730 l0 l3 hi (by omega) (by decide) hL ?_
  refine l_arg (pc := 731) (k := 2) g731 g732 g733 g734 g735 l0 l3 hi (by omega) (by decide) hL ?_
  refine r_call (ix := 0) (as := [.int (xs (I + 1)), .int (xs (I + 2))]) (rest := []) (rv := some (.int x1)) (hp' := hp1) (pc := 736) g736 (show zar 144 = (2, 10) by decide +kernel) rfl rfl rfl k1 (Nat.le_of_ble_eq_true rfl) z1 n1 ?_
  refine r_s (fr' := (740, lv, [])) (hp' := hp1) (q := (.pop, 1, 0, 0, .null)) g739 (fun _ => rfl) (Nat.le_refl _) ?_
  refine q_lr (k := 1) (i := 2) (q := (.aload_n 2, 1, 0, 0, .null)) g740 (fun _ => rfl) l2 ?_
  refine l_arg (pc := 741) (k := 1) g741 g742 g743 g744 g745 l0 l3 hi (by omega) (by decide) hL ?_
  refine l_arg (pc := 746) (k := 2) g746 g747 g748 g749 g750 l0 l3 hi (by omega) (by decide) hL ?_
  refine r_call (ix := 70) (as := [.int (xs (I + 1)), .int (xs (I + 2))]) (rest := []) (rv := some (.int x2)) (hp' := hp2) (pc := 751) g751 (show zar 261 = (2, 11) by decide +kernel) rfl rfl rfl k2 (Nat.le_of_ble_eq_true rfl) z2 n2 ?_
  refine r_s (fr' := (755, lv, [])) (hp' := hp2) (q := (.pop, 1, 0, 0, .null)) g754 (fun _ => rfl) (Nat.le_refl _) ?_
  exact r_s (fr' := (1041, lv, [])) (hp' := hp2) (q := (.goto 286, 3, 1041, 0, .null)) g755 (fun _ => rfl) (Nat.le_refl _) K
set_option maxRecDepth 20000 in
theorem lt20 (l0 : zld lv 0 = some (.ref 1000)) (l1 : zld lv 1 = some (.ref 0)) (l2 : zld lv 2 = some (.ref 70)) (l3 : zld lv 3 = some (.int i)) (hi : i.toInt = (I : Int)) (h6 : I + 6 ≤ L) (hL : L ≤ 3072) (k1 : zKd 0 hp = some 10) (k2 : zKd 70 hp1 = some 11) (z1 : zCan 20 145 [.ref 0, .int (xs (I + 1))] hp (some (.int x1), hp1)) (n1 : hp.1 ≤ hp1.1) (z2 : zCan 20 262 [.ref 70, .int (xs (I + 1))] hp1 (some (.int x2), hp2)) (n2 : hp1.1 ≤ hp2.1) (K : zR (some (L, xs)) 20 4 ret zcL (1041, lv, []) hp2 r) : zR (some (L, xs)) 20 4 ret zcL (758, lv, []) hp r := by
  refine q_lr (k := 1) (i := 1) (q := (.aload_n 1, 1, 0, 0, .null)) g758 (fun _ => rfl) l1 ?_
  refine l_arg (pc := 759) (k := 1) g759 g760 g761 g762 g763 l0 l3 hi (by omega) (by decide) hL ?_
  refine r_call (ix := 0) (as := [.int (xs (I + 1))]) (rest := []) (rv := some (.int x1)) (hp' := hp1) (pc := 764) g764 (show zar 145 = (1, 10) by decide +kernel) rfl rfl rfl k1 (Nat.le_of_ble_eq_true rfl) z1 n1 ?_
  refine r_s (fr' := (768, lv, [])) (hp' := hp1) (q := (.pop, 1, 0, 0, .null)) g767 (fun _ => rfl) (Nat.le_refl _) ?_
  refine q_lr (k := 1) (i := 2) (q := (.aload_n 2, 1, 0, 0, .null)) g768 (fun _ => rfl) l2 ?_
  refine l_arg (pc := 769) (k := 1) g769 g770 g771 g772 g773 l0 l3 hi (by omega) (by decide) hL ?_
  refine r_call (ix := 70) (as := [.int (xs (I + 1))]) (rest := []) (rv := some (.int x2)) (hp' := hp2) (pc := 774) g774 (show zar 262 = (1, 11) by decide +kernel) rfl rfl rfl k2 (Nat.le_of_ble_eq_true rfl) z2 n2 ?_
  refine r_s (fr' := (778, lv, [])) (hp' := hp2) (q := (.pop, 1, 0, 0, .null)) g777 (fun _ => rfl) (Nat.le_refl _) ?_
  exact r_s (fr' := (1041, lv, [])) (hp' := hp2) (q := (.goto 263, 3, 1041, 0, .null)) g778 (fun _ => rfl) (Nat.le_refl _) K
set_option maxRecDepth 20000 in
theorem lt21 (l0 : zld lv 0 = some (.ref 1000)) (l1 : zld lv 1 = some (.ref 0)) (l2 : zld lv 2 = some (.ref 70)) (l3 : zld lv 3 = some (.int i)) (hi : i.toInt = (I : Int)) (h6 : I + 6 ≤ L) (hL : L ≤ 3072) (k1 : zKd 0 hp = some 10) (k2 : zKd 70 hp1 = some 11) (z1 : zCan 20 146 [.ref 0, .int (xs (I + 1))] hp (some (.int x1), hp1)) (n1 : hp.1 ≤ hp1.1) (z2 : zCan 20 264 [.ref 70, .int (xs (I + 1))] hp1 (some (.int x2), hp2)) (n2 : hp1.1 ≤ hp2.1) (K : zR (some (L, xs)) 20 4 ret zcL (1041, lv, []) hp2 r) : zR (some (L, xs)) 20 4 ret zcL (781, lv, []) hp r := by
  refine q_lr (k := 1) (i := 1) (q := (.aload_n 1, 1, 0, 0, .null)) g781 (fun _ => rfl) l1 ?_
  refine l_arg (pc := 782) (k := 1) g782 g783 g784 g785 g786 l0 l3 hi (by omega) (by decide) hL ?_
  refine r_call (ix := 0) (as := [.int (xs (I + 1))]) (rest := []) (rv := some (.int x1)) (hp' := hp1) (pc := 787) g787 (show zar 146 = (1, 10) by decide +kernel) rfl rfl rfl k1 (Nat.le_of_ble_eq_true rfl) z1 n1 ?_
  refine r_s (fr' := (791, lv, [])) (hp' := hp1) (q := (.pop, 1, 0, 0, .null)) g790 (fun _ => rfl) (Nat.le_refl _) ?_
  refine q_lr (k := 1) (i := 2) (q := (.aload_n 2, 1, 0, 0, .null)) g791 (fun _ => rfl) l2 ?_
  refine l_arg (pc := 792) (k := 1) g792 g793 g794 g795 g796 l0 l3 hi (by omega) (by decide) hL ?_
  refine r_call (ix := 70) (as := [.int (xs (I + 1))]) (rest := []) (rv := some (.int x2)) (hp' := hp2) (pc := 797) g797 (show zar 264 = (1, 11) by decide +kernel) rfl rfl rfl k2 (Nat.le_of_ble_eq_true rfl) z2 n2 ?_
  refine r_s (fr' := (801, lv, [])) (hp' := hp2) (q := (.pop, 1, 0, 0, .null)) g800 (fun _ => rfl) (Nat.le_refl _) ?_
  exact r_s (fr' := (1041, lv, [])) (hp' := hp2) (q := (.goto 240, 3, 1041, 0, .null)) g801 (fun _ => rfl) (Nat.le_refl _) K
set_option maxRecDepth 20000 in
theorem lt22 (l0 : zld lv 0 = some (.ref 1000)) (l1 : zld lv 1 = some (.ref 0)) (l2 : zld lv 2 = some (.ref 70)) (l3 : zld lv 3 = some (.int i)) (hi : i.toInt = (I : Int)) (h6 : I + 6 ≤ L) (hL : L ≤ 3072) (k1 : zKd 0 hp = some 10) (k2 : zKd 70 hp1 = some 11) (z1 : zCan 20 147 [.ref 0, .int (xs (I + 1))] hp (some (.int x1), hp1)) (n1 : hp.1 ≤ hp1.1) (z2 : zCan 20 265 [.ref 70, .int (xs (I + 1))] hp1 (some (.int x2), hp2)) (n2 : hp1.1 ≤ hp2.1) (K : zR (some (L, xs)) 20 4 ret zcL (1041, lv, []) hp2 r) : zR (some (L, xs)) 20 4 ret zcL (804, lv, []) hp r := by
  refine q_lr (k := 1) (i := 1) (q := (.aload_n 1, 1, 0, 0, .null)) g804 (fun _ => rfl) l1 ?_
  refine l_arg (pc := 805) (k := 1) g805 g806 g807 g808 g809 l0 l3 hi (by omega) (by decide) hL ?_
  refine r_call (ix := 0) (as := [.int (xs (I + 1))]) (rest := []) (rv := some (.int x1)) (hp' := hp1) (pc := 810) g810 (show zar 147 = (1, 10) by decide +kernel) rfl rfl rfl k1 (Nat.le_of_ble_eq_true rfl) z1 n1 ?_
  refine r_s (fr' := (814, lv, [])) (hp' := hp1) (q := (.pop, 1, 0, 0, .null)) g813 (fun _ => rfl) (Nat.le_refl _) ?_
  refine q_lr (k := 1) (i := 2) (q := (.aload_n 2, 1, 0, 0, .null)) g814 (fun _ => rfl) l2 ?_
  refine l_arg (pc := 815) (k := 1) g815 g816 g817 g818 g819 l0 l3 hi (by omega) (by decide) hL ?_
  refine r_call (ix := 70) (as := [.int (xs (I + 1))]) (rest := []) (rv := some (.int x2)) (hp' := hp2) (pc := 820) g820 (show zar 265 = (1, 11) by decide +kernel) rfl rfl rfl k2 (Nat.le_of_ble_eq_true rfl) z2 n2 ?_
  refine r_s (fr' := (824, lv, [])) (hp' := hp2) (q := (.pop, 1, 0, 0, .null)) g823 (fun _ => rfl) (Nat.le_refl _) ?_
  exact r_s (fr' := (1041, lv, [])) (hp' := hp2) (q := (.goto 217, 3, 1041, 0, .null)) g824 (fun _ => rfl) (Nat.le_refl _) K
set_option maxRecDepth 20000 in
theorem lt23 (l0 : zld lv 0 = some (.ref 1000)) (l1 : zld lv 1 = some (.ref 0)) (l2 : zld lv 2 = some (.ref 70)) (l3 : zld lv 3 = some (.int i)) (hi : i.toInt = (I : Int)) (h6 : I + 6 ≤ L) (hL : L ≤ 3072) (k1 : zKd 0 hp = some 10) (k2 : zKd 70 hp1 = some 11) (z1 : zCan 20 148 [.ref 0, .int (xs (I + 1)), .int (xs (I + 2))] hp (some (.int x1), hp1)) (n1 : hp.1 ≤ hp1.1) (z2 : zCan 20 267 [.ref 70, .int (xs (I + 1)), .int (xs (I + 2))] hp1 (some (.int x2), hp2)) (n2 : hp1.1 ≤ hp2.1) (K : zR (some (L, xs)) 20 4 ret zcL (1041, lv, []) hp2 r) : zR (some (L, xs)) 20 4 ret zcL (827, lv, []) hp r := by
  refine q_lr (k := 1) (i := 1) (q := (.aload_n 1, 1, 0, 0, .null)) g827 (fun _ => rfl) l1 ?_
  refine l_arg (pc := 828) (k := 1) g828 g829 g830 g831 g832 l0 l3 hi (by omega) (by decide) hL ?_
  refine l_arg (pc := 833) (k := 2) g833 g834 g835 g836 g837 l0 l3 hi (by omega) (by decide) hL ?_
  refine r_call (ix := 0) (as := [.int (xs (I + 1)), .int (xs (I + 2))]) (rest := []) (rv := some (.int x1)) (hp' := hp1) (pc := 838) g838 (show zar 148 = (2, 10) by decide +kernel) rfl rfl rfl k1 (Nat.le_of_ble_eq_true rfl) z1 n1 ?_
  refine r_s (fr' := (842, lv, [])) (hp' := hp1) (q := (.pop, 1, 0, 0, .null)) g841 (fun _ => rfl) (Nat.le_refl _) ?_
  refine q_lr (k := 1) (i := 2) (q := (.aload_n 2, 1, 0, 0, .null)) g842 (fun _ => rfl) l2 ?_
  refine l_arg (pc := 843) (k := 1) g843 g844 g845 g846 g847 l0 l3 hi (by omega) (by decide) hL ?_
  refine l_arg (pc := 848) (k := 2) g848 g849 g850 g851 g852 l0 l3 hi (by omega) (by decide) hL ?_
  refine r_call (ix := 70) (as := [.int (xs (I + 1)), .int (xs (I + 2))]) (rest := []) (rv := some (.int x2)) (hp' := hp2) (pc := 853) g853 (show zar 267 = (2, 11) by decide +kernel) rfl rfl rfl k2 (Nat.le_of_ble_eq_true rfl) z2 n2 ?_
  refine r_s (fr' := (857, lv, [])) (hp' := hp2) (q := (.pop, 1, 0, 0, .null)) g856 (fun _ => rfl) (Nat.le_refl _) ?_
  exact r_s (fr' := (1041, lv, [])) (hp' := hp2) (q := (.goto 184, 3, 1041, 0, .null)) g857 (fun _ => rfl) (Nat.le_refl _) K
set_option maxRecDepth 20000 in
theorem lt24 (l0 : zld lv 0 = some (.ref 1000)) (l1 : zld lv 1 = some (.ref 0)) (l2 : zld lv 2 = some (.ref 70)) (l3 : zld lv 3 = some (.int i)) (hi : i.toInt = (I : Int)) (h6 : I + 6 ≤ L) (hL : L ≤ 3072) (k1 : zKd 0 hp = some 10) (k2 : zKd 70 hp1 = some 11) (z1 : zCan 20 149 [.ref 0, .int (xs (I + 1))] hp (some (.int x1), hp1)) (n1 : hp.1 ≤ hp1.1) (z2 : zCan 20 269 [.ref 70, .int (xs (I + 1))] hp1 (some (.int x2), hp2)) (n2 : hp1.1 ≤ hp2.1) (K : zR (some (L, xs)) 20 4 ret zcL (1041, lv, []) hp2 r) : zR (some (L, xs)) 20 4 ret zcL (860, lv, []) hp r := by
  refine q_lr (k := 1) (i := 1) (q := (.aload_n 1, 1, 0, 0, .null)) g860 (fun _ => rfl) l1 ?_
  refine l_arg (pc := 861) (k := 1) g861 g862 g863 g864 g865 l0 l3 hi (by omega) (by decide) hL ?_
  refine r_call (ix := 0) (as := [.int (xs (I + 1))]) (rest := []) (rv := some (.int x1)) (hp' := hp1) (pc := 866) g866 (show zar 149 = (1, 10) by decide +kernel) rfl rfl rfl k1 (Nat.le_of_ble_eq_true rfl) z1 n1 ?_
  refine r_s (fr' := (870, lv, [])) (hp' := hp1) (q := (.pop, 1, 0, 0, .null)) g869 (fun _ => rfl) (Nat.le_refl _) ?_
  refine q_lr (k := 1) (i := 2) (q := (.aload_n 2, 1, 0, 0, .null)) g870 (fun _ => rfl) l2 ?_
  refine l_arg (pc := 871) (k := 1) g871 g872 g873 g874 g875 l0 l3 hi (by omega) (by decide) hL ?_
  refine r_call (ix := 70) (as := [.int (xs (I + 1))]) (rest := []) (rv := some (.int x2)) (hp' := hp2) (pc := 876) g876 (show zar 269 = (1, 11) by decide +kernel) rfl rfl rfl k2 (Nat.le_of_ble_eq_true rfl) z2 n2 ?_
  refine r_s (fr' := (880, lv, [])) (hp' := hp2) (q := (.pop, 1, 0, 0, .null)) g879 (fun _ => rfl) (Nat.le_refl _) ?_
  exact r_s (fr' := (1041, lv, [])) (hp' := hp2) (q := (.goto 161, 3, 1041, 0, .null)) g880 (fun _ => rfl) (Nat.le_refl _) K
set_option maxRecDepth 20000 in
theorem lt25 (l0 : zld lv 0 = some (.ref 1000)) (l1 : zld lv 1 = some (.ref 0)) (l2 : zld lv 2 = some (.ref 70)) (l3 : zld lv 3 = some (.int i)) (hi : i.toInt = (I : Int)) (h6 : I + 6 ≤ L) (hL : L ≤ 3072) (k1 : zKd 0 hp = some 10) (k2 : zKd 70 hp1 = some 11) (z1 : zCan 20 150 [.ref 0, .int (xs (I + 1))] hp (some (.int x1), hp1)) (n1 : hp.1 ≤ hp1.1) (z2 : zCan 20 272 [.ref 70, .int (xs (I + 1))] hp1 (some (.int x2), hp2)) (n2 : hp1.1 ≤ hp2.1) (K : zR (some (L, xs)) 20 4 ret zcL (1041, lv, []) hp2 r) : zR (some (L, xs)) 20 4 ret zcL (883, lv, []) hp r := by
  refine q_lr (k := 1) (i := 1) (q := (.aload_n 1, 1, 0, 0, .null)) g883 (fun _ => rfl) l1 ?_
  refine l_arg (pc := 884) (k := 1) g884 g885 g886 g887 g888 l0 l3 hi (by omega) (by decide) hL ?_
  refine r_call (ix := 0) (as := [.int (xs (I + 1))]) (rest := []) (rv := some (.int x1)) (hp' := hp1) (pc := 889) g889 (show zar 150 = (1, 10) by decide +kernel) rfl rfl rfl k1 (Nat.le_of_ble_eq_true rfl) z1 n1 ?_
  refine r_s (fr' := (893, lv, [])) (hp' := hp1) (q := (.pop, 1, 0, 0, .null)) g892 (fun _ => rfl) (Nat.le_refl _) ?_
  refine q_lr (k := 1) (i := 2) (q := (.aload_n 2, 1, 0, 0, .null)) g893 (fun _ => rfl) l2 ?_
  refine l_arg (pc := 894) (k := 1) g894 g895 g896 g897 g898 l0 l3 hi (by omega) (by decide) hL ?_
  refine r_call (ix := 70) (as := [.int (xs (I + 1))]) (rest := []) (rv := some (.int x2)) (hp' := hp2) (pc := 899) g899 (show zar 272 = (1, 11) by decide +kernel) rfl rfl rfl k2 (Nat.le_of_ble_eq_true rfl) z2 n2 ?_
  refine r_s (fr' := (903, lv, [])) (hp' := hp2) (q := (.pop, 1, 0, 0, .null)) g902 (fun _ => rfl) (Nat.le_refl _) ?_
  exact r_s (fr' := (1041, lv, [])) (hp' := hp2) (q := (.goto 138, 3, 1041, 0, .null)) g903 (fun _ => rfl) (Nat.le_refl _) K
set_option maxRecDepth 20000 in
theorem lt26 (l0 : zld lv 0 = some (.ref 1000)) (l1 : zld lv 1 = some (.ref 0)) (l2 : zld lv 2 = some (.ref 70)) (l3 : zld lv 3 = some (.int i)) (hi : i.toInt = (I : Int)) (h6 : I + 6 ≤ L) (hL : L ≤ 3072) (k1 : zKd 0 hp = some 10) (k2 : zKd 70 hp1 = some 11) (z1 : zCan 20 152 [.ref 0, .int (xs (I + 1))] hp (some (.int x1), hp1)) (n1 : hp.1 ≤ hp1.1) (z2 : zCan 20 273 [.ref 70, .int (xs (I + 1))] hp1 (some (.int x2), hp2)) (n2 : hp1.1 ≤ hp2.1) (K : zR (some (L, xs)) 20 4 ret zcL (1041, lv, []) hp2 r) : zR (some (L, xs)) 20 4 ret zcL (906, lv, []) hp r := by
  refine q_lr (k := 1) (i := 1) (q := (.aload_n 1, 1, 0, 0, .null)) g906 (fun _ => rfl) l1 ?_
  refine l_arg (pc := 907) (k := 1) g907 g908 g909 g910 g911 l0 l3 hi (by omega) (by decide) hL ?_
  refine r_call (ix := 0) (as := [.int (xs (I + 1))]) (rest := []) (rv := some (.int x1)) (hp' := hp1) (pc := 912) g912 (show zar 152 = (1, 10) by decide +kernel) rfl rfl rfl k1 (Nat.le_of_ble_eq_true rfl) z1 n1 ?_
  refine r_s (fr' := (916, lv, [])) (hp' := hp1) (q := (.pop, 1, 0, 0, .null)) g915 (fun _ => rfl) (Nat.le_refl _) ?_
  refine q_lr (k := 1) (i := 2) (q := (.aload_n 2, 1, 0, 0, .null)) g916 (fun _ => rfl) l2 ?_
  refine l_arg (pc := 917) (k := 1) g917 g918 g919 g920 g921 l0 l3 hi (by omega) (by decide) hL ?_
  refine r_call (ix := 70) (as := [.int (xs (I + 1))]) (rest := []) (rv := some (.int x2)) (hp' := hp2) (pc := 922) g922 (show zar 273 = (1, 11) by decide +kernel) rfl rfl rfl k2 (Nat.le_of_ble_eq_true rfl) z2 n2 ?_
  refine r_s (fr' := (926, lv, [])) (hp' := hp2) (q := (.pop, 1, 0, 0, .null)) g925 (fun _ => rfl) (Nat.le_refl _) ?_
  exact r_s (fr' := (1041, lv, [])) (hp' := hp2) (q := (.goto 115, 3, 1041, 0, .null)) g926 (fun _ => rfl) (Nat.le_refl _) K
set_option maxRecDepth 20000 in
theorem lt27 (l0 : zld lv 0 = some (.ref 1000)) (l1 : zld lv 1 = some (.ref 0)) (l2 : zld lv 2 = some (.ref 70)) (l3 : zld lv 3 = some (.int i)) (hi : i.toInt = (I : Int)) (h6 : I + 6 ≤ L) (hL : L ≤ 3072) (k1 : zKd 0 hp = some 10) (k2 : zKd 70 hp1 = some 11) (z1 : zCan 20 153 [.ref 0, .int (xs (I + 1)), .int (xs (I + 2)), .int (xs (I + 3))] hp (some (.int x1), hp1)) (n1 : hp.1 ≤ hp1.1) (z2 : zCan 20 276 [.ref 70, .int (xs (I + 1)), .int (xs (I + 2)), .int (xs (I + 3))] hp1 (some (.int x2), hp2)) (n2 : hp1.1 ≤ hp2.1) (K : zR (some (L, xs)) 20 4 ret zcL (1041, lv, []) hp2 r) : zR (some (L, xs)) 20 4 ret zcL (929, lv, []) hp r := by
  refine q_lr (k := 1) (i := 1) (q := (.aload_n 1, 1, 0, 0, .null)) g929 (fun _ => rfl) l1 ?_
  refine l_arg (pc := 930) (k := 1) g930 g931 g932 g933 g934 l0 l3 hi (by omega) (by decide) hL ?_
  refine l_arg (pc := 935) (k := 2) g935 g936 g937 g938 g939 l0 l3 hi (by omega) (by decide) hL ?_
  refine l_arg (pc := 940) (k := 3) g940 g941 g942 g943 g944 l0 l3 hi (by omega) (by decide) hL ?_
  refine r_call (ix := 0) (as := [.int (xs (I + 1)), .int (xs (I + 2)), .int (xs (I + 3))]) (rest := []) (rv := some (.int x1)) (hp' := hp1) (pc := 945) g945 (show zar 153 = (3, 10) by decide +kernel) rfl rfl rfl k1 (Nat.le_of_ble_eq_true rfl) z1 n1 ?_
  refine r_s (fr' := (949, lv, [])) (hp' := hp1) (q := (.pop, 1, 0, 0, .null)) g948 (fun _ => rfl) (Nat.le_refl _) ?_
  refine q_lr (k := 1) (i := 2) (q := (.aload_n 2, 1, 0, 0, .null)) g949 (fun _ => rfl) l2 ?_
  refine l_arg (pc := 950) (k := 1) g950 g951 g952 g953 g954 l0 l3 hi (by omega) (by decide) hL ?_
  refine l_arg (pc := 955) (k := 2) g955 g956 g957 g958 g959 l0 l3 hi (by omega) (by decide) hL ?_
  refine l_arg (pc := 960) (k := 3) g960 g961 g962 g963 g964 l0 l3 hi (by omega) (by decide) hL ?_
  refine r_call (ix := 70) (as := [.int (xs (I + 1)), .int (xs (I + 2)), .int (xs (I + 3))]) (rest := []) (rv := some (.int x2)) (hp' := hp2) (pc := 965) g965 (show zar 276 = (3, 11) by decide +kernel) rfl rfl rfl k2 (Nat.le_of_ble_eq_true rfl) z2 n2 ?_
  refine r_s (fr' := (969, lv, [])) (hp' := hp2) (q := (.pop, 1, 0, 0, .null)) g968 (fun _ => rfl) (Nat.le_refl _) ?_
  exact r_s (fr' := (1041, lv, [])) (hp' := hp2) (q := (.goto 72, 3, 1041, 0, .null)) g969 (fun _ => rfl) (Nat.le_refl _) K
set_option maxRecDepth 20000 in
theorem lt28 (l0 : zld lv 0 = some (.ref 1000)) (l1 : zld lv 1 = some (.ref 0)) (l2 : zld lv 2 = some (.ref 70)) (l3 : zld lv 3 = some (.int i)) (hi : i.toInt = (I : Int)) (h6 : I + 6 ≤ L) (hL : L ≤ 3072) (k1 : zKd 0 hp = some 10) (k2 : zKd 70 hp1 = some 11) (z1 : zCan 20 154 [.ref 0, .int (xs (I + 1))] hp (some (.int x1), hp1)) (n1 : hp.1 ≤ hp1.1) (z2 : zCan 20 277 [.ref 70, .int (xs (I + 1))] hp1 (some (.int x2), hp2)) (n2 : hp1.1 ≤ hp2.1) (K : zR (some (L, xs)) 20 4 ret zcL (1041, lv, []) hp2 r) : zR (some (L, xs)) 20 4 ret zcL (972, lv, []) hp r := by
  refine q_lr (k := 1) (i := 1) (q := (.aload_n 1, 1, 0, 0, .null)) g972 (fun _ => rfl) l1 ?_
  refine l_arg (pc := 973) (k := 1) g973 g974 g975 g976 g977 l0 l3 hi (by omega) (by decide) hL ?_
  refine r_call (ix := 0) (as := [.int (xs (I + 1))]) (rest := []) (rv := some (.int x1)) (hp' := hp1) (pc := 978) g978 (show zar 154 = (1, 10) by decide +kernel) rfl rfl rfl k1 (Nat.le_of_ble_eq_true rfl) z1 n1 ?_
  refine r_s (fr' := (982, lv, [])) (hp' := hp1) (q := (.pop, 1, 0, 0, .null)) g981 (fun _ => rfl) (Nat.le_refl _) ?_
  refine q_lr (k := 1) (i := 2) (q := (.aload_n 2, 1, 0, 0, .null)) g982 (fun _ => rfl) l2 ?_
  refine l_arg (pc := 983) (k := 1) g983 g984 g985 g986 g987 l0 l3 hi (by omega) (by decide) hL ?_
  refine r_call (ix := 70) (as := [.int (xs (I + 1))]) (rest := []) (rv := some (.int x2)) (hp' := hp2) (pc := 988) g988 (show zar 277 = (1, 11) by decide +kernel) rfl rfl rfl k2 (Nat.le_of_ble_eq_true rfl) z2 n2 ?_
  refine r_s (fr' := (992, lv, [])) (hp' := hp2) (q := (.pop, 1, 0, 0, .null)) g991 (fun _ => rfl) (Nat.le_refl _) ?_
  exact r_s (fr' := (1041, lv, [])) (hp' := hp2) (q := (.goto 49, 3, 1041, 0, .null)) g992 (fun _ => rfl) (Nat.le_refl _) K
set_option maxRecDepth 20000 in
theorem lt29 (l0 : zld lv 0 = some (.ref 1000)) (l1 : zld lv 1 = some (.ref 0)) (l2 : zld lv 2 = some (.ref 70)) (l3 : zld lv 3 = some (.int i)) (hi : i.toInt = (I : Int)) (h6 : I + 6 ≤ L) (hL : L ≤ 3072) (k1 : zKd 0 hp = some 10) (k2 : zKd 70 hp1 = some 11) (z1 : zCan 20 155 [.ref 0, .int (xs (I + 1))] hp (some (.int x1), hp1)) (n1 : hp.1 ≤ hp1.1) (z2 : zCan 20 278 [.ref 70, .int (xs (I + 1))] hp1 (some (.int x2), hp2)) (n2 : hp1.1 ≤ hp2.1) (K : zR (some (L, xs)) 20 4 ret zcL (1041, lv, []) hp2 r) : zR (some (L, xs)) 20 4 ret zcL (995, lv, []) hp r := by
  refine q_lr (k := 1) (i := 1) (q := (.aload_n 1, 1, 0, 0, .null)) g995 (fun _ => rfl) l1 ?_
  refine l_arg (pc := 996) (k := 1) g996 g997 g998 g999 g1000 l0 l3 hi (by omega) (by decide) hL ?_
  refine r_call (ix := 0) (as := [.int (xs (I + 1))]) (rest := []) (rv := some (.int x1)) (hp' := hp1) (pc := 1001) g1001 (show zar 155 = (1, 10) by decide +kernel) rfl rfl rfl k1 (Nat.le_of_ble_eq_true rfl) z1 n1 ?_
  refine r_s (fr' := (1005, lv, [])) (hp' := hp1) (q := (.pop, 1, 0, 0, .null)) g1004 (fun _ => rfl) (Nat.le_refl _) ?_
  refine q_lr (k := 1) (i := 2) (q := (.aload_n 2, 1, 0, 0, .null)) g1005 (fun _ => rfl) l2 ?_
  refine l_arg (pc := 1006) (k := 1) g1006 g1007 g1008 g1009 g1010 l0 l3 hi (by omega) (by decide) hL ?_
  refine r_call (ix := 70) (as := [.int (xs (I + 1))]) (rest := []) (rv := some (.int x2)) (hp' := hp2) (pc := 1011) g1011 (show zar 278 = (1, 11) by decide +kernel) rfl rfl rfl k2 (Nat.le_of_ble_eq_true rfl) z2 n2 ?_
  refine r_s (fr' := (1015, lv, [])) (hp' := hp2) (q := (.pop, 1, 0, 0, .null)) g1014 (fun _ => rfl) (Nat.le_refl _) ?_
  exact r_s (fr' := (1041, lv, [])) (hp' := hp2) (q := (.goto 26, 3, 1041, 0, .null)) g1015 (fun _ => rfl) (Nat.le_refl _) K
set_option maxRecDepth 20000 in
theorem lt30 (l0 : zld lv 0 = some (.ref 1000)) (l1 : zld lv 1 = some (.ref 0)) (l2 : zld lv 2 = some (.ref 70)) (l3 : zld lv 3 = some (.int i)) (hi : i.toInt = (I : Int)) (h6 : I + 6 ≤ L) (hL : L ≤ 3072) (k1 : zKd 0 hp = some 10) (k2 : zKd 70 hp1 = some 11) (z1 : zCan 20 156 [.ref 0, .int (xs (I + 1))] hp (some (.int x1), hp1)) (n1 : hp.1 ≤ hp1.1) (z2 : zCan 20 279 [.ref 70, .int (xs (I + 1))] hp1 (some (.int x2), hp2)) (n2 : hp1.1 ≤ hp2.1) (K : zR (some (L, xs)) 20 4 ret zcL (1041, lv, []) hp2 r) : zR (some (L, xs)) 20 4 ret zcL (1018, lv, []) hp r := by
  refine q_lr (k := 1) (i := 1) (q := (.aload_n 1, 1, 0, 0, .null)) g1018 (fun _ => rfl) l1 ?_
  refine l_arg (pc := 1019) (k := 1) g1019 g1020 g1021 g1022 g1023 l0 l3 hi (by omega) (by decide) hL ?_
  refine r_call (ix := 0) (as := [.int (xs (I + 1))]) (rest := []) (rv := some (.int x1)) (hp' := hp1) (pc := 1024) g1024 (show zar 156 = (1, 10) by decide +kernel) rfl rfl rfl k1 (Nat.le_of_ble_eq_true rfl) z1 n1 ?_
  refine r_s (fr' := (1028, lv, [])) (hp' := hp1) (q := (.pop, 1, 0, 0, .null)) g1027 (fun _ => rfl) (Nat.le_refl _) ?_
  refine q_lr (k := 1) (i := 2) (q := (.aload_n 2, 1, 0, 0, .null)) g1028 (fun _ => rfl) l2 ?_
  refine l_arg (pc := 1029) (k := 1) g1029 g1030 g1031 g1032 g1033 l0 l3 hi (by omega) (by decide) hL ?_
  refine r_call (ix := 70) (as := [.int (xs (I + 1))]) (rest := []) (rv := some (.int x2)) (hp' := hp2) (pc := 1034) g1034 (show zar 279 = (1, 11) by decide +kernel) rfl rfl rfl k2 (Nat.le_of_ble_eq_true rfl) z2 n2 ?_
  refine r_s (fr' := (1038, lv, [])) (hp' := hp2) (q := (.pop, 1, 0, 0, .null)) g1037 (fun _ => rfl) (Nat.le_refl _) ?_
  exact r_s (fr' := (1041, lv, [])) (hp' := hp2) (q := (.goto 3, 3, 1041, 0, .null)) g1038 (fun _ => rfl) (Nat.le_refl _) K
end LTU
def lPs (Iv : zHp → Prop) : Prop := (∀ y1 y2 y3 y4 y5 : Int32, lP Iv 122 161 [.int y1, .int y2, .int y3, .int y4, .int y5] false) ∧ (∀ y1 y2 y3 y4 y5 : Int32, lP Iv 124 162 [.int y1] false) ∧ (∀ y1 y2 y3 y4 y5 : Int32, lP Iv 125 198 [] false) ∧ (∀ y1 y2 y3 y4 y5 : Int32, lP Iv 126 197 [] false) ∧ (∀ y1 y2 y3 y4 y5 : Int32, lP Iv 128 217 [.int y1, .int y2] false) ∧ (∀ y1 y2 y3 y4 y5 : Int32, lP Iv 129 218 [.int y1, .int y2] false) ∧ (∀ y1 y2 y3 y4 y5 : Int32, lP Iv 130 219 [.int y1, .int y2, .int y3] false) ∧ (∀ y1 y2 y3 y4 y5 : Int32, lP Iv 131 226 [.int y1, .int y2] false) ∧ (∀ y1 y2 y3 y4 y5 : Int32, lP Iv 132 227 [.int y1] false) ∧ (∀ y1 y2 y3 y4 y5 : Int32, lP Iv 133 228 [.int y1] false) ∧ (∀ y1 y2 y3 y4 y5 : Int32, lP Iv 134 230 [.int y1, .int y2] false) ∧ (∀ y1 y2 y3 y4 y5 : Int32, lP Iv 135 242 [] true) ∧ (∀ y1 y2 y3 y4 y5 : Int32, lP Iv 136 232 [.int y1, .int y2] false) ∧ (∀ y1 y2 y3 y4 y5 : Int32, lP Iv 137 234 [] false) ∧ (∀ y1 y2 y3 y4 y5 : Int32, lP Iv 138 221 [] false) ∧ (∀ y1 y2 y3 y4 y5 : Int32, lP Iv 139 248 [.int y1, .int y2] false) ∧ (∀ y1 y2 y3 y4 y5 : Int32, lP Iv 141 252 [.int y1, .int y2, .int (if y3 = 0 then 0 else 1), .int y4] false) ∧ (∀ y1 y2 y3 y4 y5 : Int32, lP Iv 142 257 [.int y1] false) ∧ (∀ y1 y2 y3 y4 y5 : Int32, lP Iv 143 258 [.int y1] false) ∧ (∀ y1 y2 y3 y4 y5 : Int32, lP Iv 144 261 [.int y1, .int y2] false) ∧ (∀ y1 y2 y3 y4 y5 : Int32, lP Iv 145 262 [.int y1] false) ∧ (∀ y1 y2 y3 y4 y5 : Int32, lP Iv 146 264 [.int y1] false) ∧ (∀ y1 y2 y3 y4 y5 : Int32, lP Iv 147 265 [.int y1] false) ∧ (∀ y1 y2 y3 y4 y5 : Int32, lP Iv 148 267 [.int y1, .int y2] false) ∧ (∀ y1 y2 y3 y4 y5 : Int32, lP Iv 149 269 [.int y1] false) ∧ (∀ y1 y2 y3 y4 y5 : Int32, lP Iv 150 272 [.int y1] false) ∧ (∀ y1 y2 y3 y4 y5 : Int32, lP Iv 152 273 [.int y1] false) ∧ (∀ y1 y2 y3 y4 y5 : Int32, lP Iv 153 276 [.int y1, .int y2, .int y3] false) ∧ (∀ y1 y2 y3 y4 y5 : Int32, lP Iv 154 277 [.int y1] false) ∧ (∀ y1 y2 y3 y4 y5 : Int32, lP Iv 155 278 [.int y1] false) ∧ (∀ y1 y2 y3 y4 y5 : Int32, lP Iv 156 279 [.int y1] false)
set_option maxRecDepth 20000 in
theorem lturn {Iv : zHp → Prop} {L : Nat} {xs : Nat → Int32} (hP : lPs Iv) {hp : zHp} {lv : List (Nat × Value)} {i : Int32} {I : Nat} (l0 : zld lv 0 = some (.ref 1000)) (l1 : zld lv 1 = some (.ref 0)) (l2 : zld lv 2 = some (.ref 70)) (l3 : zld lv 3 = some (.int i)) (hi : i.toInt = (I : Int)) (h6 : I + 6 ≤ L) (hL : L ≤ 3072) (hI : Iv hp) : ∃ hp2, Iv hp2 ∧ hp.1 ≤ hp2.1 ∧ ∀ r, zR (some (L, xs)) 20 4 ret zcL (1041, lv, []) hp2 r → zR (some (L, xs)) 20 4 ret zcL (33, lv, [.int (xs I &&& 31)]) hp r := by
  obtain ⟨p0, p1, p2, p3, p4, p5, p6, p7, p8, p9, p10, p11, p12, p13, p14, p15, p16, p17, p18, p19, p20, p21, p22, p23, p24, p25, p26, p27, p28, p29, p30⟩ := hP
  by_cases d0 : (xs I &&& 31 == 0) = true
  · obtain ⟨x1, x2, hp1, hp2, a1, a2, a3, a4, a5, a6, a7, a8⟩ := p0 (xs (I + 1)) (xs (I + 2)) (xs (I + 3)) (xs (I + 4)) (xs (I + 5)) hp hI
    exact ⟨hp2, a7, Nat.le_trans a4 a6, fun r K => q_sw (pc2 := 172) (q := (.tableswitch 1008 0 30 #[139, 202, 225, 238, 251, 284, 317, 360, 393, 416, 439, 472, 485, 518, 531, 544, 577, 646, 669, 692, 725, 748, 771, 794, 827, 850, 873, 896, 939, 962, 985], 139, 0, 0, .null)) d0 rfl (fun _ => rfl) (lt0 l0 l1 l2 l3 hi h6 hL a1 a2 a3 a4 a5 a6 K)⟩
  by_cases d1 : (xs I &&& 31 == 1) = true
  · obtain ⟨x1, x2, hp1, hp2, a1, a2, a3, a4, a5, a6, a7, a8⟩ := p1 (xs (I + 1)) (xs (I + 2)) (xs (I + 3)) (xs (I + 4)) (xs (I + 5)) hp hI
    exact ⟨hp2, a7, Nat.le_trans a4 a6, fun r K => q_sw (pc2 := 235) (q := (.tableswitch 1008 0 30 #[139, 202, 225, 238, 251, 284, 317, 360, 393, 416, 439, 472, 485, 518, 531, 544, 577, 646, 669, 692, 725, 748, 771, 794, 827, 850, 873, 896, 939, 962, 985], 139, 0, 0, .null)) d1 rfl (fun _ => rfl) (lt1 l0 l1 l2 l3 hi h6 hL a1 a2 a3 a4 a5 a6 K)⟩
  by_cases d2 : (xs I &&& 31 == 2) = true
  · obtain ⟨x1, x2, hp1, hp2, a1, a2, a3, a4, a5, a6, a7, a8⟩ := p2 (xs (I + 1)) (xs (I + 2)) (xs (I + 3)) (xs (I + 4)) (xs (I + 5)) hp hI
    exact ⟨hp2, a7, Nat.le_trans a4 a6, fun r K => q_sw (pc2 := 258) (q := (.tableswitch 1008 0 30 #[139, 202, 225, 238, 251, 284, 317, 360, 393, 416, 439, 472, 485, 518, 531, 544, 577, 646, 669, 692, 725, 748, 771, 794, 827, 850, 873, 896, 939, 962, 985], 139, 0, 0, .null)) d2 rfl (fun _ => rfl) (lt2 l0 l1 l2 l3 hi h6 hL a1 a2 a3 a4 a5 a6 K)⟩
  by_cases d3 : (xs I &&& 31 == 3) = true
  · obtain ⟨x1, x2, hp1, hp2, a1, a2, a3, a4, a5, a6, a7, a8⟩ := p3 (xs (I + 1)) (xs (I + 2)) (xs (I + 3)) (xs (I + 4)) (xs (I + 5)) hp hI
    exact ⟨hp2, a7, Nat.le_trans a4 a6, fun r K => q_sw (pc2 := 271) (q := (.tableswitch 1008 0 30 #[139, 202, 225, 238, 251, 284, 317, 360, 393, 416, 439, 472, 485, 518, 531, 544, 577, 646, 669, 692, 725, 748, 771, 794, 827, 850, 873, 896, 939, 962, 985], 139, 0, 0, .null)) d3 rfl (fun _ => rfl) (lt3 l0 l1 l2 l3 hi h6 hL a1 a2 a3 a4 a5 a6 K)⟩
  by_cases d4 : (xs I &&& 31 == 4) = true
  · obtain ⟨x1, x2, hp1, hp2, a1, a2, a3, a4, a5, a6, a7, a8⟩ := p4 (xs (I + 1)) (xs (I + 2)) (xs (I + 3)) (xs (I + 4)) (xs (I + 5)) hp hI
    exact ⟨hp2, a7, Nat.le_trans a4 a6, fun r K => q_sw (pc2 := 284) (q := (.tableswitch 1008 0 30 #[139, 202, 225, 238, 251, 284, 317, 360, 393, 416, 439, 472, 485, 518, 531, 544, 577, 646, 669, 692, 725, 748, 771, 794, 827, 850, 873, 896, 939, 962, 985], 139, 0, 0, .null)) d4 rfl (fun _ => rfl) (lt4 l0 l1 l2 l3 hi h6 hL a1 a2 a3 a4 a5 a6 K)⟩
  by_cases d5 : (xs I &&& 31 == 5) = true
  · obtain ⟨x1, x2, hp1, hp2, a1, a2, a3, a4, a5, a6, a7, a8⟩ := p5 (xs (I + 1)) (xs (I + 2)) (xs (I + 3)) (xs (I + 4)) (xs (I + 5)) hp hI
    exact ⟨hp2, a7, Nat.le_trans a4 a6, fun r K => q_sw (pc2 := 317) (q := (.tableswitch 1008 0 30 #[139, 202, 225, 238, 251, 284, 317, 360, 393, 416, 439, 472, 485, 518, 531, 544, 577, 646, 669, 692, 725, 748, 771, 794, 827, 850, 873, 896, 939, 962, 985], 139, 0, 0, .null)) d5 rfl (fun _ => rfl) (lt5 l0 l1 l2 l3 hi h6 hL a1 a2 a3 a4 a5 a6 K)⟩
  by_cases d6 : (xs I &&& 31 == 6) = true
  · obtain ⟨x1, x2, hp1, hp2, a1, a2, a3, a4, a5, a6, a7, a8⟩ := p6 (xs (I + 1)) (xs (I + 2)) (xs (I + 3)) (xs (I + 4)) (xs (I + 5)) hp hI
    exact ⟨hp2, a7, Nat.le_trans a4 a6, fun r K => q_sw (pc2 := 350) (q := (.tableswitch 1008 0 30 #[139, 202, 225, 238, 251, 284, 317, 360, 393, 416, 439, 472, 485, 518, 531, 544, 577, 646, 669, 692, 725, 748, 771, 794, 827, 850, 873, 896, 939, 962, 985], 139, 0, 0, .null)) d6 rfl (fun _ => rfl) (lt6 l0 l1 l2 l3 hi h6 hL a1 a2 a3 a4 a5 a6 K)⟩
  by_cases d7 : (xs I &&& 31 == 7) = true
  · obtain ⟨x1, x2, hp1, hp2, a1, a2, a3, a4, a5, a6, a7, a8⟩ := p7 (xs (I + 1)) (xs (I + 2)) (xs (I + 3)) (xs (I + 4)) (xs (I + 5)) hp hI
    exact ⟨hp2, a7, Nat.le_trans a4 a6, fun r K => q_sw (pc2 := 393) (q := (.tableswitch 1008 0 30 #[139, 202, 225, 238, 251, 284, 317, 360, 393, 416, 439, 472, 485, 518, 531, 544, 577, 646, 669, 692, 725, 748, 771, 794, 827, 850, 873, 896, 939, 962, 985], 139, 0, 0, .null)) d7 rfl (fun _ => rfl) (lt7 l0 l1 l2 l3 hi h6 hL a1 a2 a3 a4 a5 a6 K)⟩
  by_cases d8 : (xs I &&& 31 == 8) = true
  · obtain ⟨x1, x2, hp1, hp2, a1, a2, a3, a4, a5, a6, a7, a8⟩ := p8 (xs (I + 1)) (xs (I + 2)) (xs (I + 3)) (xs (I + 4)) (xs (I + 5)) hp hI
    exact ⟨hp2, a7, Nat.le_trans a4 a6, fun r K => q_sw (pc2 := 426) (q := (.tableswitch 1008 0 30 #[139, 202, 225, 238, 251, 284, 317, 360, 393, 416, 439, 472, 485, 518, 531, 544, 577, 646, 669, 692, 725, 748, 771, 794, 827, 850, 873, 896, 939, 962, 985], 139, 0, 0, .null)) d8 rfl (fun _ => rfl) (lt8 l0 l1 l2 l3 hi h6 hL a1 a2 a3 a4 a5 a6 K)⟩
  by_cases d9 : (xs I &&& 31 == 9) = true
  · obtain ⟨x1, x2, hp1, hp2, a1, a2, a3, a4, a5, a6, a7, a8⟩ := p9 (xs (I + 1)) (xs (I + 2)) (xs (I + 3)) (xs (I + 4)) (xs (I + 5)) hp hI
    exact ⟨hp2, a7, Nat.le_trans a4 a6, fun r K => q_sw (pc2 := 449) (q := (.tableswitch 1008 0 30 #[139, 202, 225, 238, 251, 284, 317, 360, 393, 416, 439, 472, 485, 518, 531, 544, 577, 646, 669, 692, 725, 748, 771, 794, 827, 850, 873, 896, 939, 962, 985], 139, 0, 0, .null)) d9 rfl (fun _ => rfl) (lt9 l0 l1 l2 l3 hi h6 hL a1 a2 a3 a4 a5 a6 K)⟩
  by_cases d10 : (xs I &&& 31 == 10) = true
  · obtain ⟨x1, x2, hp1, hp2, a1, a2, a3, a4, a5, a6, a7, a8⟩ := p10 (xs (I + 1)) (xs (I + 2)) (xs (I + 3)) (xs (I + 4)) (xs (I + 5)) hp hI
    exact ⟨hp2, a7, Nat.le_trans a4 a6, fun r K => q_sw (pc2 := 472) (q := (.tableswitch 1008 0 30 #[139, 202, 225, 238, 251, 284, 317, 360, 393, 416, 439, 472, 485, 518, 531, 544, 577, 646, 669, 692, 725, 748, 771, 794, 827, 850, 873, 896, 939, 962, 985], 139, 0, 0, .null)) d10 rfl (fun _ => rfl) (lt10 l0 l1 l2 l3 hi h6 hL a1 a2 a3 a4 a5 a6 K)⟩
  by_cases d11 : (xs I &&& 31 == 11) = true
  · obtain ⟨x1, x2, hp1, hp2, a1, a2, a3, a4, a5, a6, a7, a8⟩ := p11 (xs (I + 1)) (xs (I + 2)) (xs (I + 3)) (xs (I + 4)) (xs (I + 5)) hp hI
    exact ⟨hp2, a7, Nat.le_trans a4 a6, fun r K => q_sw (pc2 := 505) (q := (.tableswitch 1008 0 30 #[139, 202, 225, 238, 251, 284, 317, 360, 393, 416, 439, 472, 485, 518, 531, 544, 577, 646, 669, 692, 725, 748, 771, 794, 827, 850, 873, 896, 939, 962, 985], 139, 0, 0, .null)) d11 rfl (fun _ => rfl) (lt11 l0 l1 l2 l3 hi h6 hL a1 a2 a3 a4 a5 a6 (a8 rfl) K)⟩
  by_cases d12 : (xs I &&& 31 == 12) = true
  · obtain ⟨x1, x2, hp1, hp2, a1, a2, a3, a4, a5, a6, a7, a8⟩ := p12 (xs (I + 1)) (xs (I + 2)) (xs (I + 3)) (xs (I + 4)) (xs (I + 5)) hp hI
    exact ⟨hp2, a7, Nat.le_trans a4 a6, fun r K => q_sw (pc2 := 518) (q := (.tableswitch 1008 0 30 #[139, 202, 225, 238, 251, 284, 317, 360, 393, 416, 439, 472, 485, 518, 531, 544, 577, 646, 669, 692, 725, 748, 771, 794, 827, 850, 873, 896, 939, 962, 985], 139, 0, 0, .null)) d12 rfl (fun _ => rfl) (lt12 l0 l1 l2 l3 hi h6 hL a1 a2 a3 a4 a5 a6 K)⟩
  by_cases d13 : (xs I &&& 31 == 13) = true
  · obtain ⟨x1, x2, hp1, hp2, a1, a2, a3, a4, a5, a6, a7, a8⟩ := p13 (xs (I + 1)) (xs (I + 2)) (xs (I + 3)) (xs (I + 4)) (xs (I + 5)) hp hI
    exact ⟨hp2, a7, Nat.le_trans a4 a6, fun r K => q_sw (pc2 := 551) (q := (.tableswitch 1008 0 30 #[139, 202, 225, 238, 251, 284, 317, 360, 393, 416, 439, 472, 485, 518, 531, 544, 577, 646, 669, 692, 725, 748, 771, 794, 827, 850, 873, 896, 939, 962, 985], 139, 0, 0, .null)) d13 rfl (fun _ => rfl) (lt13 l0 l1 l2 l3 hi h6 hL a1 a2 a3 a4 a5 a6 K)⟩
  by_cases d14 : (xs I &&& 31 == 14) = true
  · obtain ⟨x1, x2, hp1, hp2, a1, a2, a3, a4, a5, a6, a7, a8⟩ := p14 (xs (I + 1)) (xs (I + 2)) (xs (I + 3)) (xs (I + 4)) (xs (I + 5)) hp hI
    exact ⟨hp2, a7, Nat.le_trans a4 a6, fun r K => q_sw (pc2 := 564) (q := (.tableswitch 1008 0 30 #[139, 202, 225, 238, 251, 284, 317, 360, 393, 416, 439, 472, 485, 518, 531, 544, 577, 646, 669, 692, 725, 748, 771, 794, 827, 850, 873, 896, 939, 962, 985], 139, 0, 0, .null)) d14 rfl (fun _ => rfl) (lt14 l0 l1 l2 l3 hi h6 hL a1 a2 a3 a4 a5 a6 K)⟩
  by_cases d15 : (xs I &&& 31 == 15) = true
  · obtain ⟨x1, x2, hp1, hp2, a1, a2, a3, a4, a5, a6, a7, a8⟩ := p15 (xs (I + 1)) (xs (I + 2)) (xs (I + 3)) (xs (I + 4)) (xs (I + 5)) hp hI
    exact ⟨hp2, a7, Nat.le_trans a4 a6, fun r K => q_sw (pc2 := 577) (q := (.tableswitch 1008 0 30 #[139, 202, 225, 238, 251, 284, 317, 360, 393, 416, 439, 472, 485, 518, 531, 544, 577, 646, 669, 692, 725, 748, 771, 794, 827, 850, 873, 896, 939, 962, 985], 139, 0, 0, .null)) d15 rfl (fun _ => rfl) (lt15 l0 l1 l2 l3 hi h6 hL a1 a2 a3 a4 a5 a6 K)⟩
  by_cases d16 : (xs I &&& 31 == 16) = true
  · obtain ⟨x1, x2, hp1, hp2, a1, a2, a3, a4, a5, a6, a7, a8⟩ := p16 (xs (I + 1)) (xs (I + 2)) (xs (I + 3)) (xs (I + 4)) (xs (I + 5)) hp hI
    exact ⟨hp2, a7, Nat.le_trans a4 a6, fun r K => q_sw (pc2 := 610) (q := (.tableswitch 1008 0 30 #[139, 202, 225, 238, 251, 284, 317, 360, 393, 416, 439, 472, 485, 518, 531, 544, 577, 646, 669, 692, 725, 748, 771, 794, 827, 850, 873, 896, 939, 962, 985], 139, 0, 0, .null)) d16 rfl (fun _ => rfl) (lt16 l0 l1 l2 l3 hi h6 hL a1 a2 a3 a4 a5 a6 K)⟩
  by_cases d17 : (xs I &&& 31 == 17) = true
  · obtain ⟨x1, x2, hp1, hp2, a1, a2, a3, a4, a5, a6, a7, a8⟩ := p17 (xs (I + 1)) (xs (I + 2)) (xs (I + 3)) (xs (I + 4)) (xs (I + 5)) hp hI
    exact ⟨hp2, a7, Nat.le_trans a4 a6, fun r K => q_sw (pc2 := 679) (q := (.tableswitch 1008 0 30 #[139, 202, 225, 238, 251, 284, 317, 360, 393, 416, 439, 472, 485, 518, 531, 544, 577, 646, 669, 692, 725, 748, 771, 794, 827, 850, 873, 896, 939, 962, 985], 139, 0, 0, .null)) d17 rfl (fun _ => rfl) (lt17 l0 l1 l2 l3 hi h6 hL a1 a2 a3 a4 a5 a6 K)⟩
  by_cases d18 : (xs I &&& 31 == 18) = true
  · obtain ⟨x1, x2, hp1, hp2, a1, a2, a3, a4, a5, a6, a7, a8⟩ := p18 (xs (I + 1)) (xs (I + 2)) (xs (I + 3)) (xs (I + 4)) (xs (I + 5)) hp hI
    exact ⟨hp2, a7, Nat.le_trans a4 a6, fun r K => q_sw (pc2 := 702) (q := (.tableswitch 1008 0 30 #[139, 202, 225, 238, 251, 284, 317, 360, 393, 416, 439, 472, 485, 518, 531, 544, 577, 646, 669, 692, 725, 748, 771, 794, 827, 850, 873, 896, 939, 962, 985], 139, 0, 0, .null)) d18 rfl (fun _ => rfl) (lt18 l0 l1 l2 l3 hi h6 hL a1 a2 a3 a4 a5 a6 K)⟩
  by_cases d19 : (xs I &&& 31 == 19) = true
  · obtain ⟨x1, x2, hp1, hp2, a1, a2, a3, a4, a5, a6, a7, a8⟩ := p19 (xs (I + 1)) (xs (I + 2)) (xs (I + 3)) (xs (I + 4)) (xs (I + 5)) hp hI
    exact ⟨hp2, a7, Nat.le_trans a4 a6, fun r K => q_sw (pc2 := 725) (q := (.tableswitch 1008 0 30 #[139, 202, 225, 238, 251, 284, 317, 360, 393, 416, 439, 472, 485, 518, 531, 544, 577, 646, 669, 692, 725, 748, 771, 794, 827, 850, 873, 896, 939, 962, 985], 139, 0, 0, .null)) d19 rfl (fun _ => rfl) (lt19 l0 l1 l2 l3 hi h6 hL a1 a2 a3 a4 a5 a6 K)⟩
  by_cases d20 : (xs I &&& 31 == 20) = true
  · obtain ⟨x1, x2, hp1, hp2, a1, a2, a3, a4, a5, a6, a7, a8⟩ := p20 (xs (I + 1)) (xs (I + 2)) (xs (I + 3)) (xs (I + 4)) (xs (I + 5)) hp hI
    exact ⟨hp2, a7, Nat.le_trans a4 a6, fun r K => q_sw (pc2 := 758) (q := (.tableswitch 1008 0 30 #[139, 202, 225, 238, 251, 284, 317, 360, 393, 416, 439, 472, 485, 518, 531, 544, 577, 646, 669, 692, 725, 748, 771, 794, 827, 850, 873, 896, 939, 962, 985], 139, 0, 0, .null)) d20 rfl (fun _ => rfl) (lt20 l0 l1 l2 l3 hi h6 hL a1 a2 a3 a4 a5 a6 K)⟩
  by_cases d21 : (xs I &&& 31 == 21) = true
  · obtain ⟨x1, x2, hp1, hp2, a1, a2, a3, a4, a5, a6, a7, a8⟩ := p21 (xs (I + 1)) (xs (I + 2)) (xs (I + 3)) (xs (I + 4)) (xs (I + 5)) hp hI
    exact ⟨hp2, a7, Nat.le_trans a4 a6, fun r K => q_sw (pc2 := 781) (q := (.tableswitch 1008 0 30 #[139, 202, 225, 238, 251, 284, 317, 360, 393, 416, 439, 472, 485, 518, 531, 544, 577, 646, 669, 692, 725, 748, 771, 794, 827, 850, 873, 896, 939, 962, 985], 139, 0, 0, .null)) d21 rfl (fun _ => rfl) (lt21 l0 l1 l2 l3 hi h6 hL a1 a2 a3 a4 a5 a6 K)⟩
  by_cases d22 : (xs I &&& 31 == 22) = true
  · obtain ⟨x1, x2, hp1, hp2, a1, a2, a3, a4, a5, a6, a7, a8⟩ := p22 (xs (I + 1)) (xs (I + 2)) (xs (I + 3)) (xs (I + 4)) (xs (I + 5)) hp hI
    exact ⟨hp2, a7, Nat.le_trans a4 a6, fun r K => q_sw (pc2 := 804) (q := (.tableswitch 1008 0 30 #[139, 202, 225, 238, 251, 284, 317, 360, 393, 416, 439, 472, 485, 518, 531, 544, 577, 646, 669, 692, 725, 748, 771, 794, 827, 850, 873, 896, 939, 962, 985], 139, 0, 0, .null)) d22 rfl (fun _ => rfl) (lt22 l0 l1 l2 l3 hi h6 hL a1 a2 a3 a4 a5 a6 K)⟩
  by_cases d23 : (xs I &&& 31 == 23) = true
  · obtain ⟨x1, x2, hp1, hp2, a1, a2, a3, a4, a5, a6, a7, a8⟩ := p23 (xs (I + 1)) (xs (I + 2)) (xs (I + 3)) (xs (I + 4)) (xs (I + 5)) hp hI
    exact ⟨hp2, a7, Nat.le_trans a4 a6, fun r K => q_sw (pc2 := 827) (q := (.tableswitch 1008 0 30 #[139, 202, 225, 238, 251, 284, 317, 360, 393, 416, 439, 472, 485, 518, 531, 544, 577, 646, 669, 692, 725, 748, 771, 794, 827, 850, 873, 896, 939, 962, 985], 139, 0, 0, .null)) d23 rfl (fun _ => rfl) (lt23 l0 l1 l2 l3 hi h6 hL a1 a2 a3 a4 a5 a6 K)⟩
  by_cases d24 : (xs I &&& 31 == 24) = true
  · obtain ⟨x1, x2, hp1, hp2, a1, a2, a3, a4, a5, a6, a7, a8⟩ := p24 (xs (I + 1)) (xs (I + 2)) (xs (I + 3)) (xs (I + 4)) (xs (I + 5)) hp hI
    exact ⟨hp2, a7, Nat.le_trans a4 a6, fun r K => q_sw (pc2 := 860) (q := (.tableswitch 1008 0 30 #[139, 202, 225, 238, 251, 284, 317, 360, 393, 416, 439, 472, 485, 518, 531, 544, 577, 646, 669, 692, 725, 748, 771, 794, 827, 850, 873, 896, 939, 962, 985], 139, 0, 0, .null)) d24 rfl (fun _ => rfl) (lt24 l0 l1 l2 l3 hi h6 hL a1 a2 a3 a4 a5 a6 K)⟩
  by_cases d25 : (xs I &&& 31 == 25) = true
  · obtain ⟨x1, x2, hp1, hp2, a1, a2, a3, a4, a5, a6, a7, a8⟩ := p25 (xs (I + 1)) (xs (I + 2)) (xs (I + 3)) (xs (I + 4)) (xs (I + 5)) hp hI
    exact ⟨hp2, a7, Nat.le_trans a4 a6, fun r K => q_sw (pc2 := 883) (q := (.tableswitch 1008 0 30 #[139, 202, 225, 238, 251, 284, 317, 360, 393, 416, 439, 472, 485, 518, 531, 544, 577, 646, 669, 692, 725, 748, 771, 794, 827, 850, 873, 896, 939, 962, 985], 139, 0, 0, .null)) d25 rfl (fun _ => rfl) (lt25 l0 l1 l2 l3 hi h6 hL a1 a2 a3 a4 a5 a6 K)⟩
  by_cases d26 : (xs I &&& 31 == 26) = true
  · obtain ⟨x1, x2, hp1, hp2, a1, a2, a3, a4, a5, a6, a7, a8⟩ := p26 (xs (I + 1)) (xs (I + 2)) (xs (I + 3)) (xs (I + 4)) (xs (I + 5)) hp hI
    exact ⟨hp2, a7, Nat.le_trans a4 a6, fun r K => q_sw (pc2 := 906) (q := (.tableswitch 1008 0 30 #[139, 202, 225, 238, 251, 284, 317, 360, 393, 416, 439, 472, 485, 518, 531, 544, 577, 646, 669, 692, 725, 748, 771, 794, 827, 850, 873, 896, 939, 962, 985], 139, 0, 0, .null)) d26 rfl (fun _ => rfl) (lt26 l0 l1 l2 l3 hi h6 hL a1 a2 a3 a4 a5 a6 K)⟩
  by_cases d27 : (xs I &&& 31 == 27) = true
  · obtain ⟨x1, x2, hp1, hp2, a1, a2, a3, a4, a5, a6, a7, a8⟩ := p27 (xs (I + 1)) (xs (I + 2)) (xs (I + 3)) (xs (I + 4)) (xs (I + 5)) hp hI
    exact ⟨hp2, a7, Nat.le_trans a4 a6, fun r K => q_sw (pc2 := 929) (q := (.tableswitch 1008 0 30 #[139, 202, 225, 238, 251, 284, 317, 360, 393, 416, 439, 472, 485, 518, 531, 544, 577, 646, 669, 692, 725, 748, 771, 794, 827, 850, 873, 896, 939, 962, 985], 139, 0, 0, .null)) d27 rfl (fun _ => rfl) (lt27 l0 l1 l2 l3 hi h6 hL a1 a2 a3 a4 a5 a6 K)⟩
  by_cases d28 : (xs I &&& 31 == 28) = true
  · obtain ⟨x1, x2, hp1, hp2, a1, a2, a3, a4, a5, a6, a7, a8⟩ := p28 (xs (I + 1)) (xs (I + 2)) (xs (I + 3)) (xs (I + 4)) (xs (I + 5)) hp hI
    exact ⟨hp2, a7, Nat.le_trans a4 a6, fun r K => q_sw (pc2 := 972) (q := (.tableswitch 1008 0 30 #[139, 202, 225, 238, 251, 284, 317, 360, 393, 416, 439, 472, 485, 518, 531, 544, 577, 646, 669, 692, 725, 748, 771, 794, 827, 850, 873, 896, 939, 962, 985], 139, 0, 0, .null)) d28 rfl (fun _ => rfl) (lt28 l0 l1 l2 l3 hi h6 hL a1 a2 a3 a4 a5 a6 K)⟩
  by_cases d29 : (xs I &&& 31 == 29) = true
  · obtain ⟨x1, x2, hp1, hp2, a1, a2, a3, a4, a5, a6, a7, a8⟩ := p29 (xs (I + 1)) (xs (I + 2)) (xs (I + 3)) (xs (I + 4)) (xs (I + 5)) hp hI
    exact ⟨hp2, a7, Nat.le_trans a4 a6, fun r K => q_sw (pc2 := 995) (q := (.tableswitch 1008 0 30 #[139, 202, 225, 238, 251, 284, 317, 360, 393, 416, 439, 472, 485, 518, 531, 544, 577, 646, 669, 692, 725, 748, 771, 794, 827, 850, 873, 896, 939, 962, 985], 139, 0, 0, .null)) d29 rfl (fun _ => rfl) (lt29 l0 l1 l2 l3 hi h6 hL a1 a2 a3 a4 a5 a6 K)⟩
  by_cases d30 : (xs I &&& 31 == 30) = true
  · obtain ⟨x1, x2, hp1, hp2, a1, a2, a3, a4, a5, a6, a7, a8⟩ := p30 (xs (I + 1)) (xs (I + 2)) (xs (I + 3)) (xs (I + 4)) (xs (I + 5)) hp hI
    exact ⟨hp2, a7, Nat.le_trans a4 a6, fun r K => q_sw (pc2 := 1018) (q := (.tableswitch 1008 0 30 #[139, 202, 225, 238, 251, 284, 317, 360, 393, 416, 439, 472, 485, 518, 531, 544, 577, 646, 669, 692, 725, 748, 771, 794, 827, 850, 873, 896, 939, 962, 985], 139, 0, 0, .null)) d30 rfl (fun _ => rfl) (lt30 l0 l1 l2 l3 hi h6 hL a1 a2 a3 a4 a5 a6 K)⟩
  have b31 : (xs I &&& 31).toInt < 0 ∨ 30 < (xs I &&& 31).toInt := by
    have z0 := xne (z := 0) rfl d0
    have z1 := xne (z := 1) rfl d1
    have z2 := xne (z := 2) rfl d2
    have z3 := xne (z := 3) rfl d3
    have z4 := xne (z := 4) rfl d4
    have z5 := xne (z := 5) rfl d5
    have z6 := xne (z := 6) rfl d6
    have z7 := xne (z := 7) rfl d7
    have z8 := xne (z := 8) rfl d8
    have z9 := xne (z := 9) rfl d9
    have z10 := xne (z := 10) rfl d10
    have z11 := xne (z := 11) rfl d11
    have z12 := xne (z := 12) rfl d12
    have z13 := xne (z := 13) rfl d13
    have z14 := xne (z := 14) rfl d14
    have z15 := xne (z := 15) rfl d15
    have z16 := xne (z := 16) rfl d16
    have z17 := xne (z := 17) rfl d17
    have z18 := xne (z := 18) rfl d18
    have z19 := xne (z := 19) rfl d19
    have z20 := xne (z := 20) rfl d20
    have z21 := xne (z := 21) rfl d21
    have z22 := xne (z := 22) rfl d22
    have z23 := xne (z := 23) rfl d23
    have z24 := xne (z := 24) rfl d24
    have z25 := xne (z := 25) rfl d25
    have z26 := xne (z := 26) rfl d26
    have z27 := xne (z := 27) rfl d27
    have z28 := xne (z := 28) rfl d28
    have z29 := xne (z := 29) rfl d29
    have z30 := xne (z := 30) rfl d30
    omega
  exact ⟨hp, hI, Nat.le_refl _, fun r K => q_td (pc2 := 1041) (q := (.tableswitch 1008 0 30 #[139, 202, 225, 238, 251, 284, 317, 360, 393, 416, 439, 472, 485, 518, 531, 544, 577, 646, 669, 692, 725, 748, 771, 794, 827, 850, 873, 896, 939, 962, 985], 139, 0, 0, .null)) (dflt := 1008) (lo := 0) (hi := 30) (offs := #[139, 202, 225, 238, 251, 284, 317, 360, 393, 416, 439, 472, 485, 518, 531, 544, 577, 646, 669, 692, 725, 748, 771, 794, 827, 850, 873, 896, 939, 962, 985]) b31 rfl (fun _ => rfl) rfl K⟩
set_option maxRecDepth 20000 in
theorem lloop {Iv : zHp → Prop} {L : Nat} {xs : Nat → Int32} (hP : lPs Iv) (hN : ∀ hp, Iv hp → hp.1 ≤ 1000) (hL : L ≤ 3072) : ∀ (k : Nat) {hp : zHp} {lv : List (Nat × Value)} {i : Int32} {I : Nat}, zld lv 0 = some (.ref 1000) → zld lv 1 = some (.ref 0) → zld lv 2 = some (.ref 70) → zld lv 3 = some (.int i) → i.toInt = (I : Int) → I ≤ L → L < I + k → Iv hp → ∃ z : zHp, zR (some (L, xs)) 20 4 ret zcL (18, lv, []) hp (some (.int 1), z) ∧ z.1 ≤ 1000
  | 0, hp, lv, i, I, l0, l1, l2, l3, hi, h1, h2, hI => by omega
  | k + 1, hp, lv, i, I, l0, l1, l2, l3, hi, h1, h2, hI => by
    have e6 : (Int32.ofNat L - 6).toInt = (L : Int) - 6 := (xs1 (by rw [xI (by omega)]; show _ ≤ _ - (6 : Int); omega) (by rw [xI (by omega)]; show _ - (6 : Int) ≤ _; omega)).trans (by rw [xI (by omega)]; rfl)
    have head : ∀ {r : zRe}, (zcmp .gt i (Int32.ofNat L - 6) = true → zR (some (L, xs)) 20 4 ret zcL (1047, lv, []) hp r) → (zcmp .gt i (Int32.ofNat L - 6) = false → zR (some (L, xs)) 20 4 ret zcL (27, lv, []) hp r) → zR (some (L, xs)) 20 4 ret zcL (18, lv, []) hp r := by
      intro r K1 K2
      refine q_li (k := 1) (i := 3) (q := (.iload_n 3, 1, 0, 0, .null)) rfl (fun _ => rfl) l3 ?_
      refine q_lr (k := 1) (i := 0) (x := 1000) (q := (.aload_n 0, 1, 0, 0, .null)) rfl (fun _ => rfl) l0 ?_
      refine r_s (fr' := (21, lv, [.int (Int32.ofNat L), .int i])) (hp' := hp) (q := (.arraylength, 1, 0, 0, .null)) rfl (fun call => ?_) (Nat.le_refl _) ?_
      · show zAlen ztb (some (L, xs)) (20, lv, [.ref 1000, .int i]) hp = _
        unfold zAlen
        dsimp only
        rw [if_neg (by decide)]
        have e : ztb (some (L, xs)) (1000 - zSC) = some (0, L, xs) := rfl
        rw [e]
        rfl
      refine r_s (fr' := (23, lv, [.int 6, .int (Int32.ofNat L), .int i])) (hp' := hp) (q := (.bipush 6, 2, 0, 0, .null)) rfl (fun _ => rfl) (Nat.le_refl _) ?_
      refine r_s (fr' := (24, lv, [.int (Int32.ofNat L - 6), .int i])) (hp' := hp) (q := (.isub, 1, 0, 0, .null)) rfl (fun _ => rfl) (Nat.le_refl _) ?_
      exact r_ifc (len := 3) (a := 1047) (b := 0) (v0 := .null) (cn := .gt) (off := 1023) rfl K1 K2
    by_cases c : zcmp .gt i (Int32.ofNat L - 6) = true
    · refine ⟨hp, head (fun _ => ?_) (fun c2 => absurd c (by rw [c2]; decide)), hN hp hI⟩
      refine r_s (fr' := (1048, lv, [.int 1])) (hp' := hp) (q := (.iconst 1, 1, 0, 0, .null)) rfl (fun _ => rfl) (Nat.le_refl _) ?_
      exact q_ri (ty := .boolean) (q := (.ireturn, 1, 0, 0, .null)) rfl (fun _ => rfl) rfl rfl
    · have c0 : zcmp .gt i (Int32.ofNat L - 6) = false := by simpa using c
      have c3 : ¬ (Int32.ofNat L - 6).toInt < i.toInt := zf c0
      have h6 : I + 6 ≤ L := by omega
      obtain ⟨hp2, i2, -, T⟩ := lturn (xs := xs) hP l0 l1 l2 l3 hi h6 hL hI
      have m0 : zld (zs1 lv 3 (.int (i + Int32.ofInt 6))) 0 = some (.ref 1000) := x_o1 l0 rfl rfl
      have m1 : zld (zs1 lv 3 (.int (i + Int32.ofInt 6))) 1 = some (.ref 0) := x_o1 l1 rfl rfl
      have m2 : zld (zs1 lv 3 (.int (i + Int32.ofInt 6))) 2 = some (.ref 70) := x_o1 l2 rfl rfl
      have m3 : zld (zs1 lv 3 (.int (i + Int32.ofInt 6))) 3 = some (.int (i + Int32.ofInt 6)) := zs1_ld _ _ _
      have e7 : (i + Int32.ofInt 6).toInt = ((I + 6 : Nat) : Int) := (xa1 (by show _ ≤ _ + (6 : Int); omega) (by show _ + (6 : Int) ≤ _; omega)).trans (by rw [hi]; rfl)
      obtain ⟨z, z1, z2⟩ := lloop hP hN hL k m0 m1 m2 m3 e7 h6 (by omega) i2
      refine ⟨z, head (fun c2 => absurd c2 c) (fun _ => ?_), z2⟩
      refine q_lr (k := 1) (i := 0) (x := 1000) (q := (.aload_n 0, 1, 0, 0, .null)) rfl (fun _ => rfl) l0 ?_
      refine q_li (k := 1) (i := 3) (q := (.iload_n 3, 1, 0, 0, .null)) rfl (fun _ => rfl) l3 ?_
      refine q_sil (i := 1000) (n := L) (f := xs) (pc := 29) (len := 1) (a := 0) (b := 0) (v0 := .null) rfl (by decide) rfl (xib_t (by omega) (by omega)) ?_
      rw [show i.toNatClampNeg = I by show i.toInt.toNat = I; omega]
      refine r_s (fr' := (32, lv, [.int 31, .int (xs I)])) (hp' := hp) (q := (.bipush 31, 2, 0, 0, .null)) rfl (fun _ => rfl) (Nat.le_refl _) ?_
      refine r_s (fr' := (33, lv, [.int (xs I &&& 31)])) (hp' := hp) (q := (.iand, 1, 0, 0, .null)) rfl (fun _ => rfl) (Nat.le_refl _) ?_
      refine T _ ?_
      refine q_inc (i := 3) (n := 6) (q := (.iinc 3 6, 3, 0, 0, .null)) rfl (fun _ => rfl) l3 (by decide) ?_
      exact r_s (fr' := (18, zs1 lv 3 (.int (i + Int32.ofInt 6)), [])) (hp' := hp2) (q := (.goto (-1026), 3, 18, 0, .null)) rfl (fun _ => rfl) (Nat.le_refl _) z1
/-- the law answers 1 -/
theorem lLaw {Iv : zHp → Prop} (hP : lPs Iv) (hN : ∀ hp, Iv hp → hp.1 ≤ 1000) (h0 : Iv hpC) (L : Nat) (hL : L ≤ 3072) (xs : Nat → Int32) : ∃ (f1 f : Nat) (hpF : zHp), zlaw f1 f L xs = some (some (.int 1), hpF) ∧ hpF.1 ≤ 2000 := by
  obtain ⟨z, z1, z2⟩ := lloop (xs := xs) hP hN hL (L + 1) (lv := [(3, .int 0), (2, .ref 70), (1, .ref 0), (0, .ref 1000)]) (i := 0) (I := 0) rfl rfl rfl rfl rfl (Nat.zero_le _) (by omega) h0
  obtain ⟨n0, f0, K⟩ := r_N (ev := some (L, xs)) (d := 20) (nL := 4) (rt := ret) (cd := zcL) (r := (some (.int 1), z)) 10 zpre_eq z1
  exact ⟨f0, n0, z, K f0 n0 (Nat.le_refl _) (Nat.le_refl _), by omega⟩
