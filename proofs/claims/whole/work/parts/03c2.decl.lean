/-! the law's instructions -/
theorem dL_law__419 : decode cL_law_ 419 = .ok (.invokevirtual 163, 3) := by decide +kernel
theorem dL_law__422 : decode cL_law_ 422 = .ok (.aload_n 2, 1) := by decide +kernel
theorem dL_law__423 : decode cL_law_ 423 = .ok (.invokevirtual 166, 3) := by decide +kernel
theorem dL_law__426 : decode cL_law_ 426 = .ok (.if_icmp .eq 2909, 3) := by decide +kernel
theorem dL_law__429 : decode cL_law_ 429 = .ok (.iconst 0, 1) := by decide +kernel
theorem dL_law__430 : decode cL_law_ 430 = .ok (.ireturn, 1) := by decide +kernel
theorem dL_law__431 : decode cL_law_ 431 = .ok (.aload_n 1, 1) := by decide +kernel
theorem dL_law__432 : decode cL_law_ 432 = .ok (.aload_n 0, 1) := by decide +kernel
theorem dL_law__433 : decode cL_law_ 433 = .ok (.iload 4, 2) := by decide +kernel
theorem dL_law__435 : decode cL_law_ 435 = .ok (.iconst 1, 1) := by decide +kernel
theorem dL_law__436 : decode cL_law_ 436 = .ok (.iadd, 1) := by decide +kernel
theorem dL_law__437 : decode cL_law_ 437 = .ok (.iaload, 1) := by decide +kernel
theorem dL_law__438 : decode cL_law_ 438 = .ok (.aload_n 0, 1) := by decide +kernel
theorem dL_law__439 : decode cL_law_ 439 = .ok (.iload 4, 2) := by decide +kernel
theorem dL_law__441 : decode cL_law_ 441 = .ok (.iconst 2, 1) := by decide +kernel
theorem dL_law__442 : decode cL_law_ 442 = .ok (.iadd, 1) := by decide +kernel
theorem dL_law__443 : decode cL_law_ 443 = .ok (.iaload, 1) := by decide +kernel
theorem dL_law__444 : decode cL_law_ 444 = .ok (.ifCond .eq 7, 3) := by decide +kernel
theorem dL_law__447 : decode cL_law_ 447 = .ok (.iconst 1, 1) := by decide +kernel
theorem dL_law__448 : decode cL_law_ 448 = .ok (.goto 4, 3) := by decide +kernel
theorem dL_law__451 : decode cL_law_ 451 = .ok (.iconst 0, 1) := by decide +kernel
theorem dL_law__452 : decode cL_law_ 452 = .ok (.aload_n 3, 1) := by decide +kernel
theorem dL_law__453 : decode cL_law_ 453 = .ok (.invokestatic 167, 3) := by decide +kernel
theorem dL_law__456 : decode cL_law_ 456 = .ok (.istore 5, 2) := by decide +kernel
theorem dL_law__458 : decode cL_law_ 458 = .ok (.aload_n 2, 1) := by decide +kernel
theorem dL_law__459 : decode cL_law_ 459 = .ok (.aload_n 0, 1) := by decide +kernel
theorem dL_law__460 : decode cL_law_ 460 = .ok (.iload 4, 2) := by decide +kernel
theorem dL_law__462 : decode cL_law_ 462 = .ok (.iconst 1, 1) := by decide +kernel
theorem dL_law__463 : decode cL_law_ 463 = .ok (.iadd, 1) := by decide +kernel
theorem dL_law__464 : decode cL_law_ 464 = .ok (.iaload, 1) := by decide +kernel
theorem dL_law__465 : decode cL_law_ 465 = .ok (.aload_n 0, 1) := by decide +kernel
theorem dL_law__466 : decode cL_law_ 466 = .ok (.iload 4, 2) := by decide +kernel
theorem dL_law__468 : decode cL_law_ 468 = .ok (.iconst 2, 1) := by decide +kernel
theorem dL_law__469 : decode cL_law_ 469 = .ok (.iadd, 1) := by decide +kernel
theorem dL_law__470 : decode cL_law_ 470 = .ok (.iaload, 1) := by decide +kernel
theorem dL_law__471 : decode cL_law_ 471 = .ok (.ifCond .eq 7, 3) := by decide +kernel
theorem dL_law__474 : decode cL_law_ 474 = .ok (.iconst 1, 1) := by decide +kernel
theorem dL_law__475 : decode cL_law_ 475 = .ok (.goto 4, 3) := by decide +kernel
theorem dL_law__478 : decode cL_law_ 478 = .ok (.iconst 0, 1) := by decide +kernel
theorem dL_law__479 : decode cL_law_ 479 = .ok (.invokevirtual 170, 3) := by decide +kernel
theorem dL_law__482 : decode cL_law_ 482 = .ok (.lstore 6, 2) := by decide +kernel
theorem dL_law__484 : decode cL_law_ 484 = .ok (.aload_n 2, 1) := by decide +kernel
theorem dL_law__485 : decode cL_law_ 485 = .ok (.invokevirtual 157, 3) := by decide +kernel
theorem dL_law__488 : decode cL_law_ 488 = .ok (.iload 5, 2) := by decide +kernel
theorem dL_law__490 : decode cL_law_ 490 = .ok (.if_icmp .eq 5, 3) := by decide +kernel
theorem dL_law__493 : decode cL_law_ 493 = .ok (.iconst 0, 1) := by decide +kernel
theorem dL_law__494 : decode cL_law_ 494 = .ok (.ireturn, 1) := by decide +kernel
theorem dL_law__495 : decode cL_law_ 495 = .ok (.iload 5, 2) := by decide +kernel
theorem dL_law__497 : decode cL_law_ 497 = .ok (.ifCond .ne 14, 3) := by decide +kernel
theorem dL_law__500 : decode cL_law_ 500 = .ok (.aload_n 3, 1) := by decide +kernel
theorem dL_law__501 : decode cL_law_ 501 = .ok (.iconst 0, 1) := by decide +kernel
theorem dL_law__502 : decode cL_law_ 502 = .ok (.laload, 1) := by decide +kernel
theorem dL_law__503 : decode cL_law_ 503 = .ok (.lload 6, 2) := by decide +kernel
theorem dL_law__505 : decode cL_law_ 505 = .ok (.lcmp, 1) := by decide +kernel
theorem dL_law__506 : decode cL_law_ 506 = .ok (.ifCond .eq 5, 3) := by decide +kernel
theorem dL_law__509 : decode cL_law_ 509 = .ok (.iconst 0, 1) := by decide +kernel
theorem dL_law__510 : decode cL_law_ 510 = .ok (.ireturn, 1) := by decide +kernel
theorem dL_law__511 : decode cL_law_ 511 = .ok (.goto 2824, 3) := by decide +kernel
theorem dL_law__514 : decode cL_law_ 514 = .ok (.aload_n 1, 1) := by decide +kernel
theorem dL_law__515 : decode cL_law_ 515 = .ok (.aload_n 0, 1) := by decide +kernel
theorem dL_law__516 : decode cL_law_ 516 = .ok (.iload 4, 2) := by decide +kernel
theorem dL_law__518 : decode cL_law_ 518 = .ok (.iconst 1, 1) := by decide +kernel
theorem dL_law__519 : decode cL_law_ 519 = .ok (.iadd, 1) := by decide +kernel
theorem dL_law__520 : decode cL_law_ 520 = .ok (.iaload, 1) := by decide +kernel
theorem dL_law__521 : decode cL_law_ 521 = .ok (.aload_n 3, 1) := by decide +kernel
theorem dL_law__522 : decode cL_law_ 522 = .ok (.invokestatic 171, 3) := by decide +kernel
theorem dL_law__525 : decode cL_law_ 525 = .ok (.istore 5, 2) := by decide +kernel
theorem dL_law__527 : decode cL_law_ 527 = .ok (.aload_n 2, 1) := by decide +kernel
theorem dL_law__528 : decode cL_law_ 528 = .ok (.aload_n 0, 1) := by decide +kernel
theorem dL_law__529 : decode cL_law_ 529 = .ok (.iload 4, 2) := by decide +kernel
theorem dL_law__531 : decode cL_law_ 531 = .ok (.iconst 1, 1) := by decide +kernel
theorem dL_law__532 : decode cL_law_ 532 = .ok (.iadd, 1) := by decide +kernel
theorem dL_law__533 : decode cL_law_ 533 = .ok (.iaload, 1) := by decide +kernel
theorem dL_law__534 : decode cL_law_ 534 = .ok (.invokevirtual 174, 3) := by decide +kernel
theorem dL_law__537 : decode cL_law_ 537 = .ok (.lstore 6, 2) := by decide +kernel
theorem dL_law__539 : decode cL_law_ 539 = .ok (.aload_n 2, 1) := by decide +kernel
theorem dL_law__540 : decode cL_law_ 540 = .ok (.invokevirtual 157, 3) := by decide +kernel
theorem dL_law__543 : decode cL_law_ 543 = .ok (.iload 5, 2) := by decide +kernel
theorem dL_law__545 : decode cL_law_ 545 = .ok (.if_icmp .eq 5, 3) := by decide +kernel
theorem dL_law__548 : decode cL_law_ 548 = .ok (.iconst 0, 1) := by decide +kernel
theorem dL_law__549 : decode cL_law_ 549 = .ok (.ireturn, 1) := by decide +kernel
theorem dL_law__550 : decode cL_law_ 550 = .ok (.iload 5, 2) := by decide +kernel
theorem dL_law__552 : decode cL_law_ 552 = .ok (.ifCond .ne 14, 3) := by decide +kernel
theorem dL_law__555 : decode cL_law_ 555 = .ok (.aload_n 3, 1) := by decide +kernel
theorem dL_law__556 : decode cL_law_ 556 = .ok (.iconst 0, 1) := by decide +kernel
theorem dL_law__557 : decode cL_law_ 557 = .ok (.laload, 1) := by decide +kernel
theorem dL_law__558 : decode cL_law_ 558 = .ok (.lload 6, 2) := by decide +kernel
theorem dL_law__560 : decode cL_law_ 560 = .ok (.lcmp, 1) := by decide +kernel
theorem dL_law__561 : decode cL_law_ 561 = .ok (.ifCond .eq 5, 3) := by decide +kernel
theorem dL_law__564 : decode cL_law_ 564 = .ok (.iconst 0, 1) := by decide +kernel
theorem dL_law__565 : decode cL_law_ 565 = .ok (.ireturn, 1) := by decide +kernel
theorem dL_law__566 : decode cL_law_ 566 = .ok (.goto 2769, 3) := by decide +kernel
theorem dL_law__569 : decode cL_law_ 569 = .ok (.aload_n 1, 1) := by decide +kernel
theorem dL_law__570 : decode cL_law_ 570 = .ok (.aload_n 0, 1) := by decide +kernel
theorem dL_law__571 : decode cL_law_ 571 = .ok (.iload 4, 2) := by decide +kernel
theorem dL_law__573 : decode cL_law_ 573 = .ok (.iconst 1, 1) := by decide +kernel
theorem dL_law__574 : decode cL_law_ 574 = .ok (.iadd, 1) := by decide +kernel
theorem dL_law__575 : decode cL_law_ 575 = .ok (.iaload, 1) := by decide +kernel
theorem dL_law__576 : decode cL_law_ 576 = .ok (.aload_n 0, 1) := by decide +kernel
theorem dL_law__577 : decode cL_law_ 577 = .ok (.iload 4, 2) := by decide +kernel
theorem dL_law__579 : decode cL_law_ 579 = .ok (.iconst 2, 1) := by decide +kernel
theorem dL_law__580 : decode cL_law_ 580 = .ok (.iadd, 1) := by decide +kernel
theorem dL_law__581 : decode cL_law_ 581 = .ok (.iaload, 1) := by decide +kernel
theorem dL_law__582 : decode cL_law_ 582 = .ok (.ifCond .eq 7, 3) := by decide +kernel
theorem dL_law__585 : decode cL_law_ 585 = .ok (.iconst 1, 1) := by decide +kernel
theorem dL_law__586 : decode cL_law_ 586 = .ok (.goto 4, 3) := by decide +kernel
theorem dL_law__589 : decode cL_law_ 589 = .ok (.iconst 0, 1) := by decide +kernel
theorem dL_law__590 : decode cL_law_ 590 = .ok (.aload_n 3, 1) := by decide +kernel
theorem dL_law__591 : decode cL_law_ 591 = .ok (.invokestatic 175, 3) := by decide +kernel
theorem dL_law__594 : decode cL_law_ 594 = .ok (.istore 5, 2) := by decide +kernel
theorem dL_law__596 : decode cL_law_ 596 = .ok (.aload_n 2, 1) := by decide +kernel
theorem dL_law__597 : decode cL_law_ 597 = .ok (.aload_n 0, 1) := by decide +kernel
theorem dL_law__598 : decode cL_law_ 598 = .ok (.iload 4, 2) := by decide +kernel
theorem dL_law__600 : decode cL_law_ 600 = .ok (.iconst 1, 1) := by decide +kernel
theorem dL_law__601 : decode cL_law_ 601 = .ok (.iadd, 1) := by decide +kernel
theorem dL_law__602 : decode cL_law_ 602 = .ok (.iaload, 1) := by decide +kernel
theorem dL_law__603 : decode cL_law_ 603 = .ok (.aload_n 0, 1) := by decide +kernel
theorem dL_law__604 : decode cL_law_ 604 = .ok (.iload 4, 2) := by decide +kernel
theorem dL_law__606 : decode cL_law_ 606 = .ok (.iconst 2, 1) := by decide +kernel
theorem dL_law__607 : decode cL_law_ 607 = .ok (.iadd, 1) := by decide +kernel
theorem dL_law__608 : decode cL_law_ 608 = .ok (.iaload, 1) := by decide +kernel
theorem dL_law__609 : decode cL_law_ 609 = .ok (.ifCond .eq 7, 3) := by decide +kernel
theorem dL_law__612 : decode cL_law_ 612 = .ok (.iconst 1, 1) := by decide +kernel
theorem dL_law__613 : decode cL_law_ 613 = .ok (.goto 4, 3) := by decide +kernel
theorem dL_law__616 : decode cL_law_ 616 = .ok (.iconst 0, 1) := by decide +kernel
theorem dL_law__617 : decode cL_law_ 617 = .ok (.invokevirtual 177, 3) := by decide +kernel
theorem dL_law__620 : decode cL_law_ 620 = .ok (.lstore 6, 2) := by decide +kernel
theorem dL_law__622 : decode cL_law_ 622 = .ok (.aload_n 2, 1) := by decide +kernel
theorem dL_law__623 : decode cL_law_ 623 = .ok (.invokevirtual 157, 3) := by decide +kernel
theorem dL_law__626 : decode cL_law_ 626 = .ok (.iload 5, 2) := by decide +kernel
theorem dL_law__628 : decode cL_law_ 628 = .ok (.if_icmp .eq 5, 3) := by decide +kernel
theorem dL_law__631 : decode cL_law_ 631 = .ok (.iconst 0, 1) := by decide +kernel
theorem dL_law__632 : decode cL_law_ 632 = .ok (.ireturn, 1) := by decide +kernel
theorem dL_law__633 : decode cL_law_ 633 = .ok (.iload 5, 2) := by decide +kernel
theorem dL_law__635 : decode cL_law_ 635 = .ok (.ifCond .ne 14, 3) := by decide +kernel
theorem dL_law__638 : decode cL_law_ 638 = .ok (.aload_n 3, 1) := by decide +kernel
theorem dL_law__639 : decode cL_law_ 639 = .ok (.iconst 0, 1) := by decide +kernel
theorem dL_law__640 : decode cL_law_ 640 = .ok (.laload, 1) := by decide +kernel
theorem dL_law__641 : decode cL_law_ 641 = .ok (.lload 6, 2) := by decide +kernel
theorem dL_law__643 : decode cL_law_ 643 = .ok (.lcmp, 1) := by decide +kernel
theorem dL_law__644 : decode cL_law_ 644 = .ok (.ifCond .eq 5, 3) := by decide +kernel
theorem dL_law__647 : decode cL_law_ 647 = .ok (.iconst 0, 1) := by decide +kernel
theorem dL_law__648 : decode cL_law_ 648 = .ok (.ireturn, 1) := by decide +kernel
theorem dL_law__649 : decode cL_law_ 649 = .ok (.goto 2686, 3) := by decide +kernel
theorem dL_law__652 : decode cL_law_ 652 = .ok (.aload_n 1, 1) := by decide +kernel
theorem dL_law__653 : decode cL_law_ 653 = .ok (.aload_n 0, 1) := by decide +kernel
theorem dL_law__654 : decode cL_law_ 654 = .ok (.iload 4, 2) := by decide +kernel
theorem dL_law__656 : decode cL_law_ 656 = .ok (.iconst 1, 1) := by decide +kernel
theorem dL_law__657 : decode cL_law_ 657 = .ok (.iadd, 1) := by decide +kernel
theorem dL_law__658 : decode cL_law_ 658 = .ok (.iaload, 1) := by decide +kernel
