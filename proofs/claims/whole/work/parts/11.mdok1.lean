set_option maxRecDepth 100000 in
theorem se_X10_standingOf : Cond.selects mX10_standingOf.1.cls mX10_standingOf.1 mX10_standingOf.1 ∈ gw := in_gwi 675 (by decide +kernel) rfl
set_option maxRecDepth 100000 in
theorem ok_X10_flawOf : MOk mX10_flawOf 3 := ⟨in_gwi 680 rfl rfl, in_gwi 72 (by decide +kernel) rfl, ⟨by decide +kernel, by decide +kernel, by decide +kernel⟩, by decide +kernel, by decide⟩
set_option maxRecDepth 100000 in
theorem im_X10_flawOf : Cond.instanceMethod mX10_flawOf.1 ∈ gw := in_gwi 679 (by decide +kernel) rfl
set_option maxRecDepth 100000 in
theorem se_X10_flawOf : Cond.selects mX10_flawOf.1.cls mX10_flawOf.1 mX10_flawOf.1 ∈ gw := in_gwi 9 (by decide +kernel) rfl
set_option maxRecDepth 100000 in
theorem ok_X10_isElsewhere : MOk mX10_isElsewhere 3 := ⟨in_gwi 689 rfl rfl, in_gwi 72 (by decide +kernel) rfl, ⟨by decide +kernel, by decide +kernel, by decide +kernel⟩, by decide +kernel, by decide⟩
set_option maxRecDepth 100000 in
theorem im_X10_isElsewhere : Cond.instanceMethod mX10_isElsewhere.1 ∈ gw := in_gwi 688 (by decide +kernel) rfl
set_option maxRecDepth 100000 in
theorem se_X10_isElsewhere : Cond.selects mX10_isElsewhere.1.cls mX10_isElsewhere.1 mX10_isElsewhere.1 ∈ gw := in_gwi 10 (by decide +kernel) rfl
set_option maxRecDepth 100000 in
theorem ok_X10_allFresh : MOk mX10_allFresh 3 := ⟨in_gwi 694 rfl rfl, in_gwi 72 (by decide +kernel) rfl, ⟨by decide +kernel, by decide +kernel, by decide +kernel⟩, by decide +kernel, by decide⟩
set_option maxRecDepth 100000 in
theorem im_X10_allFresh : Cond.instanceMethod mX10_allFresh.1 ∈ gw := in_gwi 693 (by decide +kernel) rfl
set_option maxRecDepth 100000 in
theorem se_X10_allFresh : Cond.selects mX10_allFresh.1.cls mX10_allFresh.1 mX10_allFresh.1 ∈ gw := in_gwi 11 (by decide +kernel) rfl
set_option maxRecDepth 100000 in
theorem ok_X10_strengthAt : MOk mX10_strengthAt 2 := ⟨in_gwi 706 rfl rfl, in_gwi 72 (by decide +kernel) rfl, ⟨by decide +kernel, by decide +kernel, by decide +kernel⟩, by decide +kernel, by decide⟩
set_option maxRecDepth 100000 in
theorem im_X10_strengthAt : Cond.instanceMethod mX10_strengthAt.1 ∈ gw := in_gwi 704 (by decide +kernel) rfl
set_option maxRecDepth 100000 in
theorem se_X10_strengthAt : Cond.selects mX10_strengthAt.1.cls mX10_strengthAt.1 mX10_strengthAt.1 ∈ gw := in_gwi 705 (by decide +kernel) rfl
set_option maxRecDepth 100000 in
theorem ok_X10_bestStandIn : MOk mX10_bestStandIn 2 := ⟨in_gwi 731 rfl rfl, in_gwi 72 (by decide +kernel) rfl, ⟨by decide +kernel, by decide +kernel, by decide +kernel⟩, by decide +kernel, by decide⟩
set_option maxRecDepth 100000 in
theorem im_X10_bestStandIn : Cond.instanceMethod mX10_bestStandIn.1 ∈ gw := in_gwi 729 (by decide +kernel) rfl
set_option maxRecDepth 100000 in
theorem se_X10_bestStandIn : Cond.selects mX10_bestStandIn.1.cls mX10_bestStandIn.1 mX10_bestStandIn.1 ∈ gw := in_gwi 730 (by decide +kernel) rfl
set_option maxRecDepth 100000 in
theorem ok_X11_init : MOk mX11_init 0 := ⟨in_gwi 89 rfl rfl, in_gwi 68 (by decide +kernel) rfl, ⟨by decide +kernel, by decide +kernel, by decide +kernel⟩, by decide +kernel, by decide⟩
set_option maxRecDepth 100000 in
theorem im_X11_init : Cond.instanceMethod mX11_init.1 ∈ gw := in_gwi 88 (by decide +kernel) rfl
set_option maxRecDepth 100000 in
theorem ok_X11_horse : MOk mX11_horse 4 := ⟨in_gwi 356 rfl rfl, in_gwi 68 (by decide +kernel) rfl, ⟨by decide +kernel, by decide +kernel, by decide +kernel⟩, by decide +kernel, by decide⟩
set_option maxRecDepth 100000 in
theorem im_X11_horse : Cond.instanceMethod mX11_horse.1 ∈ gw := in_gwi 354 (by decide +kernel) rfl
set_option maxRecDepth 100000 in
theorem se_X11_horse : Cond.selects mX11_horse.1.cls mX11_horse.1 mX11_horse.1 ∈ gw := in_gwi 355 (by decide +kernel) rfl
set_option maxRecDepth 100000 in
theorem ok_X11_lame : MOk mX11_lame 2 := ⟨in_gwi 392 rfl rfl, in_gwi 68 (by decide +kernel) rfl, ⟨by decide +kernel, by decide +kernel, by decide +kernel⟩, by decide +kernel, by decide⟩
set_option maxRecDepth 100000 in
theorem im_X11_lame : Cond.instanceMethod mX11_lame.1 ∈ gw := in_gwi 390 (by decide +kernel) rfl
set_option maxRecDepth 100000 in
theorem se_X11_lame : Cond.selects mX11_lame.1.cls mX11_lame.1 mX11_lame.1 ∈ gw := in_gwi 391 (by decide +kernel) rfl
set_option maxRecDepth 100000 in
theorem ok_X11_spans : MOk mX11_spans 2 := ⟨in_gwi 404 rfl rfl, in_gwi 68 (by decide +kernel) rfl, ⟨by decide +kernel, by decide +kernel, by decide +kernel⟩, by decide +kernel, by decide⟩
set_option maxRecDepth 100000 in
theorem im_X11_spans : Cond.instanceMethod mX11_spans.1 ∈ gw := in_gwi 402 (by decide +kernel) rfl
set_option maxRecDepth 100000 in
theorem se_X11_spans : Cond.selects mX11_spans.1.cls mX11_spans.1 mX11_spans.1 ∈ gw := in_gwi 403 (by decide +kernel) rfl
set_option maxRecDepth 100000 in
theorem ok_X11_way : MOk mX11_way 3 := ⟨in_gwi 412 rfl rfl, in_gwi 68 (by decide +kernel) rfl, ⟨by decide +kernel, by decide +kernel, by decide +kernel⟩, by decide +kernel, by decide⟩
set_option maxRecDepth 100000 in
theorem im_X11_way : Cond.instanceMethod mX11_way.1 ∈ gw := in_gwi 410 (by decide +kernel) rfl
set_option maxRecDepth 100000 in
theorem se_X11_way : Cond.selects mX11_way.1.cls mX11_way.1 mX11_way.1 ∈ gw := in_gwi 411 (by decide +kernel) rfl
set_option maxRecDepth 100000 in
theorem ok_X11_carriages : MOk mX11_carriages 1 := ⟨in_gwi 424 rfl rfl, in_gwi 68 (by decide +kernel) rfl, ⟨by decide +kernel, by decide +kernel, by decide +kernel⟩, by decide +kernel, by decide⟩
set_option maxRecDepth 100000 in
theorem im_X11_carriages : Cond.instanceMethod mX11_carriages.1 ∈ gw := in_gwi 422 (by decide +kernel) rfl
set_option maxRecDepth 100000 in
theorem se_X11_carriages : Cond.selects mX11_carriages.1.cls mX11_carriages.1 mX11_carriages.1 ∈ gw := in_gwi 423 (by decide +kernel) rfl
set_option maxRecDepth 100000 in
theorem ok_X11_need : MOk mX11_need 1 := ⟨in_gwi 432 rfl rfl, in_gwi 68 (by decide +kernel) rfl, ⟨by decide +kernel, by decide +kernel, by decide +kernel⟩, by decide +kernel, by decide⟩
set_option maxRecDepth 100000 in
theorem im_X11_need : Cond.instanceMethod mX11_need.1 ∈ gw := in_gwi 430 (by decide +kernel) rfl
set_option maxRecDepth 100000 in
theorem se_X11_need : Cond.selects mX11_need.1.cls mX11_need.1 mX11_need.1 ∈ gw := in_gwi 431 (by decide +kernel) rfl
set_option maxRecDepth 100000 in
theorem ok_X11_match : MOk mX11_match 1 := ⟨in_gwi 441 rfl rfl, in_gwi 68 (by decide +kernel) rfl, ⟨by decide +kernel, by decide +kernel, by decide +kernel⟩, by decide +kernel, by decide⟩
set_option maxRecDepth 100000 in
theorem im_X11_match : Cond.instanceMethod mX11_match.1 ∈ gw := in_gwi 439 (by decide +kernel) rfl
set_option maxRecDepth 100000 in
theorem se_X11_match : Cond.selects mX11_match.1.cls mX11_match.1 mX11_match.1 ∈ gw := in_gwi 440 (by decide +kernel) rfl
set_option maxRecDepth 100000 in
theorem ok_X11_matches : MOk mX11_matches 1 := ⟨in_gwi 469 rfl rfl, in_gwi 68 (by decide +kernel) rfl, ⟨by decide +kernel, by decide +kernel, by decide +kernel⟩, by decide +kernel, by decide⟩
set_option maxRecDepth 100000 in
theorem im_X11_matches : Cond.instanceMethod mX11_matches.1 ∈ gw := in_gwi 467 (by decide +kernel) rfl
set_option maxRecDepth 100000 in
theorem se_X11_matches : Cond.selects mX11_matches.1.cls mX11_matches.1 mX11_matches.1 ∈ gw := in_gwi 468 (by decide +kernel) rfl
set_option maxRecDepth 100000 in
theorem ok_X11_job : MOk mX11_job 6 := ⟨in_gwi 486 rfl rfl, in_gwi 68 (by decide +kernel) rfl, ⟨by decide +kernel, by decide +kernel, by decide +kernel⟩, by decide +kernel, by decide⟩
set_option maxRecDepth 100000 in
theorem im_X11_job : Cond.instanceMethod mX11_job.1 ∈ gw := in_gwi 484 (by decide +kernel) rfl
set_option maxRecDepth 100000 in
theorem se_X11_job : Cond.selects mX11_job.1.cls mX11_job.1 mX11_job.1 ∈ gw := in_gwi 485 (by decide +kernel) rfl
set_option maxRecDepth 100000 in
theorem ok_X11_drop : MOk mX11_drop 1 := ⟨in_gwi 550 rfl rfl, in_gwi 68 (by decide +kernel) rfl, ⟨by decide +kernel, by decide +kernel, by decide +kernel⟩, by decide +kernel, by decide⟩
set_option maxRecDepth 100000 in
theorem im_X11_drop : Cond.instanceMethod mX11_drop.1 ∈ gw := in_gwi 548 (by decide +kernel) rfl
set_option maxRecDepth 100000 in
theorem se_X11_drop : Cond.selects mX11_drop.1.cls mX11_drop.1 mX11_drop.1 ∈ gw := in_gwi 549 (by decide +kernel) rfl
set_option maxRecDepth 100000 in
theorem ok_X11_of : MOk mX11_of 2 := ⟨in_gwi 566 rfl rfl, in_gwi 68 (by decide +kernel) rfl, ⟨by decide +kernel, by decide +kernel, by decide +kernel⟩, by decide +kernel, by decide⟩
set_option maxRecDepth 100000 in
theorem im_X11_of : Cond.instanceMethod mX11_of.1 ∈ gw := in_gwi 564 (by decide +kernel) rfl
set_option maxRecDepth 100000 in
theorem se_X11_of : Cond.selects mX11_of.1.cls mX11_of.1 mX11_of.1 ∈ gw := in_gwi 565 (by decide +kernel) rfl
set_option maxRecDepth 100000 in
theorem ok_X11_behind : MOk mX11_behind 2 := ⟨in_gwi 586 rfl rfl, in_gwi 68 (by decide +kernel) rfl, ⟨by decide +kernel, by decide +kernel, by decide +kernel⟩, by decide +kernel, by decide⟩
set_option maxRecDepth 100000 in
theorem im_X11_behind : Cond.instanceMethod mX11_behind.1 ∈ gw := in_gwi 584 (by decide +kernel) rfl
set_option maxRecDepth 100000 in
theorem se_X11_behind : Cond.selects mX11_behind.1.cls mX11_behind.1 mX11_behind.1 ∈ gw := in_gwi 585 (by decide +kernel) rfl
set_option maxRecDepth 100000 in
theorem ok_X11_empty : MOk mX11_empty 0 := ⟨in_gwi 596 rfl rfl, in_gwi 68 (by decide +kernel) rfl, ⟨by decide +kernel, by decide +kernel, by decide +kernel⟩, by decide +kernel, by decide⟩
set_option maxRecDepth 100000 in
theorem im_X11_empty : Cond.instanceMethod mX11_empty.1 ∈ gw := in_gwi 594 (by decide +kernel) rfl
set_option maxRecDepth 100000 in
theorem se_X11_empty : Cond.selects mX11_empty.1.cls mX11_empty.1 mX11_empty.1 ∈ gw := in_gwi 595 (by decide +kernel) rfl
set_option maxRecDepth 100000 in
theorem ok_X11_chains : MOk mX11_chains 0 := ⟨in_gwi 649 rfl rfl, in_gwi 68 (by decide +kernel) rfl, ⟨by decide +kernel, by decide +kernel, by decide +kernel⟩, by decide +kernel, by decide⟩
set_option maxRecDepth 100000 in
theorem im_X11_chains : Cond.instanceMethod mX11_chains.1 ∈ gw := in_gwi 647 (by decide +kernel) rfl
set_option maxRecDepth 100000 in
theorem se_X11_chains : Cond.selects mX11_chains.1.cls mX11_chains.1 mX11_chains.1 ∈ gw := in_gwi 648 (by decide +kernel) rfl
set_option maxRecDepth 100000 in
theorem ok_X11_chain : MOk mX11_chain 1 := ⟨in_gwi 653 rfl rfl, in_gwi 68 (by decide +kernel) rfl, ⟨by decide +kernel, by decide +kernel, by decide +kernel⟩, by decide +kernel, by decide⟩
set_option maxRecDepth 100000 in
theorem im_X11_chain : Cond.instanceMethod mX11_chain.1 ∈ gw := in_gwi 651 (by decide +kernel) rfl
set_option maxRecDepth 100000 in
theorem se_X11_chain : Cond.selects mX11_chain.1.cls mX11_chain.1 mX11_chain.1 ∈ gw := in_gwi 652 (by decide +kernel) rfl
set_option maxRecDepth 100000 in
theorem ok_X11_team : MOk mX11_team 2 := ⟨in_gwi 661 rfl rfl, in_gwi 68 (by decide +kernel) rfl, ⟨by decide +kernel, by decide +kernel, by decide +kernel⟩, by decide +kernel, by decide⟩
set_option maxRecDepth 100000 in
theorem im_X11_team : Cond.instanceMethod mX11_team.1 ∈ gw := in_gwi 659 (by decide +kernel) rfl
set_option maxRecDepth 100000 in
theorem se_X11_team : Cond.selects mX11_team.1.cls mX11_team.1 mX11_team.1 ∈ gw := in_gwi 660 (by decide +kernel) rfl
set_option maxRecDepth 100000 in
theorem ok_X11_right : MOk mX11_right 1 := ⟨in_gwi 672 rfl rfl, in_gwi 68 (by decide +kernel) rfl, ⟨by decide +kernel, by decide +kernel, by decide +kernel⟩, by decide +kernel, by decide⟩
set_option maxRecDepth 100000 in
theorem im_X11_right : Cond.instanceMethod mX11_right.1 ∈ gw := in_gwi 670 (by decide +kernel) rfl
set_option maxRecDepth 100000 in
theorem se_X11_right : Cond.selects mX11_right.1.cls mX11_right.1 mX11_right.1 ∈ gw := in_gwi 671 (by decide +kernel) rfl
set_option maxRecDepth 100000 in
theorem ok_X11_strength : MOk mX11_strength 2 := ⟨in_gwi 717 rfl rfl, in_gwi 68 (by decide +kernel) rfl, ⟨by decide +kernel, by decide +kernel, by decide +kernel⟩, by decide +kernel, by decide⟩
set_option maxRecDepth 100000 in
theorem im_X11_strength : Cond.instanceMethod mX11_strength.1 ∈ gw := in_gwi 715 (by decide +kernel) rfl
set_option maxRecDepth 100000 in
theorem se_X11_strength : Cond.selects mX11_strength.1.cls mX11_strength.1 mX11_strength.1 ∈ gw := in_gwi 716 (by decide +kernel) rfl
set_option maxRecDepth 100000 in
theorem ok_X11_standIn : MOk mX11_standIn 2 := ⟨in_gwi 727 rfl rfl, in_gwi 68 (by decide +kernel) rfl, ⟨by decide +kernel, by decide +kernel, by decide +kernel⟩, by decide +kernel, by decide⟩
set_option maxRecDepth 100000 in
theorem im_X11_standIn : Cond.instanceMethod mX11_standIn.1 ∈ gw := in_gwi 725 (by decide +kernel) rfl
set_option maxRecDepth 100000 in
theorem se_X11_standIn : Cond.selects mX11_standIn.1.cls mX11_standIn.1 mX11_standIn.1 ∈ gw := in_gwi 726 (by decide +kernel) rfl
set_option maxRecDepth 100000 in
theorem ok_X11_feed : MOk mX11_feed 5 := ⟨in_gwi 739 rfl rfl, in_gwi 68 (by decide +kernel) rfl, ⟨by decide +kernel, by decide +kernel, by decide +kernel⟩, by decide +kernel, by decide⟩
set_option maxRecDepth 100000 in
theorem im_X11_feed : Cond.instanceMethod mX11_feed.1 ∈ gw := in_gwi 737 (by decide +kernel) rfl
set_option maxRecDepth 100000 in
theorem se_X11_feed : Cond.selects mX11_feed.1.cls mX11_feed.1 mX11_feed.1 ∈ gw := in_gwi 738 (by decide +kernel) rfl
set_option maxRecDepth 100000 in
theorem ok_X11_end : MOk mX11_end 1 := ⟨in_gwi 751 rfl rfl, in_gwi 68 (by decide +kernel) rfl, ⟨by decide +kernel, by decide +kernel, by decide +kernel⟩, by decide +kernel, by decide⟩
set_option maxRecDepth 100000 in
theorem im_X11_end : Cond.instanceMethod mX11_end.1 ∈ gw := in_gwi 749 (by decide +kernel) rfl
set_option maxRecDepth 100000 in
theorem se_X11_end : Cond.selects mX11_end.1.cls mX11_end.1 mX11_end.1 ∈ gw := in_gwi 750 (by decide +kernel) rfl
set_option maxRecDepth 100000 in
theorem ok_X11_prices : MOk mX11_prices 0 := ⟨in_gwi 760 rfl rfl, in_gwi 68 (by decide +kernel) rfl, ⟨by decide +kernel, by decide +kernel, by decide +kernel⟩, by decide +kernel, by decide⟩
set_option maxRecDepth 100000 in
theorem im_X11_prices : Cond.instanceMethod mX11_prices.1 ∈ gw := in_gwi 758 (by decide +kernel) rfl
set_option maxRecDepth 100000 in
theorem se_X11_prices : Cond.selects mX11_prices.1.cls mX11_prices.1 mX11_prices.1 ∈ gw := in_gwi 759 (by decide +kernel) rfl
set_option maxRecDepth 100000 in
theorem ok_X11_fault : MOk mX11_fault 1 := ⟨in_gwi 878 rfl rfl, in_gwi 68 (by decide +kernel) rfl, ⟨by decide +kernel, by decide +kernel, by decide +kernel⟩, by decide +kernel, by decide⟩
set_option maxRecDepth 100000 in
theorem im_X11_fault : Cond.instanceMethod mX11_fault.1 ∈ gw := in_gwi 876 (by decide +kernel) rfl
set_option maxRecDepth 100000 in
theorem se_X11_fault : Cond.selects mX11_fault.1.cls mX11_fault.1 mX11_fault.1 ∈ gw := in_gwi 877 (by decide +kernel) rfl
set_option maxRecDepth 100000 in
theorem ok_X11_price : MOk mX11_price 2 := ⟨in_gwi 882 rfl rfl, in_gwi 68 (by decide +kernel) rfl, ⟨by decide +kernel, by decide +kernel, by decide +kernel⟩, by decide +kernel, by decide⟩
set_option maxRecDepth 100000 in
theorem im_X11_price : Cond.instanceMethod mX11_price.1 ∈ gw := in_gwi 880 (by decide +kernel) rfl
set_option maxRecDepth 100000 in
theorem se_X11_price : Cond.selects mX11_price.1.cls mX11_price.1 mX11_price.1 ∈ gw := in_gwi 881 (by decide +kernel) rfl
set_option maxRecDepth 100000 in
theorem ok_X11_broken : MOk mX11_broken 4 := ⟨in_gwi 917 rfl rfl, in_gwi 68 (by decide +kernel) rfl, ⟨by decide +kernel, by decide +kernel, by decide +kernel⟩, by decide +kernel, by decide⟩
set_option maxRecDepth 100000 in
theorem im_X11_broken : Cond.instanceMethod mX11_broken.1 ∈ gw := in_gwi 915 (by decide +kernel) rfl
set_option maxRecDepth 100000 in
theorem se_X11_broken : Cond.selects mX11_broken.1.cls mX11_broken.1 mX11_broken.1 ∈ gw := in_gwi 916 (by decide +kernel) rfl
set_option maxRecDepth 100000 in
theorem ok_X11_untell : MOk mX11_untell 2 := ⟨in_gwi 929 rfl rfl, in_gwi 68 (by decide +kernel) rfl, ⟨by decide +kernel, by decide +kernel, by decide +kernel⟩, by decide +kernel, by decide⟩
set_option maxRecDepth 100000 in
theorem im_X11_untell : Cond.instanceMethod mX11_untell.1 ∈ gw := in_gwi 927 (by decide +kernel) rfl
set_option maxRecDepth 100000 in
theorem se_X11_untell : Cond.selects mX11_untell.1.cls mX11_untell.1 mX11_untell.1 ∈ gw := in_gwi 928 (by decide +kernel) rfl
set_option maxRecDepth 100000 in
theorem ok_X11_whole : MOk mX11_whole 3 := ⟨in_gwi 937 rfl rfl, in_gwi 68 (by decide +kernel) rfl, ⟨by decide +kernel, by decide +kernel, by decide +kernel⟩, by decide +kernel, by decide⟩
set_option maxRecDepth 100000 in
theorem im_X11_whole : Cond.instanceMethod mX11_whole.1 ∈ gw := in_gwi 935 (by decide +kernel) rfl
set_option maxRecDepth 100000 in
theorem se_X11_whole : Cond.selects mX11_whole.1.cls mX11_whole.1 mX11_whole.1 ∈ gw := in_gwi 936 (by decide +kernel) rfl
set_option maxRecDepth 100000 in
theorem ok_X11_free : MOk mX11_free 4 := ⟨in_gwi 949 rfl rfl, in_gwi 68 (by decide +kernel) rfl, ⟨by decide +kernel, by decide +kernel, by decide +kernel⟩, by decide +kernel, by decide⟩
set_option maxRecDepth 100000 in
theorem im_X11_free : Cond.instanceMethod mX11_free.1 ∈ gw := in_gwi 947 (by decide +kernel) rfl
set_option maxRecDepth 100000 in
theorem se_X11_free : Cond.selects mX11_free.1.cls mX11_free.1 mX11_free.1 ∈ gw := in_gwi 948 (by decide +kernel) rfl
set_option maxRecDepth 100000 in
theorem ok_X11_about : MOk mX11_about 1 := ⟨in_gwi 957 rfl rfl, in_gwi 68 (by decide +kernel) rfl, ⟨by decide +kernel, by decide +kernel, by decide +kernel⟩, by decide +kernel, by decide⟩
set_option maxRecDepth 100000 in
theorem im_X11_about : Cond.instanceMethod mX11_about.1 ∈ gw := in_gwi 955 (by decide +kernel) rfl
set_option maxRecDepth 100000 in
theorem se_X11_about : Cond.selects mX11_about.1.cls mX11_about.1 mX11_about.1 ∈ gw := in_gwi 956 (by decide +kernel) rfl
set_option maxRecDepth 100000 in
theorem ok_X11_within : MOk mX11_within 3 := ⟨in_gwi 363 rfl rfl, in_gwi 68 (by decide +kernel) rfl, ⟨by decide +kernel, by decide +kernel, by decide +kernel⟩, by decide +kernel, by decide⟩
set_option maxRecDepth 100000 in
theorem st_X11_within : Cond.static mX11_within.1 ∈ gw := in_gwi 362 (by decide +kernel) rfl
set_option maxRecDepth 100000 in
theorem ok_X11_hasBit : MOk mX11_hasBit 2 := ⟨in_gwi 458 rfl rfl, in_gwi 68 (by decide +kernel) rfl, ⟨by decide +kernel, by decide +kernel, by decide +kernel⟩, by decide +kernel, by decide⟩
set_option maxRecDepth 100000 in
theorem st_X11_hasBit : Cond.static mX11_hasBit.1 ∈ gw := in_gwi 457 (by decide +kernel) rfl
set_option maxRecDepth 100000 in
theorem ok_X12_init : MOk mX12_init 0 := ⟨in_gwi 962 rfl rfl, in_gwi 78 (by decide +kernel) rfl, ⟨by decide +kernel, by decide +kernel, by decide +kernel⟩, by decide +kernel, by decide⟩
set_option maxRecDepth 100000 in
theorem im_X12_init : Cond.instanceMethod mX12_init.1 ∈ gw := in_gwi 961 (by decide +kernel) rfl
set_option maxRecDepth 100000 in
theorem ok_X12_isHorse : MOk mX12_isHorse 1 := ⟨in_gwi 1157 rfl rfl, in_gwi 78 (by decide +kernel) rfl, ⟨by decide +kernel, by decide +kernel, by decide +kernel⟩, by decide +kernel, by decide⟩
set_option maxRecDepth 100000 in
theorem im_X12_isHorse : Cond.instanceMethod mX12_isHorse.1 ∈ gw := in_gwi 1156 (by decide +kernel) rfl
set_option maxRecDepth 100000 in
theorem se_X12_isHorse : Cond.selects mX12_isHorse.1.cls mX12_isHorse.1 mX12_isHorse.1 ∈ gw := in_gwi 34 (by decide +kernel) rfl
set_option maxRecDepth 100000 in
theorem ok_X12_horse : MOk mX12_horse 4 := ⟨in_gwi 1149 rfl rfl, in_gwi 78 (by decide +kernel) rfl, ⟨by decide +kernel, by decide +kernel, by decide +kernel⟩, by decide +kernel, by decide⟩
set_option maxRecDepth 100000 in
theorem im_X12_horse : Cond.instanceMethod mX12_horse.1 ∈ gw := in_gwi 1147 (by decide +kernel) rfl
set_option maxRecDepth 100000 in
theorem se_X12_horse : Cond.selects mX12_horse.1.cls mX12_horse.1 mX12_horse.1 ∈ gw := in_gwi 1148 (by decide +kernel) rfl
set_option maxRecDepth 100000 in
theorem ok_X12_lame : MOk mX12_lame 2 := ⟨in_gwi 1153 rfl rfl, in_gwi 78 (by decide +kernel) rfl, ⟨by decide +kernel, by decide +kernel, by decide +kernel⟩, by decide +kernel, by decide⟩
set_option maxRecDepth 100000 in
theorem im_X12_lame : Cond.instanceMethod mX12_lame.1 ∈ gw := in_gwi 1151 (by decide +kernel) rfl
set_option maxRecDepth 100000 in
theorem se_X12_lame : Cond.selects mX12_lame.1.cls mX12_lame.1 mX12_lame.1 ∈ gw := in_gwi 1152 (by decide +kernel) rfl
set_option maxRecDepth 100000 in
theorem ok_X12_spans : MOk mX12_spans 2 := ⟨in_gwi 1161 rfl rfl, in_gwi 78 (by decide +kernel) rfl, ⟨by decide +kernel, by decide +kernel, by decide +kernel⟩, by decide +kernel, by decide⟩
set_option maxRecDepth 100000 in
theorem im_X12_spans : Cond.instanceMethod mX12_spans.1 ∈ gw := in_gwi 1159 (by decide +kernel) rfl
set_option maxRecDepth 100000 in
theorem se_X12_spans : Cond.selects mX12_spans.1.cls mX12_spans.1 mX12_spans.1 ∈ gw := in_gwi 1160 (by decide +kernel) rfl
set_option maxRecDepth 100000 in
theorem ok_X12_isPlace : MOk mX12_isPlace 1 := ⟨in_gwi 1168 rfl rfl, in_gwi 78 (by decide +kernel) rfl, ⟨by decide +kernel, by decide +kernel, by decide +kernel⟩, by decide +kernel, by decide⟩
set_option maxRecDepth 100000 in
theorem st_X12_isPlace : Cond.static mX12_isPlace.1 ∈ gw := in_gwi 1167 (by decide +kernel) rfl
set_option maxRecDepth 100000 in
theorem ok_X12_way : MOk mX12_way 3 := ⟨in_gwi 1165 rfl rfl, in_gwi 78 (by decide +kernel) rfl, ⟨by decide +kernel, by decide +kernel, by decide +kernel⟩, by decide +kernel, by decide⟩
set_option maxRecDepth 100000 in
theorem im_X12_way : Cond.instanceMethod mX12_way.1 ∈ gw := in_gwi 1163 (by decide +kernel) rfl
set_option maxRecDepth 100000 in
theorem se_X12_way : Cond.selects mX12_way.1.cls mX12_way.1 mX12_way.1 ∈ gw := in_gwi 1164 (by decide +kernel) rfl
set_option maxRecDepth 100000 in
theorem ok_X12_wayOf : MOk mX12_wayOf 2 := ⟨in_gwi 1234 rfl rfl, in_gwi 78 (by decide +kernel) rfl, ⟨by decide +kernel, by decide +kernel, by decide +kernel⟩, by decide +kernel, by decide⟩
set_option maxRecDepth 100000 in
theorem im_X12_wayOf : Cond.instanceMethod mX12_wayOf.1 ∈ gw := in_gwi 1233 (by decide +kernel) rfl
set_option maxRecDepth 100000 in
theorem se_X12_wayOf : Cond.selects mX12_wayOf.1.cls mX12_wayOf.1 mX12_wayOf.1 ∈ gw := in_gwi 42 (by decide +kernel) rfl
set_option maxRecDepth 100000 in
theorem ok_X12_carriages : MOk mX12_carriages 1 := ⟨in_gwi 1172 rfl rfl, in_gwi 78 (by decide +kernel) rfl, ⟨by decide +kernel, by decide +kernel, by decide +kernel⟩, by decide +kernel, by decide⟩
set_option maxRecDepth 100000 in
theorem im_X12_carriages : Cond.instanceMethod mX12_carriages.1 ∈ gw := in_gwi 1170 (by decide +kernel) rfl
set_option maxRecDepth 100000 in
theorem se_X12_carriages : Cond.selects mX12_carriages.1.cls mX12_carriages.1 mX12_carriages.1 ∈ gw := in_gwi 1171 (by decide +kernel) rfl
set_option maxRecDepth 100000 in
theorem ok_X12_need : MOk mX12_need 1 := ⟨in_gwi 1176 rfl rfl, in_gwi 78 (by decide +kernel) rfl, ⟨by decide +kernel, by decide +kernel, by decide +kernel⟩, by decide +kernel, by decide⟩
set_option maxRecDepth 100000 in
theorem im_X12_need : Cond.instanceMethod mX12_need.1 ∈ gw := in_gwi 1174 (by decide +kernel) rfl
set_option maxRecDepth 100000 in
theorem se_X12_need : Cond.selects mX12_need.1.cls mX12_need.1 mX12_need.1 ∈ gw := in_gwi 1175 (by decide +kernel) rfl
set_option maxRecDepth 100000 in
theorem ok_X12_many : MOk mX12_many 1 := ⟨in_gwi 1187 rfl rfl, in_gwi 78 (by decide +kernel) rfl, ⟨by decide +kernel, by decide +kernel, by decide +kernel⟩, by decide +kernel, by decide⟩
set_option maxRecDepth 100000 in
theorem st_X12_many : Cond.static mX12_many.1 ∈ gw := in_gwi 1186 (by decide +kernel) rfl
set_option maxRecDepth 100000 in
theorem ok_X12_far : MOk mX12_far 2 := ⟨in_gwi 1194 rfl rfl, in_gwi 78 (by decide +kernel) rfl, ⟨by decide +kernel, by decide +kernel, by decide +kernel⟩, by decide +kernel, by decide⟩
set_option maxRecDepth 100000 in
theorem st_X12_far : Cond.static mX12_far.1 ∈ gw := in_gwi 1193 (by decide +kernel) rfl
set_option maxRecDepth 100000 in
theorem ok_X12_doMatch : MOk mX12_doMatch 1 := ⟨in_gwi 1191 rfl rfl, in_gwi 78 (by decide +kernel) rfl, ⟨by decide +kernel, by decide +kernel, by decide +kernel⟩, by decide +kernel, by decide⟩
set_option maxRecDepth 100000 in
theorem im_X12_doMatch : Cond.instanceMethod mX12_doMatch.1 ∈ gw := in_gwi 1190 (by decide +kernel) rfl
set_option maxRecDepth 100000 in
theorem se_X12_doMatch : Cond.selects mX12_doMatch.1.cls mX12_doMatch.1 mX12_doMatch.1 ∈ gw := in_gwi 36 (by decide +kernel) rfl
set_option maxRecDepth 100000 in
theorem ok_X12_isSet : MOk mX12_isSet 1 := ⟨in_gwi 1184 rfl rfl, in_gwi 78 (by decide +kernel) rfl, ⟨by decide +kernel, by decide +kernel, by decide +kernel⟩, by decide +kernel, by decide⟩
set_option maxRecDepth 100000 in
theorem im_X12_isSet : Cond.instanceMethod mX12_isSet.1 ∈ gw := in_gwi 1183 (by decide +kernel) rfl
set_option maxRecDepth 100000 in
theorem se_X12_isSet : Cond.selects mX12_isSet.1.cls mX12_isSet.1 mX12_isSet.1 ∈ gw := in_gwi 35 (by decide +kernel) rfl
set_option maxRecDepth 100000 in
theorem ok_X12_match : MOk mX12_match 1 := ⟨in_gwi 1180 rfl rfl, in_gwi 78 (by decide +kernel) rfl, ⟨by decide +kernel, by decide +kernel, by decide +kernel⟩, by decide +kernel, by decide⟩
set_option maxRecDepth 100000 in
theorem im_X12_match : Cond.instanceMethod mX12_match.1 ∈ gw := in_gwi 1178 (by decide +kernel) rfl
set_option maxRecDepth 100000 in
theorem se_X12_match : Cond.selects mX12_match.1.cls mX12_match.1 mX12_match.1 ∈ gw := in_gwi 1179 (by decide +kernel) rfl
set_option maxRecDepth 100000 in
theorem ok_X12_matches : MOk mX12_matches 1 := ⟨in_gwi 1198 rfl rfl, in_gwi 78 (by decide +kernel) rfl, ⟨by decide +kernel, by decide +kernel, by decide +kernel⟩, by decide +kernel, by decide⟩
set_option maxRecDepth 100000 in
theorem im_X12_matches : Cond.instanceMethod mX12_matches.1 ∈ gw := in_gwi 1196 (by decide +kernel) rfl
set_option maxRecDepth 100000 in
theorem se_X12_matches : Cond.selects mX12_matches.1.cls mX12_matches.1 mX12_matches.1 ∈ gw := in_gwi 1197 (by decide +kernel) rfl
set_option maxRecDepth 100000 in
theorem ok_X12_job : MOk mX12_job 6 := ⟨in_gwi 1202 rfl rfl, in_gwi 78 (by decide +kernel) rfl, ⟨by decide +kernel, by decide +kernel, by decide +kernel⟩, by decide +kernel, by decide⟩
set_option maxRecDepth 100000 in
theorem im_X12_job : Cond.instanceMethod mX12_job.1 ∈ gw := in_gwi 1200 (by decide +kernel) rfl
set_option maxRecDepth 100000 in
theorem se_X12_job : Cond.selects mX12_job.1.cls mX12_job.1 mX12_job.1 ∈ gw := in_gwi 1201 (by decide +kernel) rfl
set_option maxRecDepth 100000 in
theorem ok_X12_copy : MOk mX12_copy 2 := ⟨in_gwi 1206 rfl rfl, in_gwi 78 (by decide +kernel) rfl, ⟨by decide +kernel, by decide +kernel, by decide +kernel⟩, by decide +kernel, by decide⟩
set_option maxRecDepth 100000 in
theorem im_X12_copy : Cond.instanceMethod mX12_copy.1 ∈ gw := in_gwi 1205 (by decide +kernel) rfl
set_option maxRecDepth 100000 in
theorem se_X12_copy : Cond.selects mX12_copy.1.cls mX12_copy.1 mX12_copy.1 ∈ gw := in_gwi 37 (by decide +kernel) rfl
set_option maxRecDepth 100000 in
theorem ok_X12_isJob : MOk mX12_isJob 1 := ⟨in_gwi 1218 rfl rfl, in_gwi 78 (by decide +kernel) rfl, ⟨by decide +kernel, by decide +kernel, by decide +kernel⟩, by decide +kernel, by decide⟩
set_option maxRecDepth 100000 in
theorem im_X12_isJob : Cond.instanceMethod mX12_isJob.1 ∈ gw := in_gwi 1217 (by decide +kernel) rfl
set_option maxRecDepth 100000 in
theorem se_X12_isJob : Cond.selects mX12_isJob.1.cls mX12_isJob.1 mX12_isJob.1 ∈ gw := in_gwi 39 (by decide +kernel) rfl
set_option maxRecDepth 100000 in
theorem ok_X12_isOn : MOk mX12_isOn 1 := ⟨in_gwi 1214 rfl rfl, in_gwi 78 (by decide +kernel) rfl, ⟨by decide +kernel, by decide +kernel, by decide +kernel⟩, by decide +kernel, by decide⟩
set_option maxRecDepth 100000 in
theorem im_X12_isOn : Cond.instanceMethod mX12_isOn.1 ∈ gw := in_gwi 1213 (by decide +kernel) rfl
set_option maxRecDepth 100000 in
theorem se_X12_isOn : Cond.selects mX12_isOn.1.cls mX12_isOn.1 mX12_isOn.1 ∈ gw := in_gwi 38 (by decide +kernel) rfl
set_option maxRecDepth 100000 in
theorem ok_X12_drop : MOk mX12_drop 1 := ⟨in_gwi 1210 rfl rfl, in_gwi 78 (by decide +kernel) rfl, ⟨by decide +kernel, by decide +kernel, by decide +kernel⟩, by decide +kernel, by decide⟩
set_option maxRecDepth 100000 in
theorem im_X12_drop : Cond.instanceMethod mX12_drop.1 ∈ gw := in_gwi 1208 (by decide +kernel) rfl
set_option maxRecDepth 100000 in
theorem se_X12_drop : Cond.selects mX12_drop.1.cls mX12_drop.1 mX12_drop.1 ∈ gw := in_gwi 1209 (by decide +kernel) rfl
set_option maxRecDepth 100000 in
theorem ok_X12_drive : MOk mX12_drive 1 := ⟨in_gwi 1230 rfl rfl, in_gwi 78 (by decide +kernel) rfl, ⟨by decide +kernel, by decide +kernel, by decide +kernel⟩, by decide +kernel, by decide⟩
set_option maxRecDepth 100000 in
theorem im_X12_drive : Cond.instanceMethod mX12_drive.1 ∈ gw := in_gwi 1229 (by decide +kernel) rfl
set_option maxRecDepth 100000 in
theorem se_X12_drive : Cond.selects mX12_drive.1.cls mX12_drive.1 mX12_drive.1 ∈ gw := in_gwi 41 (by decide +kernel) rfl
set_option maxRecDepth 100000 in
theorem ok_X12_endOf : MOk mX12_endOf 1 := ⟨in_gwi 1226 rfl rfl, in_gwi 78 (by decide +kernel) rfl, ⟨by decide +kernel, by decide +kernel, by decide +kernel⟩, by decide +kernel, by decide⟩
set_option maxRecDepth 100000 in
theorem im_X12_endOf : Cond.instanceMethod mX12_endOf.1 ∈ gw := in_gwi 1225 (by decide +kernel) rfl
set_option maxRecDepth 100000 in
theorem se_X12_endOf : Cond.selects mX12_endOf.1.cls mX12_endOf.1 mX12_endOf.1 ∈ gw := in_gwi 40 (by decide +kernel) rfl
set_option maxRecDepth 100000 in
theorem ok_X12_of : MOk mX12_of 2 := ⟨in_gwi 1222 rfl rfl, in_gwi 78 (by decide +kernel) rfl, ⟨by decide +kernel, by decide +kernel, by decide +kernel⟩, by decide +kernel, by decide⟩
set_option maxRecDepth 100000 in
theorem im_X12_of : Cond.instanceMethod mX12_of.1 ∈ gw := in_gwi 1220 (by decide +kernel) rfl
set_option maxRecDepth 100000 in
theorem se_X12_of : Cond.selects mX12_of.1.cls mX12_of.1 mX12_of.1 ∈ gw := in_gwi 1221 (by decide +kernel) rfl
set_option maxRecDepth 100000 in
theorem ok_X12_isBehind : MOk mX12_isBehind 2 := ⟨in_gwi 1242 rfl rfl, in_gwi 78 (by decide +kernel) rfl, ⟨by decide +kernel, by decide +kernel, by decide +kernel⟩, by decide +kernel, by decide⟩
set_option maxRecDepth 100000 in
theorem im_X12_isBehind : Cond.instanceMethod mX12_isBehind.1 ∈ gw := in_gwi 1241 (by decide +kernel) rfl
set_option maxRecDepth 100000 in
theorem se_X12_isBehind : Cond.selects mX12_isBehind.1.cls mX12_isBehind.1 mX12_isBehind.1 ∈ gw := in_gwi 43 (by decide +kernel) rfl
set_option maxRecDepth 100000 in
theorem ok_X12_behind : MOk mX12_behind 2 := ⟨in_gwi 1238 rfl rfl, in_gwi 78 (by decide +kernel) rfl, ⟨by decide +kernel, by decide +kernel, by decide +kernel⟩, by decide +kernel, by decide⟩
set_option maxRecDepth 100000 in
theorem im_X12_behind : Cond.instanceMethod mX12_behind.1 ∈ gw := in_gwi 1236 (by decide +kernel) rfl
set_option maxRecDepth 100000 in
theorem se_X12_behind : Cond.selects mX12_behind.1.cls mX12_behind.1 mX12_behind.1 ∈ gw := in_gwi 1237 (by decide +kernel) rfl
set_option maxRecDepth 100000 in
theorem ok_X12_isAhead : MOk mX12_isAhead 2 := ⟨in_gwi 1254 rfl rfl, in_gwi 78 (by decide +kernel) rfl, ⟨by decide +kernel, by decide +kernel, by decide +kernel⟩, by decide +kernel, by decide⟩
set_option maxRecDepth 100000 in
theorem im_X12_isAhead : Cond.instanceMethod mX12_isAhead.1 ∈ gw := in_gwi 1253 (by decide +kernel) rfl
set_option maxRecDepth 100000 in
theorem se_X12_isAhead : Cond.selects mX12_isAhead.1.cls mX12_isAhead.1 mX12_isAhead.1 ∈ gw := in_gwi 45 (by decide +kernel) rfl
set_option maxRecDepth 100000 in
theorem ok_X12_lay : MOk mX12_lay 0 := ⟨in_gwi 1250 rfl rfl, in_gwi 78 (by decide +kernel) rfl, ⟨by decide +kernel, by decide +kernel, by decide +kernel⟩, by decide +kernel, by decide⟩
set_option maxRecDepth 100000 in
theorem im_X12_lay : Cond.instanceMethod mX12_lay.1 ∈ gw := in_gwi 1249 (by decide +kernel) rfl
set_option maxRecDepth 100000 in
theorem se_X12_lay : Cond.selects mX12_lay.1.cls mX12_lay.1 mX12_lay.1 ∈ gw := in_gwi 44 (by decide +kernel) rfl
set_option maxRecDepth 100000 in
theorem ok_X12_look : MOk mX12_look 1 := ⟨in_gwi 1258 rfl rfl, in_gwi 78 (by decide +kernel) rfl, ⟨by decide +kernel, by decide +kernel, by decide +kernel⟩, by decide +kernel, by decide⟩
set_option maxRecDepth 100000 in
theorem im_X12_look : Cond.instanceMethod mX12_look.1 ∈ gw := in_gwi 1257 (by decide +kernel) rfl
set_option maxRecDepth 100000 in
theorem se_X12_look : Cond.selects mX12_look.1.cls mX12_look.1 mX12_look.1 ∈ gw := in_gwi 46 (by decide +kernel) rfl
set_option maxRecDepth 100000 in
theorem ok_X12_empty : MOk mX12_empty 0 := ⟨in_gwi 1246 rfl rfl, in_gwi 78 (by decide +kernel) rfl, ⟨by decide +kernel, by decide +kernel, by decide +kernel⟩, by decide +kernel, by decide⟩
set_option maxRecDepth 100000 in
theorem im_X12_empty : Cond.instanceMethod mX12_empty.1 ∈ gw := in_gwi 1244 (by decide +kernel) rfl
set_option maxRecDepth 100000 in
theorem se_X12_empty : Cond.selects mX12_empty.1.cls mX12_empty.1 mX12_empty.1 ∈ gw := in_gwi 1245 (by decide +kernel) rfl
set_option maxRecDepth 100000 in
theorem ok_X12_chains : MOk mX12_chains 0 := ⟨in_gwi 1262 rfl rfl, in_gwi 78 (by decide +kernel) rfl, ⟨by decide +kernel, by decide +kernel, by decide +kernel⟩, by decide +kernel, by decide⟩
set_option maxRecDepth 100000 in
theorem im_X12_chains : Cond.instanceMethod mX12_chains.1 ∈ gw := in_gwi 1260 (by decide +kernel) rfl
set_option maxRecDepth 100000 in
theorem se_X12_chains : Cond.selects mX12_chains.1.cls mX12_chains.1 mX12_chains.1 ∈ gw := in_gwi 1261 (by decide +kernel) rfl
set_option maxRecDepth 100000 in
theorem ok_X12_chain : MOk mX12_chain 1 := ⟨in_gwi 1266 rfl rfl, in_gwi 78 (by decide +kernel) rfl, ⟨by decide +kernel, by decide +kernel, by decide +kernel⟩, by decide +kernel, by decide⟩
set_option maxRecDepth 100000 in
theorem im_X12_chain : Cond.instanceMethod mX12_chain.1 ∈ gw := in_gwi 1264 (by decide +kernel) rfl
set_option maxRecDepth 100000 in
theorem se_X12_chain : Cond.selects mX12_chain.1.cls mX12_chain.1 mX12_chain.1 ∈ gw := in_gwi 1265 (by decide +kernel) rfl
set_option maxRecDepth 100000 in
theorem ok_X12_team : MOk mX12_team 2 := ⟨in_gwi 1270 rfl rfl, in_gwi 78 (by decide +kernel) rfl, ⟨by decide +kernel, by decide +kernel, by decide +kernel⟩, by decide +kernel, by decide⟩
set_option maxRecDepth 100000 in
theorem im_X12_team : Cond.instanceMethod mX12_team.1 ∈ gw := in_gwi 1268 (by decide +kernel) rfl
set_option maxRecDepth 100000 in
theorem se_X12_team : Cond.selects mX12_team.1.cls mX12_team.1 mX12_team.1 ∈ gw := in_gwi 1269 (by decide +kernel) rfl
set_option maxRecDepth 100000 in
theorem ok_X12_costOf : MOk mX12_costOf 1 := ⟨in_gwi 1282 rfl rfl, in_gwi 78 (by decide +kernel) rfl, ⟨by decide +kernel, by decide +kernel, by decide +kernel⟩, by decide +kernel, by decide⟩
set_option maxRecDepth 100000 in
theorem im_X12_costOf : Cond.instanceMethod mX12_costOf.1 ∈ gw := in_gwi 1281 (by decide +kernel) rfl
set_option maxRecDepth 100000 in
theorem se_X12_costOf : Cond.selects mX12_costOf.1.cls mX12_costOf.1 mX12_costOf.1 ∈ gw := in_gwi 48 (by decide +kernel) rfl
set_option maxRecDepth 100000 in
theorem ok_X12_strengthAt : MOk mX12_strengthAt 2 := ⟨in_gwi 1278 rfl rfl, in_gwi 78 (by decide +kernel) rfl, ⟨by decide +kernel, by decide +kernel, by decide +kernel⟩, by decide +kernel, by decide⟩
set_option maxRecDepth 100000 in
theorem im_X12_strengthAt : Cond.instanceMethod mX12_strengthAt.1 ∈ gw := in_gwi 1277 (by decide +kernel) rfl
set_option maxRecDepth 100000 in
theorem se_X12_strengthAt : Cond.selects mX12_strengthAt.1.cls mX12_strengthAt.1 mX12_strengthAt.1 ∈ gw := in_gwi 47 (by decide +kernel) rfl
set_option maxRecDepth 100000 in
theorem ok_X12_strength : MOk mX12_strength 2 := ⟨in_gwi 1274 rfl rfl, in_gwi 78 (by decide +kernel) rfl, ⟨by decide +kernel, by decide +kernel, by decide +kernel⟩, by decide +kernel, by decide⟩
set_option maxRecDepth 100000 in
theorem im_X12_strength : Cond.instanceMethod mX12_strength.1 ∈ gw := in_gwi 1272 (by decide +kernel) rfl
set_option maxRecDepth 100000 in
theorem se_X12_strength : Cond.selects mX12_strength.1.cls mX12_strength.1 mX12_strength.1 ∈ gw := in_gwi 1273 (by decide +kernel) rfl
set_option maxRecDepth 100000 in
theorem ok_X12_rightOf : MOk mX12_rightOf 2 := ⟨in_gwi 1290 rfl rfl, in_gwi 78 (by decide +kernel) rfl, ⟨by decide +kernel, by decide +kernel, by decide +kernel⟩, by decide +kernel, by decide⟩
set_option maxRecDepth 100000 in
theorem im_X12_rightOf : Cond.instanceMethod mX12_rightOf.1 ∈ gw := in_gwi 1289 (by decide +kernel) rfl
set_option maxRecDepth 100000 in
theorem se_X12_rightOf : Cond.selects mX12_rightOf.1.cls mX12_rightOf.1 mX12_rightOf.1 ∈ gw := in_gwi 49 (by decide +kernel) rfl
set_option maxRecDepth 100000 in
theorem ok_X12_right : MOk mX12_right 1 := ⟨in_gwi 1286 rfl rfl, in_gwi 78 (by decide +kernel) rfl, ⟨by decide +kernel, by decide +kernel, by decide +kernel⟩, by decide +kernel, by decide⟩
set_option maxRecDepth 100000 in
theorem im_X12_right : Cond.instanceMethod mX12_right.1 ∈ gw := in_gwi 1284 (by decide +kernel) rfl
set_option maxRecDepth 100000 in
theorem se_X12_right : Cond.selects mX12_right.1.cls mX12_right.1 mX12_right.1 ∈ gw := in_gwi 1285 (by decide +kernel) rfl
set_option maxRecDepth 100000 in
theorem ok_X12_standIn : MOk mX12_standIn 2 := ⟨in_gwi 1294 rfl rfl, in_gwi 78 (by decide +kernel) rfl, ⟨by decide +kernel, by decide +kernel, by decide +kernel⟩, by decide +kernel, by decide⟩
set_option maxRecDepth 100000 in
theorem im_X12_standIn : Cond.instanceMethod mX12_standIn.1 ∈ gw := in_gwi 1292 (by decide +kernel) rfl
set_option maxRecDepth 100000 in
theorem se_X12_standIn : Cond.selects mX12_standIn.1.cls mX12_standIn.1 mX12_standIn.1 ∈ gw := in_gwi 1293 (by decide +kernel) rfl
set_option maxRecDepth 100000 in
theorem ok_X12_feed : MOk mX12_feed 5 := ⟨in_gwi 1298 rfl rfl, in_gwi 78 (by decide +kernel) rfl, ⟨by decide +kernel, by decide +kernel, by decide +kernel⟩, by decide +kernel, by decide⟩
set_option maxRecDepth 100000 in
theorem im_X12_feed : Cond.instanceMethod mX12_feed.1 ∈ gw := in_gwi 1296 (by decide +kernel) rfl
set_option maxRecDepth 100000 in
theorem se_X12_feed : Cond.selects mX12_feed.1.cls mX12_feed.1 mX12_feed.1 ∈ gw := in_gwi 1297 (by decide +kernel) rfl
set_option maxRecDepth 100000 in
theorem ok_X12_four : MOk mX12_four 1 := ⟨in_gwi 1302 rfl rfl, in_gwi 78 (by decide +kernel) rfl, ⟨by decide +kernel, by decide +kernel, by decide +kernel⟩, by decide +kernel, by decide⟩
set_option maxRecDepth 100000 in
theorem im_X12_four : Cond.instanceMethod mX12_four.1 ∈ gw := in_gwi 1301 (by decide +kernel) rfl
set_option maxRecDepth 100000 in
theorem se_X12_four : Cond.selects mX12_four.1.cls mX12_four.1 mX12_four.1 ∈ gw := in_gwi 50 (by decide +kernel) rfl
set_option maxRecDepth 100000 in
theorem ok_X12_end : MOk mX12_end 1 := ⟨in_gwi 1306 rfl rfl, in_gwi 78 (by decide +kernel) rfl, ⟨by decide +kernel, by decide +kernel, by decide +kernel⟩, by decide +kernel, by decide⟩
set_option maxRecDepth 100000 in
theorem im_X12_end : Cond.instanceMethod mX12_end.1 ∈ gw := in_gwi 1304 (by decide +kernel) rfl
set_option maxRecDepth 100000 in
theorem se_X12_end : Cond.selects mX12_end.1.cls mX12_end.1 mX12_end.1 ∈ gw := in_gwi 1305 (by decide +kernel) rfl
set_option maxRecDepth 100000 in
theorem ok_X12_here : MOk mX12_here 1 := ⟨in_gwi 1318 rfl rfl, in_gwi 78 (by decide +kernel) rfl, ⟨by decide +kernel, by decide +kernel, by decide +kernel⟩, by decide +kernel, by decide⟩
set_option maxRecDepth 100000 in
theorem im_X12_here : Cond.instanceMethod mX12_here.1 ∈ gw := in_gwi 1317 (by decide +kernel) rfl
set_option maxRecDepth 100000 in
theorem se_X12_here : Cond.selects mX12_here.1.cls mX12_here.1 mX12_here.1 ∈ gw := in_gwi 52 (by decide +kernel) rfl
set_option maxRecDepth 100000 in
theorem ok_X12_isLetter : MOk mX12_isLetter 1 := ⟨in_gwi 1321 rfl rfl, in_gwi 78 (by decide +kernel) rfl, ⟨by decide +kernel, by decide +kernel, by decide +kernel⟩, by decide +kernel, by decide⟩
set_option maxRecDepth 100000 in
theorem st_X12_isLetter : Cond.static mX12_isLetter.1 ∈ gw := in_gwi 1320 (by decide +kernel) rfl
set_option maxRecDepth 100000 in
theorem ok_X12_isDigit : MOk mX12_isDigit 1 := ⟨in_gwi 1324 rfl rfl, in_gwi 78 (by decide +kernel) rfl, ⟨by decide +kernel, by decide +kernel, by decide +kernel⟩, by decide +kernel, by decide⟩
set_option maxRecDepth 100000 in
theorem st_X12_isDigit : Cond.static mX12_isDigit.1 ∈ gw := in_gwi 1323 (by decide +kernel) rfl
set_option maxRecDepth 100000 in
theorem ok_X12_isSign : MOk mX12_isSign 1 := ⟨in_gwi 1327 rfl rfl, in_gwi 78 (by decide +kernel) rfl, ⟨by decide +kernel, by decide +kernel, by decide +kernel⟩, by decide +kernel, by decide⟩
set_option maxRecDepth 100000 in
theorem st_X12_isSign : Cond.static mX12_isSign.1 ∈ gw := in_gwi 1326 (by decide +kernel) rfl
set_option maxRecDepth 100000 in
theorem ok_X12_next : MOk mX12_next 0 := ⟨in_gwi 1314 rfl rfl, in_gwi 78 (by decide +kernel) rfl, ⟨by decide +kernel, by decide +kernel, by decide +kernel⟩, by decide +kernel, by decide⟩
set_option maxRecDepth 100000 in
theorem im_X12_next : Cond.instanceMethod mX12_next.1 ∈ gw := in_gwi 1313 (by decide +kernel) rfl
set_option maxRecDepth 100000 in
theorem se_X12_next : Cond.selects mX12_next.1.cls mX12_next.1 mX12_next.1 ∈ gw := in_gwi 51 (by decide +kernel) rfl
set_option maxRecDepth 100000 in
theorem ok_X12_wrong : MOk mX12_wrong 1 := ⟨in_gwi 1337 rfl rfl, in_gwi 78 (by decide +kernel) rfl, ⟨by decide +kernel, by decide +kernel, by decide +kernel⟩, by decide +kernel, by decide⟩
set_option maxRecDepth 100000 in
theorem im_X12_wrong : Cond.instanceMethod mX12_wrong.1 ∈ gw := in_gwi 1336 (by decide +kernel) rfl
set_option maxRecDepth 100000 in
theorem se_X12_wrong : Cond.selects mX12_wrong.1.cls mX12_wrong.1 mX12_wrong.1 ∈ gw := in_gwi 54 (by decide +kernel) rfl
set_option maxRecDepth 100000 in
theorem ok_X12_isWord : MOk mX12_isWord 1 := ⟨in_gwi 1332 rfl rfl, in_gwi 78 (by decide +kernel) rfl, ⟨by decide +kernel, by decide +kernel, by decide +kernel⟩, by decide +kernel, by decide⟩
set_option maxRecDepth 100000 in
theorem im_X12_isWord : Cond.instanceMethod mX12_isWord.1 ∈ gw := in_gwi 1331 (by decide +kernel) rfl
set_option maxRecDepth 100000 in
theorem se_X12_isWord : Cond.selects mX12_isWord.1.cls mX12_isWord.1 mX12_isWord.1 ∈ gw := in_gwi 53 (by decide +kernel) rfl
set_option maxRecDepth 100000 in
theorem ok_X12_named : MOk mX12_named 0 := ⟨in_gwi 1380 rfl rfl, in_gwi 78 (by decide +kernel) rfl, ⟨by decide +kernel, by decide +kernel, by decide +kernel⟩, by decide +kernel, by decide⟩
