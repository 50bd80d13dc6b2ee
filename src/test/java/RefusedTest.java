/** A call that is refused for what it finds: it changes nothing but THE RECORD, and that only where it is told. */
public final class RefusedTest {
    private static final Check CHECK = new Check("RefusedTest");
    private static final int[] FAR_NAMES = {
        0, -1, 9973, 9983, Integer.MIN_VALUE, Integer.MIN_VALUE + 10, Integer.MAX_VALUE, 10 + 65536,
    };

    /** Houses 0 LASTING (seed 10, all reasons), 1 SPANNED by 5 days (seed 20, not reason 0), 2 ONCE (seed 33, none). */
    private static final Story TOWN = Story.of("person 0 1 2 3; person 4 5 6 7; person 1 1 1 1; person 2 2 2 2;"
            + "house 0 1 10 255 0; house 1 5 20 254 3; house 2 1 33 0 0;"
            + "name 0 0; name 0 1; name 1 0; name 2 0; bridge 0 1 3 4; bridge 1 0 0 3000; bridge 2 0 0 3000; day 2");

    public static void main(String[] args) {
        daysThatAreGone();
        whoIsInAnotherOne();
        whoIsInNobody();
        whoIsStruckOutAlready();
        whoIsStruckOutIsNotNamed();
        bridgesToNowhere();
        crossingWithoutABridge();
        crossingWithoutAName();
        crossingWithANameOfAnotherSpan();
        crossingOfTheStruckOut();
        crossingFromALostBook();
        turningBackWithoutAReason();
        turningBackByOneHand();
        turningBackWithoutAName();
        turningBackOfTheStruckOut();
        turningBackWithoutABook();
        whatIsWrongInTwoWaysIsNotOnRecord();
        booksThatAreLostOrNot();
        readingChangesNothing();
        everyRefusalIsOneEntryMore();
        CHECK.end();
    }

    private static void daysThatAreGone() {
        CHECK.refused(TOWN, "day 1");
        CHECK.refused(TOWN, "day 0");
        CHECK.refused(TOWN, "day 3001");
        CHECK.answers(TOWN, "day 2", 1);
        CHECK.answers(TOWN, "day 3", 1);
        CHECK.same("after the day that it is", TOWN.then("day 2").seen(), TOWN.seen());
    }

    private static void whoIsInAnotherOne() {
        Story pairs = TOWN.then("one 0 1; one 3 2");
        for (int p = 0; p < 4; p++) {
            CHECK.refused(TOWN, "one " + p + " " + p);
            CHECK.refused(pairs, "one " + p + " " + p);
            CHECK.refused(pairs, "one 1 " + p);
            CHECK.refused(pairs, "one " + p + " 1");
            CHECK.refused(pairs, "one 2 " + p);
            CHECK.refused(pairs, "one " + p + " 2");
        }
        CHECK.answers(pairs, "one 0 3", 1);
        CHECK.answers(pairs, "one 3 0", 1);
        CHECK.answers(pairs, "part 1; one 1 0", 1);
        CHECK.answers(pairs, "part 1; one 3 1", 1);
        CHECK.answers(pairs, "strike 0; one 3 0", 1);
        CHECK.refused(pairs.then("one 0 3"), "one 3 0");
        CHECK.refused(pairs.then("one 0 3"), "one 2 0");
    }

    private static void whoIsInNobody() {
        for (int p = 0; p < 4; p++) {
            CHECK.refused(TOWN, "part " + p);
        }
        Story chain = TOWN.then("one 1 0; one 2 1");
        CHECK.refused(chain, "part 2");
        CHECK.refused(chain, "part 3");
        CHECK.refused(chain.then("part 1"), "part 1");
        CHECK.refused(chain.then("part 1"), "part 2");
        CHECK.answers(chain, "part 1; part 0", 1);
        CHECK.answers(chain, "strike 0; part 0", 1);
    }

    private static void whoIsStruckOutAlready() {
        CHECK.refused(TOWN.then("strike 0"), "strike 0");
        Story chain = TOWN.then("one 1 0; one 2 1");
        for (int first = 0; first < 3; first++) {
            for (int second = 0; second < 3; second++) {
                CHECK.refused(chain.then("strike " + first), "strike " + second);
            }
            CHECK.answers(chain.then("strike " + first), "strike 3", 1);
        }
        CHECK.refused(chain.then("strike 3; one 3 2"), "strike 0");
        CHECK.refused(chain.then("strike 3; one 2 3"), "strike 0");
        CHECK.refused(chain.then("strike 3; one 2 3; part 3; part 1; part 0"), "strike 0");
        CHECK.refused(chain.then("strike 3; one 2 3; part 3; part 1; part 0"), "strike 2");
        CHECK.answers(chain.then("part 0; strike 3; one 2 3"), "strike 0", 1);
        CHECK.answers(chain.then("part 0; strike 0"), "strike 2", 1);
    }

    private static void whoIsStruckOutIsNotNamed() {
        String[] ways = {
            "strike 0", "one 1 0; strike 1", "one 0 1; strike 1", "one 1 0; strike 1; part 0", "strike 2; one 2 0",
            "strike 2; one 0 2", "strike 2; one 0 2; part 2", "strike 2; one 2 1; part 1; one 0 1; part 1",
        };
        for (String way : ways) {
            for (int h = 0; h < 3; h++) {
                CHECK.refused(TOWN.then(way), "name " + h + " 0");
            }
            CHECK.answers(TOWN.then(way), "leads 0 10", 10);
            CHECK.answers(TOWN.then(way), "tell 3", 4);
            CHECK.answers(TOWN.then(way), "name 2 3", 66);
            CHECK.answers(TOWN.then(way), "look 0 2", 1);
        }
    }

    private static void bridgesToNowhere() {
        for (int h = 0; h < 3; h++) {
            CHECK.refused(TOWN, "bridge " + h + " " + h + " 0 3000");
            CHECK.refused(TOWN, "bridge " + h + " 3 0 3000");
            CHECK.refused(TOWN, "bridge 3 " + h + " 0 3000");
            CHECK.refused(TOWN, "holds " + h + " " + h + " 2");
        }
        CHECK.refused(TOWN, "bridge 0 1 1 0");
        CHECK.refused(TOWN, "bridge 0 1 3000 2999");
        CHECK.refused(TOWN, "bridge 0 1 3000 0");
    }

    private static void crossingWithoutABridge() {
        CHECK.refusedOnRecord(TOWN, "cross 0 1 10 7", 2, 0, 10, 7, -1, 2);
        CHECK.answers(TOWN, "day 3; cross 0 1 10 7", 20);
        CHECK.answers(TOWN, "day 4; cross 0 1 10 7", 20);
        CHECK.refusedOnRecord(TOWN.then("day 5"), "cross 0 1 10 7", 2, 0, 10, 7, -1, 5);
        CHECK.refusedOnRecord(TOWN.then("day 3000"), "cross 0 1 10 7", 2, 0, 10, 7, -1, 3000);
        CHECK.refusedOnRecord(TOWN, "cross 0 2 10 0", 2, 0, 10, 0, -1, 2);
        CHECK.refusedOnRecord(TOWN, "cross 1 2 20 9", 2, 1, 20, 9, -1, 2);
        for (int h = 0; h < 3; h++) {
            int name = new int[] {10, 20, 33}[h];
            CHECK.refusedOnRecord(TOWN, "cross " + h + " " + h + " " + name + " 1", 2, h, name, 1, -1, 2);
        }
    }

    private static void crossingWithoutAName() {
        Story day3 = TOWN.then("day 3");
        for (int name : FAR_NAMES) {
            CHECK.refusedOnRecord(day3, "cross 0 1 " + name + " 0", 2, 0, name, 0, -1, 3);
            CHECK.refusedOnRecord(day3, "cross 2 0 " + name + " 9", 2, 2, name, 9, -1, 3);
        }
        CHECK.refusedOnRecord(day3, "cross 0 1 30 0", 2, 0, 30, 0, -1, 3);
        CHECK.refusedOnRecord(day3, "cross 0 1 33 0", 2, 0, 33, 0, -1, 3);
        CHECK.refusedOnRecord(day3, "cross 1 0 10 0", 2, 1, 10, 0, -1, 3);
        CHECK.refusedOnRecord(day3, "cross 2 0 66 0", 2, 2, 66, 0, -1, 3);
        CHECK.answers(day3, "cross 0 1 20 0", 40);
        CHECK.answers(day3, "cross 2 0 33 0", 10);
    }

    private static void crossingWithANameOfAnotherSpan() {
        CHECK.answers(TOWN, "day 4; cross 1 0 20 0", 10);
        CHECK.refusedOnRecord(TOWN.then("day 5"), "cross 1 0 20 0", 2, 1, 20, 0, -1, 5);
        CHECK.refusedOnRecord(TOWN.then("day 3000"), "cross 1 0 20 0", 2, 1, 20, 0, -1, 3000);
        Story next = TOWN.then("day 5; name 1 0");
        CHECK.answers(next, "cross 1 0 40 0", 10);
        CHECK.answers(next, "day 9; cross 1 0 40 0", 10);
        CHECK.refusedOnRecord(next.then("day 10"), "cross 1 0 40 0", 2, 1, 40, 0, -1, 10);
        CHECK.refusedOnRecord(next, "cross 1 0 20 0", 2, 1, 20, 0, -1, 5);
        // Only SPANNED names grow old: LASTING and ONCE ones cross on any day.
        CHECK.answers(TOWN, "day 3000; cross 2 0 33 0", 10);
        CHECK.answers(TOWN, "bridge 0 2 3000 3000; day 3000; cross 0 2 10 0", 66);
    }

    private static void crossingOfTheStruckOut() {
        String[] ways = {"strike 0", "one 1 0; strike 1", "one 1 0; strike 1; part 0", "strike 3; one 0 3; part 3"};
        for (String way : ways) {
            CHECK.refusedOnRecord(TOWN.then("day 3").then(way), "cross 0 1 10 0", 2, 0, 10, 0, -1, 3);
            CHECK.refusedOnRecord(TOWN.then(way), "cross 1 0 20 9", 2, 1, 20, 9, -1, 2);
            CHECK.refusedOnRecord(TOWN.then(way), "cross 2 0 33 9", 2, 2, 33, 9, -1, 2);
        }
        CHECK.answers(TOWN, "strike 1; cross 2 0 33 9", 10);
        CHECK.answers(TOWN, "strike 3; cross 2 0 33 9", 10);
    }

    private static void crossingFromALostBook() {
        CHECK.refusedOnRecord(TOWN.then("lose 2"), "cross 2 0 33 9", 2, 2, 33, 9, -1, 2);
        CHECK.refusedOnRecord(TOWN.then("lose 2; lose 0"), "cross 2 0 33 9", 2, 2, 33, 9, -1, 2);
        CHECK.answers(TOWN, "lose 0; cross 2 0 33 9", 10);
        CHECK.answers(TOWN, "lose 1; cross 2 0 33 9", 10);
        CHECK.answers(TOWN, "lose 2; anew 2 33; cross 2 0 33 9", 10);
    }

    private static void turningBackWithoutAReason() {
        for (int reason = 0; reason < 8; reason++) {
            CHECK.refusedOnRecord(TOWN, "back 2 33 " + reason + " 0 9", 3, 2, 33, 0, 9, 2);
        }
        CHECK.refusedOnRecord(TOWN, "back 1 20 0 9 0", 3, 1, 20, 9, 0, 2);
        CHECK.answers(TOWN, "back 1 20 1 9 0", 0);
        CHECK.answers(TOWN, "back 1 20 7 9 0", 0);
    }

    private static void turningBackByOneHand() {
        for (int hand = 0; hand < 10; hand++) {
            CHECK.refusedOnRecord(TOWN, "back 0 20 0 " + hand + " " + hand, 3, 0, 20, hand, hand, 2);
        }
        CHECK.answers(TOWN, "back 0 20 0 0 1", 1);
        CHECK.answers(TOWN, "back 0 20 0 9 8", 1);
    }

    private static void turningBackWithoutAName() {
        for (int name : FAR_NAMES) {
            CHECK.refusedOnRecord(TOWN, "back 0 " + name + " 7 1 2", 3, 0, name, 1, 2, 2);
        }
        CHECK.refusedOnRecord(TOWN, "back 0 30 7 1 2", 3, 0, 30, 1, 2, 2);
        CHECK.refusedOnRecord(TOWN, "back 0 33 7 1 2", 3, 0, 33, 1, 2, 2);
        CHECK.refusedOnRecord(TOWN, "back 1 10 7 1 2", 3, 1, 10, 1, 2, 2);
        CHECK.refusedOnRecord(TOWN, "back 1 40 7 1 2", 3, 1, 40, 1, 2, 2);
        CHECK.answers(TOWN, "day 3000; back 1 20 7 1 2", 0);
    }

    private static void turningBackOfTheStruckOut() {
        String[] ways = {"strike 0", "one 1 0; strike 1", "one 1 0; strike 1; part 0", "strike 3; one 0 3; part 3"};
        for (String way : ways) {
            CHECK.refusedOnRecord(TOWN.then(way), "back 0 10 0 3 4", 3, 0, 10, 3, 4, 2);
            CHECK.refusedOnRecord(TOWN.then(way), "back 1 20 1 4 3", 3, 1, 20, 4, 3, 2);
        }
        CHECK.answers(TOWN, "strike 1; back 0 10 0 3 4", 0);
    }

    private static void turningBackWithoutABook() {
        CHECK.refusedOnRecord(TOWN.then("lose 0"), "back 0 10 0 3 4", 3, 0, 10, 3, 4, 2);
        CHECK.refusedOnRecord(TOWN.then("lose 1"), "back 1 20 1 3 4", 3, 1, 20, 3, 4, 2);
        CHECK.answers(TOWN, "lose 1; back 0 10 0 3 4", 0);
        CHECK.answers(TOWN, "lose 0; back 1 20 1 3 4", 0);
        CHECK.answers(TOWN, "lose 0; anew 0 10; back 0 10 0 3 4", 0);
        CHECK.answers(TOWN, "lose 0; anew 0 20; back 0 10 0 3 4", -1);
    }

    private static void whatIsWrongInTwoWaysIsNotOnRecord() {
        String[] calls = {
            "cross 0 1 11 10", "cross 0 0 10 -1", "cross 3 3 10 0", "cross 3 0 11 10", "cross -1 -1 -1 -1",
            "back 0 11 8 0 1", "back 0 10 0 10 10", "back 0 10 0 -1 -1", "back 3 11 0 0 0", "back 2 33 8 0 0",
            "back 2 33 -1 0 1", "back -1 -1 -1 -1 -1",
        };
        for (String call : calls) {
            CHECK.refused(TOWN, call);
            CHECK.refused(TOWN.then("strike 0; lose 0"), call);
        }
    }

    private static void booksThatAreLostOrNot() {
        CHECK.refused(TOWN, "anew 0 10");
        CHECK.refused(TOWN, "anew 0 0");
        Story lost = TOWN.then("lose 0");
        CHECK.refused(lost, "lose 0");
        for (int seed : new int[] {9, 11, 20, 33, 0, -10, 1, 9972, 9973, 9983, 10 + 65536}) {
            CHECK.refused(lost, "anew 0 " + seed);
        }
        CHECK.refused(lost, "anew 1 20");
        CHECK.refused(lost.then("anew 0 10"), "anew 0 10");
        CHECK.answers(lost, "anew 0 10; lose 0", 1);
        CHECK.same("made anew", lost.then("anew 0 10").seen(), TOWN.seen());
        CHECK.same("made anew twice", lost.then("anew 0 10; lose 0; anew 0 10").seen(), TOWN.seen());
    }

    private static void readingChangesNothing() {
        Story later = TOWN.then("day 3; cross 0 1 10 1; back 0 20 1 2 3; one 0 1; strike 2; lose 2");
        String[] readings = {
            "leads 0 20", "holds 0 1 3", "joins 0 1 15", "least 0 15", "count 1 0 0", "record 0 0", "given 0 0", "look 1 0",
            "tell 20",
        };
        for (String reading : readings) {
            CHECK.same("after " + reading, later.then(reading).seen(), later.seen());
        }
        CHECK.same("after all of them", later.then(String.join(";", readings)).seen(), later.seen());
    }

    private static void everyRefusalIsOneEntryMore() {
        Story three = TOWN.then("cross 0 1 10 1; cross 0 1 10 1; back 0 10 0 5 5");
        CHECK.answers(three, "tell 4", 3);
        CHECK.refusedOnRecord(three, "back 0 10 0 5 5", 3, 0, 10, 5, 5, 2);
        CHECK.refusedOnRecord(three, "cross 0 1 10 1", 2, 0, 10, 1, -1, 2);
        CHECK.answers(three.then("day 3; cross 0 1 10 8"), "record 3 0", 0);
        CHECK.answers(three.then("day 3; cross 0 1 10 8"), "record 2 0", 3);
    }
}
