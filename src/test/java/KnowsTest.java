/** Promises 17 (joins), 18 (least), 19 (count). */
public final class KnowsTest {
    private static final Check CHECK = new Check("KnowsTest");

    public static void main(String[] args) {
        housesKnowHeadsThatAreNotStruckOut();
        eachHouseKnowsItsOwn();
        theSmallestGroupCanBeAnyones();
        groupsAreMadeByMarks();
        whoIsAloneInBothCouldBeJoined();
        smallCountsDoNotLeave();
        countsWithFewOthersDoNotLeave();
        zeroCountsCanBeHeldBackToo();
        everyLeastIsHeldAgainstEveryCount();
        marksAreThoseOfTheHead();
        wrongOnesAreNotAnswered();
        CHECK.end();
    }

    private static void housesKnowHeadsThatAreNotStruckOut() {
        OtherNames x = new OtherNames();
        for (int p = 0; p < 4; p++) {
            x.person(p, 0, 0, 0);
        }
        x.house(2, 1, 1, 0, 0);
        CHECK.due("least, nobody", x.least(0, 0), 0);
        x.name(0, 0);
        x.name(0, 0);
        CHECK.due("one with two names", x.least(0, 0), 1);
        x.name(0, 1);
        x.name(0, 2);
        CHECK.due("three", x.least(0, 0), 3);
        x.one(3, 0);
        CHECK.due("a head that was never named", x.count(0, 0, 3), 1);
        CHECK.due("instead of the owner", x.count(0, 0, 0), 0);
        x.one(3, 1);
        CHECK.due("two of one head", x.least(0, 0), 2);
        CHECK.due("tell(20)", x.tell(20), 2);
        x.strike(1);
        CHECK.due("struck out", x.least(0, 0), 1);
        x.strike(2);
        CHECK.due("all struck out", x.least(0, 15), 0);
        CHECK.due("tell(20)", x.tell(20), 0);
        CHECK.due("tell(10)", x.tell(10), 4);
    }

    private static void eachHouseKnowsItsOwn() {
        OtherNames x = new OtherNames();
        for (int p = 0; p < 5; p++) {
            x.person(p, 0, 0, 0);
            x.house(p % 3, 1, 1, 0, 0);
        }
        for (int h = 0; h < 5; h++) {
            for (int p = 0; p < h; p++) {
                x.name(h, p);
            }
        }
        for (int h = 0; h < 5; h++) {
            CHECK.due("tell(20 + h) " + h, x.tell(20 + h), h);
            CHECK.due("least(h, 0) " + h, x.least(h, 0), h);
            CHECK.due("count(h, 1, 0) " + h, x.count(h, 1, 0), h);
            for (int g = 0; g < 5; g++) {
                CHECK.due("joins(h, g, 15) " + h + " " + g, x.joins(h, g, 15), h == g ? -1 : Math.min(h, g));
            }
        }
    }

    private static void theSmallestGroupCanBeAnyones() {
        for (int alone = 0; alone < 24; alone++) {
            OtherNames x = new OtherNames();
            x.house(0, 1, 1, 0, 0);
            x.house(0, 1, 1, 0, 0);
            for (int p = 0; p < 24; p++) {
                x.person(0, 0, 0, p == alone ? 1 : 0);
                x.name(0, p);
                x.name(1, p);
            }
            CHECK.due("least by MARK 3, alone " + alone, x.least(0, 8), 1);
            CHECK.due("least by the others, alone " + alone, x.least(0, 7), 24);
            CHECK.due("joins by MARK 3, alone " + alone, x.joins(0, 1, 8), 1);
            CHECK.due("count of MARK 3, alone " + alone, x.count(1, 3, 1), 1);
        }
    }

    private static void groupsAreMadeByMarks() {
        OtherNames x = new OtherNames();
        int[][] marks = {{1, 1, 5, 2}, {1, 1, 5, 2}, {1, 2, 5, 2}, {1, 2, 5, 3}, {1, 2, 5, 3}, {1, 2, 5, 2}};
        x.house(0, 1, 1, 0, 24);
        for (int p = 0; p < marks.length; p++) {
            x.person(marks[p][0], marks[p][1], marks[p][2], marks[p][3]);
            x.name(0, p);
        }
        int[] dues = {6, 6, 2, 2, 6, 6, 2, 2, 2, 2, 2, 2, 2, 2, 2, 2};
        for (int bits = 0; bits < 16; bits++) {
            CHECK.due("least by " + bits, x.least(0, bits), dues[bits]);
        }
        x.mark(5, 2, 6);
        CHECK.due("least by 4", x.least(0, 4), 1);
        CHECK.due("least by 1", x.least(0, 1), 6);
        CHECK.due("least by 8", x.least(0, 8), 2);
        CHECK.due("least by 10", x.least(0, 10), 2);
        CHECK.due("least by 14", x.least(0, 14), 1);
    }

    private static void whoIsAloneInBothCouldBeJoined() {
        OtherNames x = new OtherNames();
        x.person(0, 0, 0, 0);
        x.person(0, 1, 0, 0);
        x.person(0, 2, 0, 0);
        x.person(0, 2, 0, 0);
        x.house(0, 1, 1, 0, 0);
        x.house(2, 1, 2, 0, 0);
        x.name(0, 0);
        x.name(0, 1);
        x.name(0, 2);
        x.name(1, 1);
        x.name(1, 2);
        x.name(1, 3);
        CHECK.due("1 is alone in both, 2 in one only", x.joins(0, 1, 2), 1);
        CHECK.due("the other way", x.joins(1, 0, 2), 1);
        CHECK.due("by all marks", x.joins(0, 1, 15), 1);
        CHECK.due("by no marks", x.joins(0, 1, 0), 0);
        x.mark(3, 1, 7);
        CHECK.due("now 2 is alone, too", x.joins(0, 1, 2), 2);
        CHECK.due("by another mark", x.joins(0, 1, 4), 0);
        x.one(3, 2);
        CHECK.due("3 and 2 are one", x.joins(0, 1, 2), 2);
        x.strike(1);
        CHECK.due("1 is struck out", x.joins(0, 1, 2), 1);
        x.strike(0);
        CHECK.due("one is left: no marks are needed", x.joins(0, 1, 0), 1);
        x.strike(3);
        CHECK.due("nobody is left", x.joins(0, 1, 15), 0);
    }

    /** A house of the LEAST told that knows as many with MARK 1 being 0, 1, 2 .. as are told. */
    private static OtherNames withNumbers(int least, int... counts) {
        OtherNames x = new OtherNames();
        x.house(0, 1, 1, 0, least);
        int p = 0;
        for (int n = 0; n < counts.length; n++) {
            for (int i = 0; i < counts[n]; i++) {
                x.person(0, n, 0, 0);
                x.name(0, p);
                p++;
            }
        }
        return x;
    }

    private static void smallCountsDoNotLeave() {
        OtherNames x = withNumbers(3, 1, 2, 3, 4);
        int[] dues = {-2, -2, 3, 4, 0, 0, 0, 0};
        for (int n = 0; n < 8; n++) {
            CHECK.due("count(0, 1, n) " + n, x.count(0, 1, n), dues[n]);
        }
        CHECK.due("all have it", x.count(0, 0, 0), 10);
        OtherNames open = withNumbers(0, 1, 1);
        CHECK.due("LEAST 0", open.count(0, 1, 0), 1);
        OtherNames one = withNumbers(1, 1, 1);
        CHECK.due("LEAST 1", one.count(0, 1, 1), 1);
        OtherNames whole = withNumbers(24, 23);
        CHECK.due("23 of LEAST 24", whole.count(0, 1, 0), -2);
        OtherNames full = withNumbers(24, 24);
        CHECK.due("24 of LEAST 24", full.count(0, 1, 0), 24);
    }

    private static void countsWithFewOthersDoNotLeave() {
        OtherNames x = withNumbers(3, 5, 2);
        CHECK.due("5, two others", x.count(0, 1, 0), -2);
        CHECK.due("2", x.count(0, 1, 1), -2);
        OtherNames y = withNumbers(3, 5, 3);
        CHECK.due("5, three others", y.count(0, 1, 0), 5);
        CHECK.due("3", y.count(0, 1, 1), 3);
        y.strike(7);
        CHECK.due("5, two others left", y.count(0, 1, 0), -2);
        OtherNames z = withNumbers(3, 5);
        CHECK.due("5, no others", z.count(0, 1, 0), 5);
    }

    private static void zeroCountsCanBeHeldBackToo() {
        OtherNames x = withNumbers(3, 2);
        CHECK.due("0, two others", x.count(0, 1, 5), -2);
        OtherNames y = withNumbers(3, 3);
        CHECK.due("0, three others", y.count(0, 1, 5), 0);
        OtherNames z = withNumbers(3);
        CHECK.due("0, nobody", z.count(0, 1, 5), 0);
    }

    private static void everyLeastIsHeldAgainstEveryCount() {
        for (int having = 0; having <= 24; having++) {
            for (int others = 0; others <= 24 - having; others++) {
                for (int least = 0; least < 25; least += 5) {
                    fiveLeastsAgainst(least, having, others);
                }
            }
        }
    }

    private static void fiveLeastsAgainst(int least, int having, int others) {
        OtherNames x = new OtherNames();
        for (int h = 0; h < 5; h++) {
            x.house(0, 1, 1, 0, least + h);
        }
        for (int p = 0; p < having + others; p++) {
            x.person(0, 0, p < having ? 7 : p % 7, 0);
            for (int h = 0; h < 5; h++) {
                x.name(h, p);
            }
        }
        for (int h = 0; h < 5; h++) {
            boolean small = having > 0 && having < least + h || others > 0 && others < least + h;
            String call = "LEAST " + (least + h) + ", " + having + " and " + others + " others";
            CHECK.due(call, x.count(h, 2, 7), small ? -2 : having);
        }
    }

    private static void marksAreThoseOfTheHead() {
        OtherNames x = new OtherNames();
        x.person(1, 0, 0, 0);
        x.person(2, 0, 0, 0);
        x.house(0, 1, 1, 0, 0);
        x.name(0, 1);
        x.one(0, 1);
        CHECK.due("count(0, 0, 1)", x.count(0, 0, 1), 1);
        CHECK.due("count(0, 0, 2)", x.count(0, 0, 2), 0);
        x.part(1);
        CHECK.due("count(0, 0, 1)", x.count(0, 0, 1), 0);
        CHECK.due("count(0, 0, 2)", x.count(0, 0, 2), 1);
        x.mark(1, 0, 6);
        CHECK.due("count(0, 0, 6)", x.count(0, 0, 6), 1);
    }

    private static void wrongOnesAreNotAnswered() {
        OtherNames x = withNumbers(0, 1, 1);
        x.house(0, 1, 1, 0, 0);
        x.name(1, 0);
        CHECK.due("joins(0, 0, 1)", x.joins(0, 0, 1), -1);
        CHECK.due("joins(0, 2, 1)", x.joins(0, 2, 1), -1);
        CHECK.due("joins(2, 0, 1)", x.joins(2, 0, 1), -1);
        CHECK.due("joins(0, 1, 16)", x.joins(0, 1, 16), -1);
        CHECK.due("joins(0, 1, -1)", x.joins(0, 1, -1), -1);
        CHECK.due("least(2, 0)", x.least(2, 0), -1);
        CHECK.due("least(-1, 0)", x.least(-1, 0), -1);
        CHECK.due("least(0, 16)", x.least(0, 16), -1);
        CHECK.due("least(0, -1)", x.least(0, -1), -1);
        CHECK.due("count(2, 0, 0)", x.count(2, 0, 0), -1);
        CHECK.due("count(-1, 0, 0)", x.count(-1, 0, 0), -1);
        CHECK.due("count(0, 4, 0)", x.count(0, 4, 0), -1);
        CHECK.due("count(0, -1, 0)", x.count(0, -1, 0), -1);
        CHECK.due("count(0, 0, 8)", x.count(0, 0, 8), -1);
        CHECK.due("count(0, 0, -1)", x.count(0, 0, -1), -1);
        for (int wild : Check.WILD) {
            CHECK.due("joins by " + wild, x.joins(0, 1, wild), -1);
            CHECK.due("joins of " + wild, x.joins(wild, 1, 0), -1);
            CHECK.due("joins with " + wild, x.joins(0, wild, 0), -1);
            CHECK.due("least by " + wild, x.least(0, wild), -1);
            CHECK.due("least of " + wild, x.least(wild, 0), -1);
            CHECK.due("count of " + wild, x.count(wild, 0, 0), -1);
            CHECK.due("count of mark " + wild, x.count(0, wild, 0), -1);
            CHECK.due("count of number " + wild, x.count(0, 0, wild), -1);
        }
    }
}
